theorem dL_below_0 : decode cL_below 0 = .ok (.iload_n 0, 1) := by decide +kernel
theorem dL_below_1 : decode cL_below 1 = .ok (.ldc 7, 2) := by decide +kernel
theorem dL_below_3 : decode cL_below 3 = .ok (.iand, 1) := by decide +kernel
theorem dL_below_4 : decode cL_below 4 = .ok (.iload_n 1, 1) := by decide +kernel
theorem dL_below_5 : decode cL_below 5 = .ok (.irem, 1) := by decide +kernel
theorem dL_below_6 : decode cL_below 6 = .ok (.ireturn, 1) := by decide +kernel
theorem dL_cell_0 : decode cL_cell 0 = .ok (.iload_n 1, 1) := by decide +kernel
theorem dL_cell_1 : decode cL_cell 1 = .ok (.aload_n 0, 1) := by decide +kernel
theorem dL_cell_2 : decode cL_cell 2 = .ok (.arraylength, 1) := by decide +kernel
theorem dL_cell_3 : decode cL_cell 3 = .ok (.if_icmp .ge 9, 3) := by decide +kernel
theorem dL_cell_6 : decode cL_cell 6 = .ok (.aload_n 0, 1) := by decide +kernel
theorem dL_cell_7 : decode cL_cell 7 = .ok (.iload_n 1, 1) := by decide +kernel
theorem dL_cell_8 : decode cL_cell 8 = .ok (.iaload, 1) := by decide +kernel
theorem dL_cell_9 : decode cL_cell 9 = .ok (.goto 9, 3) := by decide +kernel
theorem dL_cell_12 : decode cL_cell 12 = .ok (.ldc 8, 2) := by decide +kernel
theorem dL_cell_14 : decode cL_cell 14 = .ok (.iload_n 1, 1) := by decide +kernel
theorem dL_cell_15 : decode cL_cell 15 = .ok (.iconst 3, 1) := by decide +kernel
theorem dL_cell_16 : decode cL_cell 16 = .ok (.iadd, 1) := by decide +kernel
theorem dL_cell_17 : decode cL_cell 17 = .ok (.imul, 1) := by decide +kernel
theorem dL_cell_18 : decode cL_cell 18 = .ok (.ireturn, 1) := by decide +kernel
theorem dL_act_0 : decode cL_act 0 = .ok (.iload_n 2, 1) := by decide +kernel
theorem dL_act_1 : decode cL_act 1 = .ok (.iconst 4, 1) := by decide +kernel
theorem dL_act_2 : decode cL_act 2 = .ok (.ishr, 1) := by decide +kernel
theorem dL_act_3 : decode cL_act 3 = .ok (.aload_n 1, 1) := by decide +kernel
theorem dL_act_4 : decode cL_act 4 = .ok (.invokevirtual 9, 3) := by decide +kernel
theorem dL_act_7 : decode cL_act 7 = .ok (.invokestatic 15, 3) := by decide +kernel
theorem dL_act_10 : decode cL_act 10 = .ok (.istore_n 3, 1) := by decide +kernel
theorem dL_act_11 : decode cL_act 11 = .ok (.aload_n 1, 1) := by decide +kernel
theorem dL_act_12 : decode cL_act 12 = .ok (.getfield 21, 3) := by decide +kernel
theorem dL_act_15 : decode cL_act 15 = .ok (.arraylength, 1) := by decide +kernel
theorem dL_act_16 : decode cL_act 16 = .ok (.istore 4, 2) := by decide +kernel
theorem dL_act_18 : decode cL_act 18 = .ok (.iload_n 2, 1) := by decide +kernel
theorem dL_act_19 : decode cL_act 19 = .ok (.bipush 14, 2) := by decide +kernel
theorem dL_act_21 : decode cL_act 21 = .ok (.invokestatic 15, 3) := by decide +kernel
theorem dL_act_24 : decode cL_act 24 = .ok (.tableswitch 609 0 10 #[60, 125, 125, 152, 265, 265, 265, 350, 432, 516, 516], 60) := by decide +kernel
theorem dL_act_84 : decode cL_act 84 = .ok (.iload_n 2, 1) := by decide +kernel
theorem dL_act_85 : decode cL_act 85 = .ok (.bipush 9, 2) := by decide +kernel
theorem dL_act_87 : decode cL_act 87 = .ok (.ishr, 1) := by decide +kernel
theorem dL_act_88 : decode cL_act 88 = .ok (.bipush 6, 2) := by decide +kernel
theorem dL_act_90 : decode cL_act 90 = .ok (.invokestatic 15, 3) := by decide +kernel
theorem dL_act_93 : decode cL_act 93 = .ok (.ifCond .le 5, 3) := by decide +kernel
theorem dL_act_96 : decode cL_act 96 = .ok (.iconst 1, 1) := by decide +kernel
theorem dL_act_97 : decode cL_act 97 = .ok (.ireturn, 1) := by decide +kernel
theorem dL_act_98 : decode cL_act 98 = .ok (.aload_n 1, 1) := by decide +kernel
theorem dL_act_99 : decode cL_act 99 = .ok (.getfield 25, 3) := by decide +kernel
theorem dL_act_102 : decode cL_act 102 = .ok (.istore 5, 2) := by decide +kernel
theorem dL_act_104 : decode cL_act 104 = .ok (.aload_n 1, 1) := by decide +kernel
theorem dL_act_105 : decode cL_act 105 = .ok (.iconst 2, 1) := by decide +kernel
theorem dL_act_106 : decode cL_act 106 = .ok (.iload_n 2, 1) := by decide +kernel
theorem dL_act_107 : decode cL_act 107 = .ok (.iconst 4, 1) := by decide +kernel
theorem dL_act_108 : decode cL_act 108 = .ok (.ishr, 1) := by decide +kernel
theorem dL_act_109 : decode cL_act 109 = .ok (.iconst 2, 1) := by decide +kernel
theorem dL_act_110 : decode cL_act 110 = .ok (.invokestatic 15, 3) := by decide +kernel
theorem dL_act_113 : decode cL_act 113 = .ok (.iadd, 1) := by decide +kernel
theorem dL_act_114 : decode cL_act 114 = .ok (.putfield 25, 3) := by decide +kernel
theorem dL_act_117 : decode cL_act 117 = .ok (.aload_n 1, 1) := by decide +kernel
theorem dL_act_118 : decode cL_act 118 = .ok (.iconst (-1), 1) := by decide +kernel
theorem dL_act_119 : decode cL_act 119 = .ok (.putfield 29, 3) := by decide +kernel
theorem dL_act_122 : decode cL_act 122 = .ok (.aload_n 1, 1) := by decide +kernel
theorem dL_act_123 : decode cL_act 123 = .ok (.iconst 0, 1) := by decide +kernel
theorem dL_act_124 : decode cL_act 124 = .ok (.anewarray 32, 3) := by decide +kernel
theorem dL_act_127 : decode cL_act 127 = .ok (.putfield 21, 3) := by decide +kernel
theorem dL_act_130 : decode cL_act 130 = .ok (.aload_n 0, 1) := by decide +kernel
theorem dL_act_131 : decode cL_act 131 = .ok (.aload_n 1, 1) := by decide +kernel
theorem dL_act_132 : decode cL_act 132 = .ok (.getfield 25, 3) := by decide +kernel
theorem dL_act_135 : decode cL_act 135 = .ok (.invokevirtual 34, 3) := by decide +kernel
theorem dL_act_138 : decode cL_act 138 = .ok (.iload 5, 2) := by decide +kernel
theorem dL_act_140 : decode cL_act 140 = .ok (.if_icmp .ne 7, 3) := by decide +kernel
theorem dL_act_143 : decode cL_act 143 = .ok (.iconst 1, 1) := by decide +kernel
theorem dL_act_144 : decode cL_act 144 = .ok (.goto 4, 3) := by decide +kernel
theorem dL_act_147 : decode cL_act 147 = .ok (.iconst 0, 1) := by decide +kernel
theorem dL_act_148 : decode cL_act 148 = .ok (.ireturn, 1) := by decide +kernel
theorem dL_act_149 : decode cL_act 149 = .ok (.aload_n 1, 1) := by decide +kernel
theorem dL_act_150 : decode cL_act 150 = .ok (.getfield 29, 3) := by decide +kernel
theorem dL_act_153 : decode cL_act 153 = .ok (.istore 5, 2) := by decide +kernel
theorem dL_act_155 : decode cL_act 155 = .ok (.aload_n 1, 1) := by decide +kernel
theorem dL_act_156 : decode cL_act 156 = .ok (.iload_n 3, 1) := by decide +kernel
theorem dL_act_157 : decode cL_act 157 = .ok (.putfield 29, 3) := by decide +kernel
theorem dL_act_160 : decode cL_act 160 = .ok (.aload_n 0, 1) := by decide +kernel
theorem dL_act_161 : decode cL_act 161 = .ok (.iload_n 3, 1) := by decide +kernel
theorem dL_act_162 : decode cL_act 162 = .ok (.invokevirtual 40, 3) := by decide +kernel
theorem dL_act_165 : decode cL_act 165 = .ok (.iload 5, 2) := by decide +kernel
theorem dL_act_167 : decode cL_act 167 = .ok (.if_icmp .ne 7, 3) := by decide +kernel
theorem dL_act_170 : decode cL_act 170 = .ok (.iconst 1, 1) := by decide +kernel
theorem dL_act_171 : decode cL_act 171 = .ok (.goto 4, 3) := by decide +kernel
theorem dL_act_174 : decode cL_act 174 = .ok (.iconst 0, 1) := by decide +kernel
theorem dL_act_175 : decode cL_act 175 = .ok (.ireturn, 1) := by decide +kernel
theorem dL_act_176 : decode cL_act 176 = .ok (.iload_n 2, 1) := by decide +kernel
theorem dL_act_177 : decode cL_act 177 = .ok (.iconst 4, 1) := by decide +kernel
theorem dL_act_178 : decode cL_act 178 = .ok (.ishr, 1) := by decide +kernel
theorem dL_act_179 : decode cL_act 179 = .ok (.iconst 4, 1) := by decide +kernel
theorem dL_act_180 : decode cL_act 180 = .ok (.invokestatic 15, 3) := by decide +kernel
theorem dL_act_183 : decode cL_act 183 = .ok (.istore 5, 2) := by decide +kernel
theorem dL_act_185 : decode cL_act 185 = .ok (.iload_n 2, 1) := by decide +kernel
theorem dL_act_186 : decode cL_act 186 = .ok (.bipush 6, 2) := by decide +kernel
theorem dL_act_188 : decode cL_act 188 = .ok (.ishr, 1) := by decide +kernel
theorem dL_act_189 : decode cL_act 189 = .ok (.iconst 4, 1) := by decide +kernel
theorem dL_act_190 : decode cL_act 190 = .ok (.invokestatic 15, 3) := by decide +kernel
theorem dL_act_193 : decode cL_act 193 = .ok (.istore 6, 2) := by decide +kernel
theorem dL_act_195 : decode cL_act 195 = .ok (.aload_n 1, 1) := by decide +kernel
theorem dL_act_196 : decode cL_act 196 = .ok (.getfield 29, 3) := by decide +kernel
theorem dL_act_199 : decode cL_act 199 = .ok (.ifCond .lt 47, 3) := by decide +kernel
theorem dL_act_202 : decode cL_act 202 = .ok (.aload_n 1, 1) := by decide +kernel
theorem dL_act_203 : decode cL_act 203 = .ok (.aload_n 1, 1) := by decide +kernel
theorem dL_act_204 : decode cL_act 204 = .ok (.getfield 29, 3) := by decide +kernel
theorem dL_act_207 : decode cL_act 207 = .ok (.invokevirtual 43, 3) := by decide +kernel
theorem dL_act_210 : decode cL_act 210 = .ok (.astore 7, 2) := by decide +kernel
theorem dL_act_212 : decode cL_act 212 = .ok (.aload 7, 2) := by decide +kernel
theorem dL_act_214 : decode cL_act 214 = .ok (.iload 5, 2) := by decide +kernel
theorem dL_act_216 : decode cL_act 216 = .ok (.iaload, 1) := by decide +kernel
theorem dL_act_217 : decode cL_act 217 = .ok (.istore 8, 2) := by decide +kernel
theorem dL_act_219 : decode cL_act 219 = .ok (.aload 7, 2) := by decide +kernel
theorem dL_act_221 : decode cL_act 221 = .ok (.iload 5, 2) := by decide +kernel
theorem dL_act_223 : decode cL_act 223 = .ok (.aload 7, 2) := by decide +kernel
theorem dL_act_225 : decode cL_act 225 = .ok (.iload 6, 2) := by decide +kernel
theorem dL_act_227 : decode cL_act 227 = .ok (.iaload, 1) := by decide +kernel
theorem dL_act_228 : decode cL_act 228 = .ok (.iastore, 1) := by decide +kernel
theorem dL_act_229 : decode cL_act 229 = .ok (.aload 7, 2) := by decide +kernel
theorem dL_act_231 : decode cL_act 231 = .ok (.iload 6, 2) := by decide +kernel
theorem dL_act_233 : decode cL_act 233 = .ok (.iload 8, 2) := by decide +kernel
theorem dL_act_235 : decode cL_act 235 = .ok (.iastore, 1) := by decide +kernel
theorem dL_act_236 : decode cL_act 236 = .ok (.aload_n 1, 1) := by decide +kernel
theorem dL_act_237 : decode cL_act 237 = .ok (.aload_n 1, 1) := by decide +kernel
theorem dL_act_238 : decode cL_act 238 = .ok (.aload 7, 2) := by decide +kernel
theorem dL_act_240 : decode cL_act 240 = .ok (.invokevirtual 47, 3) := by decide +kernel
theorem dL_act_243 : decode cL_act 243 = .ok (.putfield 29, 3) := by decide +kernel
theorem dL_act_246 : decode cL_act 246 = .ok (.aload_n 0, 1) := by decide +kernel
theorem dL_act_247 : decode cL_act 247 = .ok (.iload 5, 2) := by decide +kernel
theorem dL_act_249 : decode cL_act 249 = .ok (.iload 6, 2) := by decide +kernel
theorem dL_act_251 : decode cL_act 251 = .ok (.invokevirtual 51, 3) := by decide +kernel
theorem dL_act_254 : decode cL_act 254 = .ok (.aload_n 1, 1) := by decide +kernel
theorem dL_act_255 : decode cL_act 255 = .ok (.getfield 29, 3) := by decide +kernel
theorem dL_act_258 : decode cL_act 258 = .ok (.if_icmp .ne 14, 3) := by decide +kernel
theorem dL_act_261 : decode cL_act 261 = .ok (.aload_n 1, 1) := by decide +kernel
theorem dL_act_262 : decode cL_act 262 = .ok (.getfield 29, 3) := by decide +kernel
theorem dL_act_265 : decode cL_act 265 = .ok (.ifCond .lt 7, 3) := by decide +kernel
theorem dL_act_268 : decode cL_act 268 = .ok (.iconst 1, 1) := by decide +kernel
theorem dL_act_269 : decode cL_act 269 = .ok (.goto 4, 3) := by decide +kernel
theorem dL_act_272 : decode cL_act 272 = .ok (.iconst 0, 1) := by decide +kernel
theorem dL_act_273 : decode cL_act 273 = .ok (.ireturn, 1) := by decide +kernel
theorem dL_act_274 : decode cL_act 274 = .ok (.astore 7, 2) := by decide +kernel
theorem dL_act_276 : decode cL_act 276 = .ok (.aload_n 1, 1) := by decide +kernel
theorem dL_act_277 : decode cL_act 277 = .ok (.getfield 29, 3) := by decide +kernel
theorem dL_act_280 : decode cL_act 280 = .ok (.ifCond .ge 7, 3) := by decide +kernel
theorem dL_act_283 : decode cL_act 283 = .ok (.iconst 1, 1) := by decide +kernel
theorem dL_act_284 : decode cL_act 284 = .ok (.goto 4, 3) := by decide +kernel
theorem dL_act_287 : decode cL_act 287 = .ok (.iconst 0, 1) := by decide +kernel
theorem dL_act_288 : decode cL_act 288 = .ok (.ireturn, 1) := by decide +kernel
theorem dL_act_289 : decode cL_act 289 = .ok (.aload_n 1, 1) := by decide +kernel
theorem dL_act_290 : decode cL_act 290 = .ok (.getfield 29, 3) := by decide +kernel
theorem dL_act_293 : decode cL_act 293 = .ok (.ifCond .lt 14, 3) := by decide +kernel
theorem dL_act_296 : decode cL_act 296 = .ok (.iload 4, 2) := by decide +kernel
theorem dL_act_298 : decode cL_act 298 = .ok (.bipush 12, 2) := by decide +kernel
theorem dL_act_300 : decode cL_act 300 = .ok (.if_icmp .ge 7, 3) := by decide +kernel
theorem dL_act_303 : decode cL_act 303 = .ok (.iconst 1, 1) := by decide +kernel
theorem dL_act_304 : decode cL_act 304 = .ok (.goto 4, 3) := by decide +kernel
theorem dL_act_307 : decode cL_act 307 = .ok (.iconst 0, 1) := by decide +kernel
theorem dL_act_308 : decode cL_act 308 = .ok (.istore 5, 2) := by decide +kernel
theorem dL_act_310 : decode cL_act 310 = .ok (.iload 5, 2) := by decide +kernel
theorem dL_act_312 : decode cL_act 312 = .ok (.ifCond .eq 17, 3) := by decide +kernel
theorem dL_act_315 : decode cL_act 315 = .ok (.aload_n 1, 1) := by decide +kernel
theorem dL_act_316 : decode cL_act 316 = .ok (.iload_n 3, 1) := by decide +kernel
theorem dL_act_317 : decode cL_act 317 = .ok (.aload_n 1, 1) := by decide +kernel
theorem dL_act_318 : decode cL_act 318 = .ok (.iload_n 3, 1) := by decide +kernel
theorem dL_act_319 : decode cL_act 319 = .ok (.aload_n 1, 1) := by decide +kernel
theorem dL_act_320 : decode cL_act 320 = .ok (.getfield 29, 3) := by decide +kernel
theorem dL_act_323 : decode cL_act 323 = .ok (.invokevirtual 56, 3) := by decide +kernel
theorem dL_act_326 : decode cL_act 326 = .ok (.invokestatic 59, 3) := by decide +kernel
theorem dL_act_329 : decode cL_act 329 = .ok (.aload_n 0, 1) := by decide +kernel
theorem dL_act_330 : decode cL_act 330 = .ok (.iload_n 3, 1) := by decide +kernel
theorem dL_act_331 : decode cL_act 331 = .ok (.invokevirtual 63, 3) := by decide +kernel
theorem dL_act_334 : decode cL_act 334 = .ok (.istore 6, 2) := by decide +kernel
theorem dL_act_336 : decode cL_act 336 = .ok (.iload 5, 2) := by decide +kernel
theorem dL_act_338 : decode cL_act 338 = .ok (.ifCond .eq 21, 3) := by decide +kernel
theorem dL_act_341 : decode cL_act 341 = .ok (.iload 6, 2) := by decide +kernel
theorem dL_act_343 : decode cL_act 343 = .ok (.aload_n 1, 1) := by decide +kernel
theorem dL_act_344 : decode cL_act 344 = .ok (.getfield 21, 3) := by decide +kernel
theorem dL_act_347 : decode cL_act 347 = .ok (.iload 4, 2) := by decide +kernel
theorem dL_act_349 : decode cL_act 349 = .ok (.aaload, 1) := by decide +kernel
theorem dL_act_350 : decode cL_act 350 = .ok (.iconst 1, 1) := by decide +kernel
theorem dL_act_351 : decode cL_act 351 = .ok (.iaload, 1) := by decide +kernel
theorem dL_act_352 : decode cL_act 352 = .ok (.if_icmp .ne 7, 3) := by decide +kernel
theorem dL_act_355 : decode cL_act 355 = .ok (.iconst 1, 1) := by decide +kernel
theorem dL_act_356 : decode cL_act 356 = .ok (.goto 4, 3) := by decide +kernel
theorem dL_act_359 : decode cL_act 359 = .ok (.iconst 0, 1) := by decide +kernel
theorem dL_act_360 : decode cL_act 360 = .ok (.ireturn, 1) := by decide +kernel
theorem dL_act_361 : decode cL_act 361 = .ok (.astore 6, 2) := by decide +kernel
theorem dL_act_363 : decode cL_act 363 = .ok (.iload 5, 2) := by decide +kernel
theorem dL_act_365 : decode cL_act 365 = .ok (.ifCond .ne 7, 3) := by decide +kernel
theorem dL_act_368 : decode cL_act 368 = .ok (.iconst 1, 1) := by decide +kernel
theorem dL_act_369 : decode cL_act 369 = .ok (.goto 4, 3) := by decide +kernel
theorem dL_act_372 : decode cL_act 372 = .ok (.iconst 0, 1) := by decide +kernel
theorem dL_act_373 : decode cL_act 373 = .ok (.ireturn, 1) := by decide +kernel
theorem dL_act_374 : decode cL_act 374 = .ok (.iload_n 2, 1) := by decide +kernel
theorem dL_act_375 : decode cL_act 375 = .ok (.iconst 5, 1) := by decide +kernel
theorem dL_act_376 : decode cL_act 376 = .ok (.ishr, 1) := by decide +kernel
theorem dL_act_377 : decode cL_act 377 = .ok (.iconst 5, 1) := by decide +kernel
theorem dL_act_378 : decode cL_act 378 = .ok (.invokestatic 15, 3) := by decide +kernel
theorem dL_act_381 : decode cL_act 381 = .ok (.istore 5, 2) := by decide +kernel
theorem dL_act_383 : decode cL_act 383 = .ok (.iload 5, 2) := by decide +kernel
theorem dL_act_385 : decode cL_act 385 = .ok (.iconst 3, 1) := by decide +kernel
theorem dL_act_386 : decode cL_act 386 = .ok (.if_icmp .ne 7, 3) := by decide +kernel
theorem dL_act_389 : decode cL_act 389 = .ok (.iconst 0, 1) := by decide +kernel
theorem dL_act_390 : decode cL_act 390 = .ok (.goto 14, 3) := by decide +kernel
theorem dL_act_393 : decode cL_act 393 = .ok (.iload_n 2, 1) := by decide +kernel
theorem dL_act_394 : decode cL_act 394 = .ok (.bipush 8, 2) := by decide +kernel
theorem dL_act_396 : decode cL_act 396 = .ok (.ishr, 1) := by decide +kernel
theorem dL_act_397 : decode cL_act 397 = .ok (.iconst 5, 1) := by decide +kernel
theorem dL_act_398 : decode cL_act 398 = .ok (.iload 5, 2) := by decide +kernel
theorem dL_act_400 : decode cL_act 400 = .ok (.isub, 1) := by decide +kernel
theorem dL_act_401 : decode cL_act 401 = .ok (.invokestatic 15, 3) := by decide +kernel
theorem dL_act_404 : decode cL_act 404 = .ok (.istore 6, 2) := by decide +kernel
theorem dL_act_406 : decode cL_act 406 = .ok (.iload 4, 2) := by decide +kernel
theorem dL_act_408 : decode cL_act 408 = .ok (.bipush 12, 2) := by decide +kernel
theorem dL_act_410 : decode cL_act 410 = .ok (.if_icmp .ne 5, 3) := by decide +kernel
theorem dL_act_413 : decode cL_act 413 = .ok (.iconst 1, 1) := by decide +kernel
theorem dL_act_414 : decode cL_act 414 = .ok (.ireturn, 1) := by decide +kernel
theorem dL_act_415 : decode cL_act 415 = .ok (.aload_n 1, 1) := by decide +kernel
theorem dL_act_416 : decode cL_act 416 = .ok (.iload_n 3, 1) := by decide +kernel
theorem dL_act_417 : decode cL_act 417 = .ok (.iconst 5, 1) := by decide +kernel
theorem dL_act_418 : decode cL_act 418 = .ok (.iload 5, 2) := by decide +kernel
theorem dL_act_420 : decode cL_act 420 = .ok (.imul, 1) := by decide +kernel
theorem dL_act_421 : decode cL_act 421 = .ok (.iload 6, 2) := by decide +kernel
theorem dL_act_423 : decode cL_act 423 = .ok (.iadd, 1) := by decide +kernel
theorem dL_act_424 : decode cL_act 424 = .ok (.invokestatic 59, 3) := by decide +kernel
theorem dL_act_427 : decode cL_act 427 = .ok (.aload_n 0, 1) := by decide +kernel
theorem dL_act_428 : decode cL_act 428 = .ok (.iload_n 3, 1) := by decide +kernel
theorem dL_act_429 : decode cL_act 429 = .ok (.iload 5, 2) := by decide +kernel
theorem dL_act_431 : decode cL_act 431 = .ok (.iload 6, 2) := by decide +kernel
theorem dL_act_433 : decode cL_act 433 = .ok (.invokevirtual 66, 3) := by decide +kernel
theorem dL_act_436 : decode cL_act 436 = .ok (.aload_n 1, 1) := by decide +kernel
theorem dL_act_437 : decode cL_act 437 = .ok (.iload 4, 2) := by decide +kernel
theorem dL_act_439 : decode cL_act 439 = .ok (.iconst 1, 1) := by decide +kernel
theorem dL_act_440 : decode cL_act 440 = .ok (.iadd, 1) := by decide +kernel
theorem dL_act_441 : decode cL_act 441 = .ok (.invokevirtual 70, 3) := by decide +kernel
theorem dL_act_444 : decode cL_act 444 = .ok (.invokestatic 74, 3) := by decide +kernel
theorem dL_act_447 : decode cL_act 447 = .ok (.if_icmp .ne 7, 3) := by decide +kernel
theorem dL_act_450 : decode cL_act 450 = .ok (.iconst 1, 1) := by decide +kernel
theorem dL_act_451 : decode cL_act 451 = .ok (.goto 4, 3) := by decide +kernel
theorem dL_act_454 : decode cL_act 454 = .ok (.iconst 0, 1) := by decide +kernel
theorem dL_act_455 : decode cL_act 455 = .ok (.ireturn, 1) := by decide +kernel
theorem dL_act_456 : decode cL_act 456 = .ok (.iload 4, 2) := by decide +kernel
theorem dL_act_458 : decode cL_act 458 = .ok (.bipush 12, 2) := by decide +kernel
theorem dL_act_460 : decode cL_act 460 = .ok (.if_icmp .eq 11, 3) := by decide +kernel
theorem dL_act_463 : decode cL_act 463 = .ok (.aload_n 0, 1) := by decide +kernel
theorem dL_act_464 : decode cL_act 464 = .ok (.iconst 3, 1) := by decide +kernel
theorem dL_act_465 : decode cL_act 465 = .ok (.invokevirtual 78, 3) := by decide +kernel
theorem dL_act_468 : decode cL_act 468 = .ok (.ifCond .ne 5, 3) := by decide +kernel
theorem dL_act_471 : decode cL_act 471 = .ok (.iconst 1, 1) := by decide +kernel
theorem dL_act_472 : decode cL_act 472 = .ok (.ireturn, 1) := by decide +kernel
theorem dL_act_473 : decode cL_act 473 = .ok (.aload_n 0, 1) := by decide +kernel
theorem dL_act_474 : decode cL_act 474 = .ok (.iload_n 2, 1) := by decide +kernel
theorem dL_act_475 : decode cL_act 475 = .ok (.bipush 8, 2) := by decide +kernel
theorem dL_act_477 : decode cL_act 477 = .ok (.ishr, 1) := by decide +kernel
theorem dL_act_478 : decode cL_act 478 = .ok (.aload_n 0, 1) := by decide +kernel
theorem dL_act_479 : decode cL_act 479 = .ok (.iconst 3, 1) := by decide +kernel
theorem dL_act_480 : decode cL_act 480 = .ok (.invokevirtual 78, 3) := by decide +kernel
theorem dL_act_483 : decode cL_act 483 = .ok (.invokestatic 15, 3) := by decide +kernel
theorem dL_act_486 : decode cL_act 486 = .ok (.invokevirtual 81, 3) := by decide +kernel
theorem dL_act_489 : decode cL_act 489 = .ok (.istore 5, 2) := by decide +kernel
theorem dL_act_491 : decode cL_act 491 = .ok (.aload_n 1, 1) := by decide +kernel
theorem dL_act_492 : decode cL_act 492 = .ok (.iload_n 3, 1) := by decide +kernel
theorem dL_act_493 : decode cL_act 493 = .ok (.iload 5, 2) := by decide +kernel
theorem dL_act_495 : decode cL_act 495 = .ok (.invokevirtual 56, 3) := by decide +kernel
theorem dL_act_498 : decode cL_act 498 = .ok (.istore 6, 2) := by decide +kernel
theorem dL_act_500 : decode cL_act 500 = .ok (.aload_n 1, 1) := by decide +kernel
theorem dL_act_501 : decode cL_act 501 = .ok (.iload_n 3, 1) := by decide +kernel
theorem dL_act_502 : decode cL_act 502 = .ok (.iload 6, 2) := by decide +kernel
theorem dL_act_504 : decode cL_act 504 = .ok (.invokestatic 59, 3) := by decide +kernel
theorem dL_act_507 : decode cL_act 507 = .ok (.aload_n 0, 1) := by decide +kernel
theorem dL_act_508 : decode cL_act 508 = .ok (.iload_n 3, 1) := by decide +kernel
theorem dL_act_509 : decode cL_act 509 = .ok (.iload 6, 2) := by decide +kernel
theorem dL_act_511 : decode cL_act 511 = .ok (.iconst 5, 1) := by decide +kernel
theorem dL_act_512 : decode cL_act 512 = .ok (.idiv, 1) := by decide +kernel
theorem dL_act_513 : decode cL_act 513 = .ok (.iload 6, 2) := by decide +kernel
theorem dL_act_515 : decode cL_act 515 = .ok (.iconst 5, 1) := by decide +kernel
theorem dL_act_516 : decode cL_act 516 = .ok (.irem, 1) := by decide +kernel
theorem dL_act_517 : decode cL_act 517 = .ok (.invokevirtual 66, 3) := by decide +kernel
theorem dL_act_520 : decode cL_act 520 = .ok (.aload_n 1, 1) := by decide +kernel
theorem dL_act_521 : decode cL_act 521 = .ok (.iload 4, 2) := by decide +kernel
theorem dL_act_523 : decode cL_act 523 = .ok (.iconst 1, 1) := by decide +kernel
theorem dL_act_524 : decode cL_act 524 = .ok (.iadd, 1) := by decide +kernel
theorem dL_act_525 : decode cL_act 525 = .ok (.invokevirtual 70, 3) := by decide +kernel
theorem dL_act_528 : decode cL_act 528 = .ok (.invokestatic 74, 3) := by decide +kernel
theorem dL_act_531 : decode cL_act 531 = .ok (.if_icmp .ne 7, 3) := by decide +kernel
theorem dL_act_534 : decode cL_act 534 = .ok (.iconst 1, 1) := by decide +kernel
theorem dL_act_535 : decode cL_act 535 = .ok (.goto 4, 3) := by decide +kernel
theorem dL_act_538 : decode cL_act 538 = .ok (.iconst 0, 1) := by decide +kernel
theorem dL_act_539 : decode cL_act 539 = .ok (.ireturn, 1) := by decide +kernel
theorem dL_act_540 : decode cL_act 540 = .ok (.iload 4, 2) := by decide +kernel
theorem dL_act_542 : decode cL_act 542 = .ok (.ifCond .ne 5, 3) := by decide +kernel
theorem dL_act_545 : decode cL_act 545 = .ok (.iconst 1, 1) := by decide +kernel
theorem dL_act_546 : decode cL_act 546 = .ok (.ireturn, 1) := by decide +kernel
theorem dL_act_547 : decode cL_act 547 = .ok (.aload_n 1, 1) := by decide +kernel
theorem dL_act_548 : decode cL_act 548 = .ok (.getfield 21, 3) := by decide +kernel
theorem dL_act_551 : decode cL_act 551 = .ok (.iload_n 2, 1) := by decide +kernel
theorem dL_act_552 : decode cL_act 552 = .ok (.iconst 5, 1) := by decide +kernel
theorem dL_act_553 : decode cL_act 553 = .ok (.ishr, 1) := by decide +kernel
theorem dL_act_554 : decode cL_act 554 = .ok (.iload 4, 2) := by decide +kernel
theorem dL_act_556 : decode cL_act 556 = .ok (.invokestatic 15, 3) := by decide +kernel
theorem dL_act_559 : decode cL_act 559 = .ok (.aaload, 1) := by decide +kernel
theorem dL_act_560 : decode cL_act 560 = .ok (.astore 5, 2) := by decide +kernel
theorem dL_act_562 : decode cL_act 562 = .ok (.aload 5, 2) := by decide +kernel
theorem dL_act_564 : decode cL_act 564 = .ok (.iconst 2, 1) := by decide +kernel
theorem dL_act_565 : decode cL_act 565 = .ok (.iaload, 1) := by decide +kernel
theorem dL_act_566 : decode cL_act 566 = .ok (.iconst 1, 1) := by decide +kernel
theorem dL_act_567 : decode cL_act 567 = .ok (.if_icmp .ne 7, 3) := by decide +kernel
theorem dL_act_570 : decode cL_act 570 = .ok (.iconst 1, 1) := by decide +kernel
theorem dL_act_571 : decode cL_act 571 = .ok (.goto 4, 3) := by decide +kernel
theorem dL_act_574 : decode cL_act 574 = .ok (.iconst 0, 1) := by decide +kernel
theorem dL_act_575 : decode cL_act 575 = .ok (.istore 6, 2) := by decide +kernel
theorem dL_act_577 : decode cL_act 577 = .ok (.aload 5, 2) := by decide +kernel
theorem dL_act_579 : decode cL_act 579 = .ok (.iconst 2, 1) := by decide +kernel
theorem dL_act_580 : decode cL_act 580 = .ok (.iload_n 2, 1) := by decide +kernel
theorem dL_act_581 : decode cL_act 581 = .ok (.bipush 8, 2) := by decide +kernel
theorem dL_act_583 : decode cL_act 583 = .ok (.ishr, 1) := by decide +kernel
theorem dL_act_584 : decode cL_act 584 = .ok (.iconst 3, 1) := by decide +kernel
theorem dL_act_585 : decode cL_act 585 = .ok (.invokestatic 15, 3) := by decide +kernel
theorem dL_act_588 : decode cL_act 588 = .ok (.ifCond .le 7, 3) := by decide +kernel
theorem dL_act_591 : decode cL_act 591 = .ok (.iconst 1, 1) := by decide +kernel
theorem dL_act_592 : decode cL_act 592 = .ok (.goto 4, 3) := by decide +kernel
theorem dL_act_595 : decode cL_act 595 = .ok (.iconst 0, 1) := by decide +kernel
theorem dL_act_596 : decode cL_act 596 = .ok (.iastore, 1) := by decide +kernel
theorem dL_act_597 : decode cL_act 597 = .ok (.aload_n 0, 1) := by decide +kernel
theorem dL_act_598 : decode cL_act 598 = .ok (.iload_n 2, 1) := by decide +kernel
theorem dL_act_599 : decode cL_act 599 = .ok (.iconst 5, 1) := by decide +kernel
theorem dL_act_600 : decode cL_act 600 = .ok (.ishr, 1) := by decide +kernel
theorem dL_act_601 : decode cL_act 601 = .ok (.iload 4, 2) := by decide +kernel
theorem dL_act_603 : decode cL_act 603 = .ok (.invokestatic 15, 3) := by decide +kernel
theorem dL_act_606 : decode cL_act 606 = .ok (.aload 5, 2) := by decide +kernel
theorem dL_act_608 : decode cL_act 608 = .ok (.iconst 2, 1) := by decide +kernel
theorem dL_act_609 : decode cL_act 609 = .ok (.iaload, 1) := by decide +kernel
theorem dL_act_610 : decode cL_act 610 = .ok (.iconst 1, 1) := by decide +kernel
theorem dL_act_611 : decode cL_act 611 = .ok (.if_icmp .ne 7, 3) := by decide +kernel
theorem dL_act_614 : decode cL_act 614 = .ok (.iconst 1, 1) := by decide +kernel
theorem dL_act_615 : decode cL_act 615 = .ok (.goto 4, 3) := by decide +kernel
theorem dL_act_618 : decode cL_act 618 = .ok (.iconst 0, 1) := by decide +kernel
theorem dL_act_619 : decode cL_act 619 = .ok (.invokevirtual 83, 3) := by decide +kernel
theorem dL_act_622 : decode cL_act 622 = .ok (.iload 6, 2) := by decide +kernel
theorem dL_act_624 : decode cL_act 624 = .ok (.if_icmp .ne 7, 3) := by decide +kernel
theorem dL_act_627 : decode cL_act 627 = .ok (.iconst 1, 1) := by decide +kernel
theorem dL_act_628 : decode cL_act 628 = .ok (.goto 4, 3) := by decide +kernel
theorem dL_act_631 : decode cL_act 631 = .ok (.iconst 0, 1) := by decide +kernel
theorem dL_act_632 : decode cL_act 632 = .ok (.ireturn, 1) := by decide +kernel
theorem dL_act_633 : decode cL_act 633 = .ok (.iload 4, 2) := by decide +kernel
theorem dL_act_635 : decode cL_act 635 = .ok (.ifCond .eq 14, 3) := by decide +kernel
theorem dL_act_638 : decode cL_act 638 = .ok (.iload_n 2, 1) := by decide +kernel
theorem dL_act_639 : decode cL_act 639 = .ok (.bipush 6, 2) := by decide +kernel
theorem dL_act_641 : decode cL_act 641 = .ok (.ishr, 1) := by decide +kernel
theorem dL_act_642 : decode cL_act 642 = .ok (.iconst 2, 1) := by decide +kernel
theorem dL_act_643 : decode cL_act 643 = .ok (.invokestatic 15, 3) := by decide +kernel
theorem dL_act_646 : decode cL_act 646 = .ok (.ifCond .ne 5, 3) := by decide +kernel
theorem dL_act_649 : decode cL_act 649 = .ok (.iconst 1, 1) := by decide +kernel
theorem dL_act_650 : decode cL_act 650 = .ok (.ireturn, 1) := by decide +kernel
theorem dL_act_651 : decode cL_act 651 = .ok (.iload 4, 2) := by decide +kernel
theorem dL_act_653 : decode cL_act 653 = .ok (.iconst 1, 1) := by decide +kernel
theorem dL_act_654 : decode cL_act 654 = .ok (.isub, 1) := by decide +kernel
theorem dL_act_655 : decode cL_act 655 = .ok (.anewarray 32, 3) := by decide +kernel
theorem dL_act_658 : decode cL_act 658 = .ok (.astore 5, 2) := by decide +kernel
theorem dL_act_660 : decode cL_act 660 = .ok (.iconst 0, 1) := by decide +kernel
theorem dL_act_661 : decode cL_act 661 = .ok (.istore 6, 2) := by decide +kernel
theorem dL_act_663 : decode cL_act 663 = .ok (.iload 6, 2) := by decide +kernel
theorem dL_act_665 : decode cL_act 665 = .ok (.iconst 1, 1) := by decide +kernel
theorem dL_act_666 : decode cL_act 666 = .ok (.iadd, 1) := by decide +kernel
theorem dL_act_667 : decode cL_act 667 = .ok (.iload 4, 2) := by decide +kernel
theorem dL_act_669 : decode cL_act 669 = .ok (.if_icmp .ge 21, 3) := by decide +kernel
theorem dL_act_672 : decode cL_act 672 = .ok (.aload 5, 2) := by decide +kernel
theorem dL_act_674 : decode cL_act 674 = .ok (.iload 6, 2) := by decide +kernel
theorem dL_act_676 : decode cL_act 676 = .ok (.aload_n 1, 1) := by decide +kernel
theorem dL_act_677 : decode cL_act 677 = .ok (.getfield 21, 3) := by decide +kernel
theorem dL_act_680 : decode cL_act 680 = .ok (.iload 6, 2) := by decide +kernel
theorem dL_act_682 : decode cL_act 682 = .ok (.aaload, 1) := by decide +kernel
theorem dL_act_683 : decode cL_act 683 = .ok (.aastore, 1) := by decide +kernel
theorem dL_act_684 : decode cL_act 684 = .ok (.iinc 6 1, 3) := by decide +kernel
theorem dL_act_687 : decode cL_act 687 = .ok (.goto (-24), 3) := by decide +kernel
theorem dL_act_690 : decode cL_act 690 = .ok (.aload_n 1, 1) := by decide +kernel
theorem dL_act_691 : decode cL_act 691 = .ok (.getfield 21, 3) := by decide +kernel
theorem dL_act_694 : decode cL_act 694 = .ok (.iload 4, 2) := by decide +kernel
theorem dL_act_696 : decode cL_act 696 = .ok (.iconst 1, 1) := by decide +kernel
theorem dL_act_697 : decode cL_act 697 = .ok (.isub, 1) := by decide +kernel
theorem dL_act_698 : decode cL_act 698 = .ok (.aaload, 1) := by decide +kernel
theorem dL_act_699 : decode cL_act 699 = .ok (.iconst 0, 1) := by decide +kernel
theorem dL_act_700 : decode cL_act 700 = .ok (.iaload, 1) := by decide +kernel
theorem dL_act_701 : decode cL_act 701 = .ok (.istore 6, 2) := by decide +kernel
theorem dL_act_703 : decode cL_act 703 = .ok (.aload_n 1, 1) := by decide +kernel
theorem dL_act_704 : decode cL_act 704 = .ok (.aload 5, 2) := by decide +kernel
theorem dL_act_706 : decode cL_act 706 = .ok (.putfield 21, 3) := by decide +kernel
theorem dL_act_709 : decode cL_act 709 = .ok (.aload_n 0, 1) := by decide +kernel
theorem dL_act_710 : decode cL_act 710 = .ok (.invokevirtual 87, 3) := by decide +kernel
theorem dL_act_713 : decode cL_act 713 = .ok (.iload 6, 2) := by decide +kernel
theorem dL_act_715 : decode cL_act 715 = .ok (.if_icmp .ne 7, 3) := by decide +kernel
theorem dL_act_718 : decode cL_act 718 = .ok (.iconst 1, 1) := by decide +kernel
theorem dL_act_719 : decode cL_act 719 = .ok (.goto 4, 3) := by decide +kernel
theorem dL_act_722 : decode cL_act 722 = .ok (.iconst 0, 1) := by decide +kernel
theorem dL_act_723 : decode cL_act 723 = .ok (.ireturn, 1) := by decide +kernel
theorem dL_add_0 : decode cL_add 0 = .ok (.aload_n 0, 1) := by decide +kernel
theorem dL_add_1 : decode cL_add 1 = .ok (.getfield 21, 3) := by decide +kernel
theorem dL_add_4 : decode cL_add 4 = .ok (.arraylength, 1) := by decide +kernel
theorem dL_add_5 : decode cL_add 5 = .ok (.iconst 1, 1) := by decide +kernel
theorem dL_add_6 : decode cL_add 6 = .ok (.iadd, 1) := by decide +kernel
theorem dL_add_7 : decode cL_add 7 = .ok (.anewarray 32, 3) := by decide +kernel
theorem dL_add_10 : decode cL_add 10 = .ok (.astore_n 3, 1) := by decide +kernel
theorem dL_add_11 : decode cL_add 11 = .ok (.iconst 0, 1) := by decide +kernel
theorem dL_add_12 : decode cL_add 12 = .ok (.istore 4, 2) := by decide +kernel
theorem dL_add_14 : decode cL_add 14 = .ok (.iload 4, 2) := by decide +kernel
theorem dL_add_16 : decode cL_add 16 = .ok (.aload_n 0, 1) := by decide +kernel
theorem dL_add_17 : decode cL_add 17 = .ok (.getfield 21, 3) := by decide +kernel
theorem dL_add_20 : decode cL_add 20 = .ok (.arraylength, 1) := by decide +kernel
theorem dL_add_21 : decode cL_add 21 = .ok (.if_icmp .ge 20, 3) := by decide +kernel
theorem dL_add_24 : decode cL_add 24 = .ok (.aload_n 3, 1) := by decide +kernel
theorem dL_add_25 : decode cL_add 25 = .ok (.iload 4, 2) := by decide +kernel
theorem dL_add_27 : decode cL_add 27 = .ok (.aload_n 0, 1) := by decide +kernel
theorem dL_add_28 : decode cL_add 28 = .ok (.getfield 21, 3) := by decide +kernel
theorem dL_add_31 : decode cL_add 31 = .ok (.iload 4, 2) := by decide +kernel
theorem dL_add_33 : decode cL_add 33 = .ok (.aaload, 1) := by decide +kernel
theorem dL_add_34 : decode cL_add 34 = .ok (.aastore, 1) := by decide +kernel
theorem dL_add_35 : decode cL_add 35 = .ok (.iinc 4 1, 3) := by decide +kernel
theorem dL_add_38 : decode cL_add 38 = .ok (.goto (-24), 3) := by decide +kernel
theorem dL_add_41 : decode cL_add 41 = .ok (.aload_n 3, 1) := by decide +kernel
theorem dL_add_42 : decode cL_add 42 = .ok (.aload_n 0, 1) := by decide +kernel
theorem dL_add_43 : decode cL_add 43 = .ok (.getfield 21, 3) := by decide +kernel
theorem dL_add_46 : decode cL_add 46 = .ok (.arraylength, 1) := by decide +kernel
theorem dL_add_47 : decode cL_add 47 = .ok (.iconst 3, 1) := by decide +kernel
theorem dL_add_48 : decode cL_add 48 = .ok (.newarray .int, 2) := by decide +kernel
theorem dL_add_50 : decode cL_add 50 = .ok (.dup, 1) := by decide +kernel
theorem dL_add_51 : decode cL_add 51 = .ok (.iconst 0, 1) := by decide +kernel
theorem dL_add_52 : decode cL_add 52 = .ok (.iload_n 1, 1) := by decide +kernel
theorem dL_add_53 : decode cL_add 53 = .ok (.iastore, 1) := by decide +kernel
theorem dL_add_54 : decode cL_add 54 = .ok (.dup, 1) := by decide +kernel
theorem dL_add_55 : decode cL_add 55 = .ok (.iconst 1, 1) := by decide +kernel
theorem dL_add_56 : decode cL_add 56 = .ok (.iload_n 2, 1) := by decide +kernel
theorem dL_add_57 : decode cL_add 57 = .ok (.iastore, 1) := by decide +kernel
theorem dL_add_58 : decode cL_add 58 = .ok (.dup, 1) := by decide +kernel
theorem dL_add_59 : decode cL_add 59 = .ok (.iconst 2, 1) := by decide +kernel
theorem dL_add_60 : decode cL_add 60 = .ok (.iconst 0, 1) := by decide +kernel
theorem dL_add_61 : decode cL_add 61 = .ok (.iastore, 1) := by decide +kernel
theorem dL_add_62 : decode cL_add 62 = .ok (.aastore, 1) := by decide +kernel
theorem dL_add_63 : decode cL_add 63 = .ok (.aload_n 0, 1) := by decide +kernel
theorem dL_add_64 : decode cL_add 64 = .ok (.aload_n 3, 1) := by decide +kernel
theorem dL_add_65 : decode cL_add 65 = .ok (.putfield 21, 3) := by decide +kernel
theorem dL_add_68 : decode cL_add 68 = .ok (.return_, 1) := by decide +kernel
theorem dL_build_0 : decode cL_build 0 = .ok (.new 10, 3) := by decide +kernel
theorem dL_build_3 : decode cL_build 3 = .ok (.dup, 1) := by decide +kernel
theorem dL_build_4 : decode cL_build 4 = .ok (.invokespecial 90, 3) := by decide +kernel
theorem dL_build_7 : decode cL_build 7 = .ok (.astore_n 2, 1) := by decide +kernel
theorem dL_build_8 : decode cL_build 8 = .ok (.iconst 0, 1) := by decide +kernel
theorem dL_build_9 : decode cL_build 9 = .ok (.istore_n 3, 1) := by decide +kernel
theorem dL_build_10 : decode cL_build 10 = .ok (.iload_n 3, 1) := by decide +kernel
theorem dL_build_11 : decode cL_build 11 = .ok (.bipush 14, 2) := by decide +kernel
theorem dL_build_13 : decode cL_build 13 = .ok (.if_icmp .ge 40, 3) := by decide +kernel
theorem dL_build_16 : decode cL_build 16 = .ok (.aload_n 0, 1) := by decide +kernel
theorem dL_build_17 : decode cL_build 17 = .ok (.aload_n 2, 1) := by decide +kernel
theorem dL_build_18 : decode cL_build 18 = .ok (.aload_n 1, 1) := by decide +kernel
theorem dL_build_19 : decode cL_build 19 = .ok (.iload_n 3, 1) := by decide +kernel
theorem dL_build_20 : decode cL_build 20 = .ok (.bipush 16, 2) := by decide +kernel
theorem dL_build_22 : decode cL_build 22 = .ok (.irem, 1) := by decide +kernel
theorem dL_build_23 : decode cL_build 23 = .ok (.invokestatic 91, 3) := by decide +kernel
theorem dL_build_26 : decode cL_build 26 = .ok (.iload_n 3, 1) := by decide +kernel
theorem dL_build_27 : decode cL_build 27 = .ok (.bipush 16, 2) := by decide +kernel
theorem dL_build_29 : decode cL_build 29 = .ok (.idiv, 1) := by decide +kernel
theorem dL_build_30 : decode cL_build 30 = .ok (.iconst 5, 1) := by decide +kernel
theorem dL_build_31 : decode cL_build 31 = .ok (.imul, 1) := by decide +kernel
theorem dL_build_32 : decode cL_build 32 = .ok (.ishr, 1) := by decide +kernel
theorem dL_build_33 : decode cL_build 33 = .ok (.sipush 263, 3) := by decide +kernel
theorem dL_build_36 : decode cL_build 36 = .ok (.iload_n 3, 1) := by decide +kernel
theorem dL_build_37 : decode cL_build 37 = .ok (.imul, 1) := by decide +kernel
theorem dL_build_38 : decode cL_build 38 = .ok (.iadd, 1) := by decide +kernel
theorem dL_build_39 : decode cL_build 39 = .ok (.invokestatic 95, 3) := by decide +kernel
theorem dL_build_42 : decode cL_build 42 = .ok (.ifCond .ne 5, 3) := by decide +kernel
theorem dL_build_45 : decode cL_build 45 = .ok (.aconst_null, 1) := by decide +kernel
theorem dL_build_46 : decode cL_build 46 = .ok (.areturn, 1) := by decide +kernel
theorem dL_build_47 : decode cL_build 47 = .ok (.iinc 3 1, 3) := by decide +kernel
theorem dL_build_50 : decode cL_build 50 = .ok (.goto (-40), 3) := by decide +kernel
theorem dL_build_53 : decode cL_build 53 = .ok (.aload_n 2, 1) := by decide +kernel
theorem dL_build_54 : decode cL_build 54 = .ok (.areturn, 1) := by decide +kernel
theorem dL_law_0 : decode cL_law 0 = .ok (.new 35, 3) := by decide +kernel
theorem dL_law_3 : decode cL_law 3 = .ok (.dup, 1) := by decide +kernel
theorem dL_law_4 : decode cL_law 4 = .ok (.invokespecial 99, 3) := by decide +kernel
theorem dL_law_7 : decode cL_law 7 = .ok (.astore_n 1, 1) := by decide +kernel
theorem dL_law_8 : decode cL_law 8 = .ok (.aload_n 1, 1) := by decide +kernel
theorem dL_law_9 : decode cL_law 9 = .ok (.aload_n 0, 1) := by decide +kernel
theorem dL_law_10 : decode cL_law 10 = .ok (.invokestatic 100, 3) := by decide +kernel
theorem dL_law_13 : decode cL_law 13 = .ok (.astore_n 2, 1) := by decide +kernel
theorem dL_law_14 : decode cL_law 14 = .ok (.aload_n 2, 1) := by decide +kernel
theorem dL_law_15 : decode cL_law 15 = .ok (.ifnonnull 5, 3) := by decide +kernel
theorem dL_law_18 : decode cL_law 18 = .ok (.iconst 0, 1) := by decide +kernel
theorem dL_law_19 : decode cL_law 19 = .ok (.ireturn, 1) := by decide +kernel
theorem dL_law_20 : decode cL_law 20 = .ok (.iconst 0, 1) := by decide +kernel
theorem dL_law_21 : decode cL_law 21 = .ok (.istore_n 3, 1) := by decide +kernel
theorem dL_law_22 : decode cL_law 22 = .ok (.iload_n 3, 1) := by decide +kernel
theorem dL_law_23 : decode cL_law 23 = .ok (.bipush 10, 2) := by decide +kernel
theorem dL_law_25 : decode cL_law 25 = .ok (.if_icmp .ge 1028, 3) := by decide +kernel
theorem dL_law_28 : decode cL_law 28 = .ok (.aload_n 0, 1) := by decide +kernel
theorem dL_law_29 : decode cL_law 29 = .ok (.iconst 3, 1) := by decide +kernel
theorem dL_law_30 : decode cL_law 30 = .ok (.iload_n 3, 1) := by decide +kernel
theorem dL_law_31 : decode cL_law 31 = .ok (.iadd, 1) := by decide +kernel
theorem dL_law_32 : decode cL_law 32 = .ok (.invokestatic 91, 3) := by decide +kernel
theorem dL_law_35 : decode cL_law 35 = .ok (.iconst 1, 1) := by decide +kernel
theorem dL_law_36 : decode cL_law 36 = .ok (.ishr, 1) := by decide +kernel
theorem dL_law_37 : decode cL_law 37 = .ok (.sipush 263, 3) := by decide +kernel
theorem dL_law_40 : decode cL_law 40 = .ok (.iload_n 3, 1) := by decide +kernel
theorem dL_law_41 : decode cL_law 41 = .ok (.imul, 1) := by decide +kernel
theorem dL_law_42 : decode cL_law 42 = .ok (.iadd, 1) := by decide +kernel
theorem dL_law_43 : decode cL_law 43 = .ok (.istore 4, 2) := by decide +kernel
theorem dL_law_45 : decode cL_law 45 = .ok (.aload_n 1, 1) := by decide +kernel
theorem dL_law_46 : decode cL_law 46 = .ok (.aload_n 2, 1) := by decide +kernel
theorem dL_law_47 : decode cL_law 47 = .ok (.iload 4, 2) := by decide +kernel
theorem dL_law_49 : decode cL_law 49 = .ok (.invokestatic 95, 3) := by decide +kernel
theorem dL_law_52 : decode cL_law 52 = .ok (.ifCond .ne 5, 3) := by decide +kernel
theorem dL_law_55 : decode cL_law 55 = .ok (.iconst 0, 1) := by decide +kernel
theorem dL_law_56 : decode cL_law 56 = .ok (.ireturn, 1) := by decide +kernel
theorem dL_law_57 : decode cL_law 57 = .ok (.aload_n 1, 1) := by decide +kernel
theorem dL_law_58 : decode cL_law 58 = .ok (.iconst 1, 1) := by decide +kernel
theorem dL_law_59 : decode cL_law 59 = .ok (.invokevirtual 78, 3) := by decide +kernel
theorem dL_law_62 : decode cL_law 62 = .ok (.istore 5, 2) := by decide +kernel
theorem dL_law_64 : decode cL_law 64 = .ok (.aload_n 1, 1) := by decide +kernel
theorem dL_law_65 : decode cL_law 65 = .ok (.iconst 2, 1) := by decide +kernel
theorem dL_law_66 : decode cL_law 66 = .ok (.invokevirtual 78, 3) := by decide +kernel
theorem dL_law_69 : decode cL_law 69 = .ok (.istore 6, 2) := by decide +kernel
theorem dL_law_71 : decode cL_law 71 = .ok (.aload_n 1, 1) := by decide +kernel
theorem dL_law_72 : decode cL_law 72 = .ok (.iconst 3, 1) := by decide +kernel
theorem dL_law_73 : decode cL_law 73 = .ok (.invokevirtual 78, 3) := by decide +kernel
theorem dL_law_76 : decode cL_law 76 = .ok (.istore 7, 2) := by decide +kernel
theorem dL_law_78 : decode cL_law 78 = .ok (.aload_n 1, 1) := by decide +kernel
theorem dL_law_79 : decode cL_law 79 = .ok (.invokevirtual 104, 3) := by decide +kernel
theorem dL_law_82 : decode cL_law 82 = .ok (.lstore 8, 2) := by decide +kernel
theorem dL_law_84 : decode cL_law 84 = .ok (.iconst 0, 1) := by decide +kernel
theorem dL_law_85 : decode cL_law 85 = .ok (.istore 10, 2) := by decide +kernel
theorem dL_law_87 : decode cL_law 87 = .ok (.iconst 4, 1) := by decide +kernel
theorem dL_law_88 : decode cL_law 88 = .ok (.aload_n 1, 1) := by decide +kernel
theorem dL_law_89 : decode cL_law 89 = .ok (.iconst 0, 1) := by decide +kernel
theorem dL_law_90 : decode cL_law 90 = .ok (.invokevirtual 78, 3) := by decide +kernel
theorem dL_law_93 : decode cL_law 93 = .ok (.multianewarray 108 2, 4) := by decide +kernel
theorem dL_law_97 : decode cL_law 97 = .ok (.astore 11, 2) := by decide +kernel
theorem dL_law_99 : decode cL_law 99 = .ok (.iconst 0, 1) := by decide +kernel
theorem dL_law_100 : decode cL_law 100 = .ok (.istore 12, 2) := by decide +kernel
theorem dL_law_102 : decode cL_law 102 = .ok (.iload 12, 2) := by decide +kernel
theorem dL_law_104 : decode cL_law 104 = .ok (.iload 5, 2) := by decide +kernel
theorem dL_law_106 : decode cL_law 106 = .ok (.if_icmp .ge 152, 3) := by decide +kernel
theorem dL_law_109 : decode cL_law 109 = .ok (.iconst 1, 1) := by decide +kernel
theorem dL_law_110 : decode cL_law 110 = .ok (.istore 13, 2) := by decide +kernel
theorem dL_law_112 : decode cL_law 112 = .ok (.iconst 0, 1) := by decide +kernel
theorem dL_law_113 : decode cL_law 113 = .ok (.istore 14, 2) := by decide +kernel
theorem dL_law_115 : decode cL_law 115 = .ok (.iload 14, 2) := by decide +kernel
theorem dL_law_117 : decode cL_law 117 = .ok (.iload 6, 2) := by decide +kernel
theorem dL_law_119 : decode cL_law 119 = .ok (.if_icmp .ge 63, 3) := by decide +kernel
theorem dL_law_122 : decode cL_law 122 = .ok (.iload 13, 2) := by decide +kernel
theorem dL_law_124 : decode cL_law 124 = .ok (.aload_n 1, 1) := by decide +kernel
theorem dL_law_125 : decode cL_law 125 = .ok (.iload 14, 2) := by decide +kernel
theorem dL_law_127 : decode cL_law 127 = .ok (.iconst 3, 1) := by decide +kernel
theorem dL_law_128 : decode cL_law 128 = .ok (.invokevirtual 109, 3) := by decide +kernel
theorem dL_law_131 : decode cL_law 131 = .ok (.iconst 1, 1) := by decide +kernel
theorem dL_law_132 : decode cL_law 132 = .ok (.if_icmp .eq 36, 3) := by decide +kernel
theorem dL_law_135 : decode cL_law 135 = .ok (.aload_n 1, 1) := by decide +kernel
theorem dL_law_136 : decode cL_law 136 = .ok (.aload_n 1, 1) := by decide +kernel
theorem dL_law_137 : decode cL_law 137 = .ok (.iload 14, 2) := by decide +kernel
theorem dL_law_139 : decode cL_law 139 = .ok (.iconst 0, 1) := by decide +kernel
theorem dL_law_140 : decode cL_law 140 = .ok (.invokevirtual 109, 3) := by decide +kernel
theorem dL_law_143 : decode cL_law 143 = .ok (.iload 12, 2) := by decide +kernel
theorem dL_law_145 : decode cL_law 145 = .ok (.invokevirtual 112, 3) := by decide +kernel
theorem dL_law_148 : decode cL_law 148 = .ok (.iconst 5, 1) := by decide +kernel
theorem dL_law_149 : decode cL_law 149 = .ok (.aload_n 1, 1) := by decide +kernel
theorem dL_law_150 : decode cL_law 150 = .ok (.iload 14, 2) := by decide +kernel
theorem dL_law_152 : decode cL_law 152 = .ok (.iconst 1, 1) := by decide +kernel
theorem dL_law_153 : decode cL_law 153 = .ok (.invokevirtual 109, 3) := by decide +kernel
theorem dL_law_156 : decode cL_law 156 = .ok (.imul, 1) := by decide +kernel
theorem dL_law_157 : decode cL_law 157 = .ok (.aload_n 1, 1) := by decide +kernel
theorem dL_law_158 : decode cL_law 158 = .ok (.iload 14, 2) := by decide +kernel
theorem dL_law_160 : decode cL_law 160 = .ok (.iconst 2, 1) := by decide +kernel
theorem dL_law_161 : decode cL_law 161 = .ok (.invokevirtual 109, 3) := by decide +kernel
theorem dL_law_164 : decode cL_law 164 = .ok (.iadd, 1) := by decide +kernel
theorem dL_law_165 : decode cL_law 165 = .ok (.if_icmp .ne 7, 3) := by decide +kernel
theorem dL_law_168 : decode cL_law 168 = .ok (.iconst 1, 1) := by decide +kernel
theorem dL_law_169 : decode cL_law 169 = .ok (.goto 4, 3) := by decide +kernel
theorem dL_law_172 : decode cL_law 172 = .ok (.iconst 0, 1) := by decide +kernel
theorem dL_law_173 : decode cL_law 173 = .ok (.iand, 1) := by decide +kernel
theorem dL_law_174 : decode cL_law 174 = .ok (.istore 13, 2) := by decide +kernel
theorem dL_law_176 : decode cL_law 176 = .ok (.iinc 14 1, 3) := by decide +kernel
theorem dL_law_179 : decode cL_law 179 = .ok (.goto (-64), 3) := by decide +kernel
theorem dL_law_182 : decode cL_law 182 = .ok (.aload_n 1, 1) := by decide +kernel
theorem dL_law_183 : decode cL_law 183 = .ok (.iload 12, 2) := by decide +kernel
theorem dL_law_185 : decode cL_law 185 = .ok (.invokevirtual 113, 3) := by decide +kernel
theorem dL_law_188 : decode cL_law 188 = .ok (.iload 13, 2) := by decide +kernel
theorem dL_law_190 : decode cL_law 190 = .ok (.if_icmp .eq 5, 3) := by decide +kernel
theorem dL_law_193 : decode cL_law 193 = .ok (.iconst 0, 1) := by decide +kernel
theorem dL_law_194 : decode cL_law 194 = .ok (.ireturn, 1) := by decide +kernel
theorem dL_law_195 : decode cL_law 195 = .ok (.iload 13, 2) := by decide +kernel
theorem dL_law_197 : decode cL_law 197 = .ok (.ifCond .ne 6, 3) := by decide +kernel
theorem dL_law_200 : decode cL_law 200 = .ok (.goto 52, 3) := by decide +kernel
theorem dL_law_203 : decode cL_law 203 = .ok (.aload_n 1, 1) := by decide +kernel
theorem dL_law_204 : decode cL_law 204 = .ok (.iload 10, 2) := by decide +kernel
theorem dL_law_206 : decode cL_law 206 = .ok (.invokevirtual 81, 3) := by decide +kernel
theorem dL_law_209 : decode cL_law 209 = .ok (.iload 12, 2) := by decide +kernel
theorem dL_law_211 : decode cL_law 211 = .ok (.if_icmp .eq 5, 3) := by decide +kernel
theorem dL_law_214 : decode cL_law 214 = .ok (.iconst 0, 1) := by decide +kernel
theorem dL_law_215 : decode cL_law 215 = .ok (.ireturn, 1) := by decide +kernel
theorem dL_law_216 : decode cL_law 216 = .ok (.iinc 10 1, 3) := by decide +kernel
theorem dL_law_219 : decode cL_law 219 = .ok (.iconst 0, 1) := by decide +kernel
theorem dL_law_220 : decode cL_law 220 = .ok (.istore 14, 2) := by decide +kernel
theorem dL_law_222 : decode cL_law 222 = .ok (.iload 14, 2) := by decide +kernel
theorem dL_law_224 : decode cL_law 224 = .ok (.iconst 4, 1) := by decide +kernel
theorem dL_law_225 : decode cL_law 225 = .ok (.if_icmp .ge 27, 3) := by decide +kernel
theorem dL_law_228 : decode cL_law 228 = .ok (.aload 11, 2) := by decide +kernel
theorem dL_law_230 : decode cL_law 230 = .ok (.iload 14, 2) := by decide +kernel
theorem dL_law_232 : decode cL_law 232 = .ok (.aaload, 1) := by decide +kernel
theorem dL_law_233 : decode cL_law 233 = .ok (.aload_n 1, 1) := by decide +kernel
theorem dL_law_234 : decode cL_law 234 = .ok (.iload 12, 2) := by decide +kernel
theorem dL_law_236 : decode cL_law 236 = .ok (.iload 14, 2) := by decide +kernel
theorem dL_law_238 : decode cL_law 238 = .ok (.invokevirtual 117, 3) := by decide +kernel
theorem dL_law_241 : decode cL_law 241 = .ok (.dup2, 1) := by decide +kernel
theorem dL_law_242 : decode cL_law 242 = .ok (.iaload, 1) := by decide +kernel
theorem dL_law_243 : decode cL_law 243 = .ok (.iconst 1, 1) := by decide +kernel
theorem dL_law_244 : decode cL_law 244 = .ok (.iadd, 1) := by decide +kernel
theorem dL_law_245 : decode cL_law 245 = .ok (.iastore, 1) := by decide +kernel
theorem dL_law_246 : decode cL_law 246 = .ok (.iinc 14 1, 3) := by decide +kernel
theorem dL_law_249 : decode cL_law 249 = .ok (.goto (-27), 3) := by decide +kernel
theorem dL_law_252 : decode cL_law 252 = .ok (.iinc 12 1, 3) := by decide +kernel
theorem dL_law_255 : decode cL_law 255 = .ok (.goto (-153), 3) := by decide +kernel
theorem dL_law_258 : decode cL_law 258 = .ok (.iload 10, 2) := by decide +kernel
theorem dL_law_260 : decode cL_law 260 = .ok (.iload 7, 2) := by decide +kernel
theorem dL_law_262 : decode cL_law 262 = .ok (.if_icmp .eq 5, 3) := by decide +kernel
theorem dL_law_265 : decode cL_law 265 = .ok (.iconst 0, 1) := by decide +kernel
theorem dL_law_266 : decode cL_law 266 = .ok (.ireturn, 1) := by decide +kernel
theorem dL_law_267 : decode cL_law 267 = .ok (.iconst 0, 1) := by decide +kernel
theorem dL_law_268 : decode cL_law 268 = .ok (.istore 12, 2) := by decide +kernel
theorem dL_law_270 : decode cL_law 270 = .ok (.iload 12, 2) := by decide +kernel
theorem dL_law_272 : decode cL_law 272 = .ok (.iconst 4, 1) := by decide +kernel
theorem dL_law_273 : decode cL_law 273 = .ok (.if_icmp .ge 110, 3) := by decide +kernel
theorem dL_law_276 : decode cL_law 276 = .ok (.iconst 0, 1) := by decide +kernel
theorem dL_law_277 : decode cL_law 277 = .ok (.istore 13, 2) := by decide +kernel
theorem dL_law_279 : decode cL_law 279 = .ok (.iconst (-1), 1) := by decide +kernel
theorem dL_law_280 : decode cL_law 280 = .ok (.istore 14, 2) := by decide +kernel
theorem dL_law_282 : decode cL_law 282 = .ok (.iconst 0, 1) := by decide +kernel
theorem dL_law_283 : decode cL_law 283 = .ok (.istore 15, 2) := by decide +kernel
theorem dL_law_285 : decode cL_law 285 = .ok (.iload 15, 2) := by decide +kernel
theorem dL_law_287 : decode cL_law 287 = .ok (.aload_n 1, 1) := by decide +kernel
theorem dL_law_288 : decode cL_law 288 = .ok (.iconst 0, 1) := by decide +kernel
theorem dL_law_289 : decode cL_law 289 = .ok (.invokevirtual 78, 3) := by decide +kernel
theorem dL_law_292 : decode cL_law 292 = .ok (.if_icmp .ge 65, 3) := by decide +kernel
theorem dL_law_295 : decode cL_law 295 = .ok (.aload_n 1, 1) := by decide +kernel
theorem dL_law_296 : decode cL_law 296 = .ok (.iload 12, 2) := by decide +kernel
theorem dL_law_298 : decode cL_law 298 = .ok (.iload 15, 2) := by decide +kernel
theorem dL_law_300 : decode cL_law 300 = .ok (.invokevirtual 120, 3) := by decide +kernel
theorem dL_law_303 : decode cL_law 303 = .ok (.aload 11, 2) := by decide +kernel
theorem dL_law_305 : decode cL_law 305 = .ok (.iload 12, 2) := by decide +kernel
theorem dL_law_307 : decode cL_law 307 = .ok (.aaload, 1) := by decide +kernel
theorem dL_law_308 : decode cL_law 308 = .ok (.iload 15, 2) := by decide +kernel
theorem dL_law_310 : decode cL_law 310 = .ok (.iaload, 1) := by decide +kernel
theorem dL_law_311 : decode cL_law 311 = .ok (.if_icmp .eq 5, 3) := by decide +kernel
theorem dL_law_314 : decode cL_law 314 = .ok (.iconst 0, 1) := by decide +kernel
theorem dL_law_315 : decode cL_law 315 = .ok (.ireturn, 1) := by decide +kernel
theorem dL_law_316 : decode cL_law 316 = .ok (.iload 13, 2) := by decide +kernel
theorem dL_law_318 : decode cL_law 318 = .ok (.aload 11, 2) := by decide +kernel
theorem dL_law_320 : decode cL_law 320 = .ok (.iload 12, 2) := by decide +kernel
theorem dL_law_322 : decode cL_law 322 = .ok (.aaload, 1) := by decide +kernel
theorem dL_law_323 : decode cL_law 323 = .ok (.iload 15, 2) := by decide +kernel
theorem dL_law_325 : decode cL_law 325 = .ok (.iaload, 1) := by decide +kernel
theorem dL_law_326 : decode cL_law 326 = .ok (.iadd, 1) := by decide +kernel
theorem dL_law_327 : decode cL_law 327 = .ok (.istore 13, 2) := by decide +kernel
theorem dL_law_329 : decode cL_law 329 = .ok (.iload 7, 2) := by decide +kernel
theorem dL_law_331 : decode cL_law 331 = .ok (.ifCond .le 20, 3) := by decide +kernel
theorem dL_law_334 : decode cL_law 334 = .ok (.aload 11, 2) := by decide +kernel
theorem dL_law_336 : decode cL_law 336 = .ok (.iload 12, 2) := by decide +kernel
theorem dL_law_338 : decode cL_law 338 = .ok (.aaload, 1) := by decide +kernel
theorem dL_law_339 : decode cL_law 339 = .ok (.iload 15, 2) := by decide +kernel
theorem dL_law_341 : decode cL_law 341 = .ok (.iaload, 1) := by decide +kernel
theorem dL_law_342 : decode cL_law 342 = .ok (.iload 7, 2) := by decide +kernel
theorem dL_law_344 : decode cL_law 344 = .ok (.if_icmp .ne 7, 3) := by decide +kernel
theorem dL_law_347 : decode cL_law 347 = .ok (.iload 15, 2) := by decide +kernel
theorem dL_law_349 : decode cL_law 349 = .ok (.istore 14, 2) := by decide +kernel
theorem dL_law_351 : decode cL_law 351 = .ok (.iinc 15 1, 3) := by decide +kernel
theorem dL_law_354 : decode cL_law 354 = .ok (.goto (-69), 3) := by decide +kernel
theorem dL_law_357 : decode cL_law 357 = .ok (.iload 13, 2) := by decide +kernel
theorem dL_law_359 : decode cL_law 359 = .ok (.iload 7, 2) := by decide +kernel
theorem dL_law_361 : decode cL_law 361 = .ok (.if_icmp .ne 14, 3) := by decide +kernel
theorem dL_law_364 : decode cL_law 364 = .ok (.aload_n 1, 1) := by decide +kernel
theorem dL_law_365 : decode cL_law 365 = .ok (.iload 12, 2) := by decide +kernel
theorem dL_law_367 : decode cL_law 367 = .ok (.invokevirtual 123, 3) := by decide +kernel
theorem dL_law_370 : decode cL_law 370 = .ok (.iload 14, 2) := by decide +kernel
theorem dL_law_372 : decode cL_law 372 = .ok (.if_icmp .eq 5, 3) := by decide +kernel
theorem dL_law_375 : decode cL_law 375 = .ok (.iconst 0, 1) := by decide +kernel
theorem dL_law_376 : decode cL_law 376 = .ok (.ireturn, 1) := by decide +kernel
theorem dL_law_377 : decode cL_law 377 = .ok (.iinc 12 1, 3) := by decide +kernel
theorem dL_law_380 : decode cL_law 380 = .ok (.goto (-110), 3) := by decide +kernel
theorem dL_law_383 : decode cL_law 383 = .ok (.iload 5, 2) := by decide +kernel
theorem dL_law_385 : decode cL_law 385 = .ok (.istore 12, 2) := by decide +kernel
theorem dL_law_387 : decode cL_law 387 = .ok (.iconst 0, 1) := by decide +kernel
theorem dL_law_388 : decode cL_law 388 = .ok (.istore 13, 2) := by decide +kernel
theorem dL_law_390 : decode cL_law 390 = .ok (.iconst 0, 1) := by decide +kernel
theorem dL_law_391 : decode cL_law 391 = .ok (.istore 14, 2) := by decide +kernel
theorem dL_law_393 : decode cL_law 393 = .ok (.iconst 0, 1) := by decide +kernel
theorem dL_law_394 : decode cL_law 394 = .ok (.istore 15, 2) := by decide +kernel
theorem dL_law_396 : decode cL_law 396 = .ok (.iconst 0, 1) := by decide +kernel
theorem dL_law_397 : decode cL_law 397 = .ok (.istore 16, 2) := by decide +kernel
theorem dL_law_399 : decode cL_law 399 = .ok (.iload 16, 2) := by decide +kernel
theorem dL_law_401 : decode cL_law 401 = .ok (.iload 6, 2) := by decide +kernel
theorem dL_law_403 : decode cL_law 403 = .ok (.if_icmp .ge 135, 3) := by decide +kernel
theorem dL_law_406 : decode cL_law 406 = .ok (.aload_n 1, 1) := by decide +kernel
theorem dL_law_407 : decode cL_law 407 = .ok (.iload 16, 2) := by decide +kernel
theorem dL_law_409 : decode cL_law 409 = .ok (.iconst 4, 1) := by decide +kernel
theorem dL_law_410 : decode cL_law 410 = .ok (.invokevirtual 109, 3) := by decide +kernel
theorem dL_law_413 : decode cL_law 413 = .ok (.istore 17, 2) := by decide +kernel
theorem dL_law_415 : decode cL_law 415 = .ok (.iload 17, 2) := by decide +kernel
theorem dL_law_417 : decode cL_law 417 = .ok (.iload 12, 2) := by decide +kernel
theorem dL_law_419 : decode cL_law 419 = .ok (.if_icmp .gt 62, 3) := by decide +kernel
theorem dL_law_422 : decode cL_law 422 = .ok (.aload_n 1, 1) := by decide +kernel
theorem dL_law_423 : decode cL_law 423 = .ok (.iload 16, 2) := by decide +kernel
theorem dL_law_425 : decode cL_law 425 = .ok (.iconst 3, 1) := by decide +kernel
theorem dL_law_426 : decode cL_law 426 = .ok (.invokevirtual 109, 3) := by decide +kernel
theorem dL_law_429 : decode cL_law 429 = .ok (.iconst 1, 1) := by decide +kernel
theorem dL_law_430 : decode cL_law 430 = .ok (.if_icmp .ne 10, 3) := by decide +kernel
theorem dL_law_433 : decode cL_law 433 = .ok (.iload 17, 2) := by decide +kernel
theorem dL_law_435 : decode cL_law 435 = .ok (.iload 12, 2) := by decide +kernel
theorem dL_law_437 : decode cL_law 437 = .ok (.if_icmp .ne 44, 3) := by decide +kernel
theorem dL_law_440 : decode cL_law 440 = .ok (.aload_n 1, 1) := by decide +kernel
theorem dL_law_441 : decode cL_law 441 = .ok (.iload 16, 2) := by decide +kernel
theorem dL_law_443 : decode cL_law 443 = .ok (.iconst 3, 1) := by decide +kernel
theorem dL_law_444 : decode cL_law 444 = .ok (.invokevirtual 109, 3) := by decide +kernel
theorem dL_law_447 : decode cL_law 447 = .ok (.ifCond .ne 15, 3) := by decide +kernel
theorem dL_law_450 : decode cL_law 450 = .ok (.iload 17, 2) := by decide +kernel
theorem dL_law_452 : decode cL_law 452 = .ok (.aload_n 1, 1) := by decide +kernel
theorem dL_law_453 : decode cL_law 453 = .ok (.iload 16, 2) := by decide +kernel
theorem dL_law_455 : decode cL_law 455 = .ok (.iconst 5, 1) := by decide +kernel
theorem dL_law_456 : decode cL_law 456 = .ok (.invokevirtual 109, 3) := by decide +kernel
theorem dL_law_459 : decode cL_law 459 = .ok (.if_icmp .gt 22, 3) := by decide +kernel
theorem dL_law_462 : decode cL_law 462 = .ok (.aload_n 1, 1) := by decide +kernel
theorem dL_law_463 : decode cL_law 463 = .ok (.iload 16, 2) := by decide +kernel
theorem dL_law_465 : decode cL_law 465 = .ok (.iconst 1, 1) := by decide +kernel
theorem dL_law_466 : decode cL_law 466 = .ok (.invokevirtual 109, 3) := by decide +kernel
theorem dL_law_469 : decode cL_law 469 = .ok (.aload_n 1, 1) := by decide +kernel
theorem dL_law_470 : decode cL_law 470 = .ok (.iload 16, 2) := by decide +kernel
theorem dL_law_472 : decode cL_law 472 = .ok (.iconst 2, 1) := by decide +kernel
theorem dL_law_473 : decode cL_law 473 = .ok (.invokevirtual 109, 3) := by decide +kernel
theorem dL_law_476 : decode cL_law 476 = .ok (.iadd, 1) := by decide +kernel
theorem dL_law_477 : decode cL_law 477 = .ok (.iconst 4, 1) := by decide +kernel
theorem dL_law_478 : decode cL_law 478 = .ok (.if_icmp .le 5, 3) := by decide +kernel
theorem dL_law_481 : decode cL_law 481 = .ok (.iconst 0, 1) := by decide +kernel
theorem dL_law_482 : decode cL_law 482 = .ok (.ireturn, 1) := by decide +kernel
theorem dL_law_483 : decode cL_law 483 = .ok (.iload 17, 2) := by decide +kernel
theorem dL_law_485 : decode cL_law 485 = .ok (.istore 12, 2) := by decide +kernel
theorem dL_law_487 : decode cL_law 487 = .ok (.iload 15, 2) := by decide +kernel
theorem dL_law_489 : decode cL_law 489 = .ok (.aload_n 1, 1) := by decide +kernel
theorem dL_law_490 : decode cL_law 490 = .ok (.iload 16, 2) := by decide +kernel
theorem dL_law_492 : decode cL_law 492 = .ok (.iconst 1, 1) := by decide +kernel
theorem dL_law_493 : decode cL_law 493 = .ok (.invokevirtual 109, 3) := by decide +kernel
theorem dL_law_496 : decode cL_law 496 = .ok (.iadd, 1) := by decide +kernel
theorem dL_law_497 : decode cL_law 497 = .ok (.istore 15, 2) := by decide +kernel
theorem dL_law_499 : decode cL_law 499 = .ok (.iload 13, 2) := by decide +kernel
theorem dL_law_501 : decode cL_law 501 = .ok (.aload_n 1, 1) := by decide +kernel
theorem dL_law_502 : decode cL_law 502 = .ok (.iload 16, 2) := by decide +kernel
theorem dL_law_504 : decode cL_law 504 = .ok (.iconst 1, 1) := by decide +kernel
theorem dL_law_505 : decode cL_law 505 = .ok (.invokevirtual 109, 3) := by decide +kernel
theorem dL_law_508 : decode cL_law 508 = .ok (.iconst 4, 1) := by decide +kernel
theorem dL_law_509 : decode cL_law 509 = .ok (.if_icmp .ne 7, 3) := by decide +kernel
theorem dL_law_512 : decode cL_law 512 = .ok (.iconst 1, 1) := by decide +kernel
theorem dL_law_513 : decode cL_law 513 = .ok (.goto 4, 3) := by decide +kernel
theorem dL_law_516 : decode cL_law 516 = .ok (.iconst 0, 1) := by decide +kernel
theorem dL_law_517 : decode cL_law 517 = .ok (.iadd, 1) := by decide +kernel
theorem dL_law_518 : decode cL_law 518 = .ok (.istore 13, 2) := by decide +kernel
theorem dL_law_520 : decode cL_law 520 = .ok (.iload 14, 2) := by decide +kernel
theorem dL_law_522 : decode cL_law 522 = .ok (.aload_n 1, 1) := by decide +kernel
theorem dL_law_523 : decode cL_law 523 = .ok (.iload 16, 2) := by decide +kernel
theorem dL_law_525 : decode cL_law 525 = .ok (.iconst 3, 1) := by decide +kernel
theorem dL_law_526 : decode cL_law 526 = .ok (.invokevirtual 109, 3) := by decide +kernel
theorem dL_law_529 : decode cL_law 529 = .ok (.iadd, 1) := by decide +kernel
theorem dL_law_530 : decode cL_law 530 = .ok (.istore 14, 2) := by decide +kernel
theorem dL_law_532 : decode cL_law 532 = .ok (.iinc 16 1, 3) := by decide +kernel
theorem dL_law_535 : decode cL_law 535 = .ok (.goto (-136), 3) := by decide +kernel
theorem dL_law_538 : decode cL_law 538 = .ok (.iload 12, 2) := by decide +kernel
theorem dL_law_540 : decode cL_law 540 = .ok (.iload 7, 2) := by decide +kernel
theorem dL_law_542 : decode cL_law 542 = .ok (.if_icmp .ne 48, 3) := by decide +kernel
theorem dL_law_545 : decode cL_law 545 = .ok (.iload 13, 2) := by decide +kernel
theorem dL_law_547 : decode cL_law 547 = .ok (.aload_n 1, 1) := by decide +kernel
theorem dL_law_548 : decode cL_law 548 = .ok (.iconst 5, 1) := by decide +kernel
theorem dL_law_549 : decode cL_law 549 = .ok (.invokevirtual 78, 3) := by decide +kernel
theorem dL_law_552 : decode cL_law 552 = .ok (.if_icmp .ne 38, 3) := by decide +kernel
theorem dL_law_555 : decode cL_law 555 = .ok (.iload 14, 2) := by decide +kernel
theorem dL_law_557 : decode cL_law 557 = .ok (.aload_n 1, 1) := by decide +kernel
theorem dL_law_558 : decode cL_law 558 = .ok (.bipush 6, 2) := by decide +kernel
theorem dL_law_560 : decode cL_law 560 = .ok (.invokevirtual 78, 3) := by decide +kernel
theorem dL_law_563 : decode cL_law 563 = .ok (.if_icmp .ne 27, 3) := by decide +kernel
theorem dL_law_566 : decode cL_law 566 = .ok (.aload_n 1, 1) := by decide +kernel
theorem dL_law_567 : decode cL_law 567 = .ok (.invokevirtual 126, 3) := by decide +kernel
theorem dL_law_570 : decode cL_law 570 = .ok (.iload 6, 2) := by decide +kernel
theorem dL_law_572 : decode cL_law 572 = .ok (.ifCond .ne 7, 3) := by decide +kernel
theorem dL_law_575 : decode cL_law 575 = .ok (.dconst 0, 1) := by decide +kernel
theorem dL_law_576 : decode cL_law 576 = .ok (.goto 10, 3) := by decide +kernel
theorem dL_law_579 : decode cL_law 579 = .ok (.iload 15, 2) := by decide +kernel
theorem dL_law_581 : decode cL_law 581 = .ok (.i2d, 1) := by decide +kernel
theorem dL_law_582 : decode cL_law 582 = .ok (.iload 6, 2) := by decide +kernel
theorem dL_law_584 : decode cL_law 584 = .ok (.i2d, 1) := by decide +kernel
theorem dL_law_585 : decode cL_law 585 = .ok (.ddiv, 1) := by decide +kernel
theorem dL_law_586 : decode cL_law 586 = .ok (.dcmp .l, 1) := by decide +kernel
theorem dL_law_587 : decode cL_law 587 = .ok (.ifCond .eq 5, 3) := by decide +kernel
theorem dL_law_590 : decode cL_law 590 = .ok (.iconst 0, 1) := by decide +kernel
theorem dL_law_591 : decode cL_law 591 = .ok (.ireturn, 1) := by decide +kernel
theorem dL_law_592 : decode cL_law 592 = .ok (.aload_n 1, 1) := by decide +kernel
theorem dL_law_593 : decode cL_law 593 = .ok (.invokevirtual 130, 3) := by decide +kernel
theorem dL_law_596 : decode cL_law 596 = .ok (.istore 16, 2) := by decide +kernel
theorem dL_law_598 : decode cL_law 598 = .ok (.iload 16, 2) := by decide +kernel
theorem dL_law_600 : decode cL_law 600 = .ok (.ifCond .ge 7, 3) := by decide +kernel
theorem dL_law_603 : decode cL_law 603 = .ok (.iconst 1, 1) := by decide +kernel
theorem dL_law_604 : decode cL_law 604 = .ok (.goto 4, 3) := by decide +kernel
theorem dL_law_607 : decode cL_law 607 = .ok (.iconst 0, 1) := by decide +kernel
theorem dL_law_608 : decode cL_law 608 = .ok (.iload 7, 2) := by decide +kernel
theorem dL_law_610 : decode cL_law 610 = .ok (.ifCond .ne 7, 3) := by decide +kernel
theorem dL_law_613 : decode cL_law 613 = .ok (.iconst 1, 1) := by decide +kernel
theorem dL_law_614 : decode cL_law 614 = .ok (.goto 4, 3) := by decide +kernel
theorem dL_law_617 : decode cL_law 617 = .ok (.iconst 0, 1) := by decide +kernel
theorem dL_law_618 : decode cL_law 618 = .ok (.if_icmp .eq 5, 3) := by decide +kernel
theorem dL_law_621 : decode cL_law 621 = .ok (.iconst 0, 1) := by decide +kernel
theorem dL_law_622 : decode cL_law 622 = .ok (.ireturn, 1) := by decide +kernel
theorem dL_law_623 : decode cL_law 623 = .ok (.iload 16, 2) := by decide +kernel
theorem dL_law_625 : decode cL_law 625 = .ok (.ifCond .ge 7, 3) := by decide +kernel
theorem dL_law_628 : decode cL_law 628 = .ok (.iconst 0, 1) := by decide +kernel
theorem dL_law_629 : decode cL_law 629 = .ok (.goto 9, 3) := by decide +kernel
theorem dL_law_632 : decode cL_law 632 = .ok (.aload_n 1, 1) := by decide +kernel
theorem dL_law_633 : decode cL_law 633 = .ok (.iload 16, 2) := by decide +kernel
theorem dL_law_635 : decode cL_law 635 = .ok (.invokevirtual 133, 3) := by decide +kernel
theorem dL_law_638 : decode cL_law 638 = .ok (.istore 17, 2) := by decide +kernel
theorem dL_law_640 : decode cL_law 640 = .ok (.iconst 0, 1) := by decide +kernel
theorem dL_law_641 : decode cL_law 641 = .ok (.istore 18, 2) := by decide +kernel
theorem dL_law_643 : decode cL_law 643 = .ok (.iload 18, 2) := by decide +kernel
theorem dL_law_645 : decode cL_law 645 = .ok (.bipush 14, 2) := by decide +kernel
theorem dL_law_647 : decode cL_law 647 = .ok (.if_icmp .ge 172, 3) := by decide +kernel
theorem dL_law_650 : decode cL_law 650 = .ok (.iload 4, 2) := by decide +kernel
theorem dL_law_652 : decode cL_law 652 = .ok (.iconst 2, 1) := by decide +kernel
theorem dL_law_653 : decode cL_law 653 = .ok (.ishr, 1) := by decide +kernel
theorem dL_law_654 : decode cL_law 654 = .ok (.bipush 11, 2) := by decide +kernel
theorem dL_law_656 : decode cL_law 656 = .ok (.iload 18, 2) := by decide +kernel
theorem dL_law_658 : decode cL_law 658 = .ok (.imul, 1) := by decide +kernel
theorem dL_law_659 : decode cL_law 659 = .ok (.iadd, 1) := by decide +kernel
theorem dL_law_660 : decode cL_law 660 = .ok (.iload 5, 2) := by decide +kernel
theorem dL_law_662 : decode cL_law 662 = .ok (.invokestatic 15, 3) := by decide +kernel
theorem dL_law_665 : decode cL_law 665 = .ok (.istore 19, 2) := by decide +kernel
theorem dL_law_667 : decode cL_law 667 = .ok (.aload_n 1, 1) := by decide +kernel
theorem dL_law_668 : decode cL_law 668 = .ok (.iload 19, 2) := by decide +kernel
theorem dL_law_670 : decode cL_law 670 = .ok (.invokevirtual 133, 3) := by decide +kernel
theorem dL_law_673 : decode cL_law 673 = .ok (.istore 20, 2) := by decide +kernel
theorem dL_law_675 : decode cL_law 675 = .ok (.aload_n 1, 1) := by decide +kernel
theorem dL_law_676 : decode cL_law 676 = .ok (.iload 19, 2) := by decide +kernel
theorem dL_law_678 : decode cL_law 678 = .ok (.invokevirtual 136, 3) := by decide +kernel
theorem dL_law_681 : decode cL_law 681 = .ok (.istore 21, 2) := by decide +kernel
theorem dL_law_683 : decode cL_law 683 = .ok (.iload 20, 2) := by decide +kernel
theorem dL_law_685 : decode cL_law 685 = .ok (.iload 7, 2) := by decide +kernel
theorem dL_law_687 : decode cL_law 687 = .ok (.if_icmp .gt 109, 3) := by decide +kernel
theorem dL_law_690 : decode cL_law 690 = .ok (.iload 20, 2) := by decide +kernel
theorem dL_law_692 : decode cL_law 692 = .ok (.iload 21, 2) := by decide +kernel
theorem dL_law_694 : decode cL_law 694 = .ok (.imul, 1) := by decide +kernel
theorem dL_law_695 : decode cL_law 695 = .ok (.iload 7, 2) := by decide +kernel
theorem dL_law_697 : decode cL_law 697 = .ok (.if_icmp .lt 99, 3) := by decide +kernel
theorem dL_law_700 : decode cL_law 700 = .ok (.iload 21, 2) := by decide +kernel
theorem dL_law_702 : decode cL_law 702 = .ok (.iload 7, 2) := by decide +kernel
theorem dL_law_704 : decode cL_law 704 = .ok (.if_icmp .gt 92, 3) := by decide +kernel
theorem dL_law_707 : decode cL_law 707 = .ok (.iload 20, 2) := by decide +kernel
theorem dL_law_709 : decode cL_law 709 = .ok (.ifCond .ne 7, 3) := by decide +kernel
theorem dL_law_712 : decode cL_law 712 = .ok (.iconst 1, 1) := by decide +kernel
theorem dL_law_713 : decode cL_law 713 = .ok (.goto 4, 3) := by decide +kernel
theorem dL_law_716 : decode cL_law 716 = .ok (.iconst 0, 1) := by decide +kernel
theorem dL_law_717 : decode cL_law 717 = .ok (.iload 7, 2) := by decide +kernel
theorem dL_law_719 : decode cL_law 719 = .ok (.ifCond .ne 7, 3) := by decide +kernel
theorem dL_law_722 : decode cL_law 722 = .ok (.iconst 1, 1) := by decide +kernel
theorem dL_law_723 : decode cL_law 723 = .ok (.goto 4, 3) := by decide +kernel
theorem dL_law_726 : decode cL_law 726 = .ok (.iconst 0, 1) := by decide +kernel
theorem dL_law_727 : decode cL_law 727 = .ok (.if_icmp .ne 69, 3) := by decide +kernel
theorem dL_law_730 : decode cL_law 730 = .ok (.iload 20, 2) := by decide +kernel
theorem dL_law_732 : decode cL_law 732 = .ok (.iload 17, 2) := by decide +kernel
theorem dL_law_734 : decode cL_law 734 = .ok (.if_icmp .lt 62, 3) := by decide +kernel
theorem dL_law_737 : decode cL_law 737 = .ok (.iload 20, 2) := by decide +kernel
theorem dL_law_739 : decode cL_law 739 = .ok (.iload 17, 2) := by decide +kernel
theorem dL_law_741 : decode cL_law 741 = .ok (.if_icmp .ne 26, 3) := by decide +kernel
theorem dL_law_744 : decode cL_law 744 = .ok (.iload 16, 2) := by decide +kernel
theorem dL_law_746 : decode cL_law 746 = .ok (.ifCond .lt 21, 3) := by decide +kernel
theorem dL_law_749 : decode cL_law 749 = .ok (.aload_n 1, 1) := by decide +kernel
theorem dL_law_750 : decode cL_law 750 = .ok (.iload 16, 2) := by decide +kernel
theorem dL_law_752 : decode cL_law 752 = .ok (.invokevirtual 113, 3) := by decide +kernel
theorem dL_law_755 : decode cL_law 755 = .ok (.ifCond .ne 12, 3) := by decide +kernel
theorem dL_law_758 : decode cL_law 758 = .ok (.aload_n 1, 1) := by decide +kernel
theorem dL_law_759 : decode cL_law 759 = .ok (.iload 19, 2) := by decide +kernel
theorem dL_law_761 : decode cL_law 761 = .ok (.invokevirtual 113, 3) := by decide +kernel
theorem dL_law_764 : decode cL_law 764 = .ok (.ifCond .ne 32, 3) := by decide +kernel
theorem dL_law_767 : decode cL_law 767 = .ok (.iload 20, 2) := by decide +kernel
theorem dL_law_769 : decode cL_law 769 = .ok (.iload 17, 2) := by decide +kernel
theorem dL_law_771 : decode cL_law 771 = .ok (.if_icmp .ne 27, 3) := by decide +kernel
theorem dL_law_774 : decode cL_law 774 = .ok (.iload 19, 2) := by decide +kernel
theorem dL_law_776 : decode cL_law 776 = .ok (.iload 16, 2) := by decide +kernel
theorem dL_law_778 : decode cL_law 778 = .ok (.if_icmp .ge 20, 3) := by decide +kernel
theorem dL_law_781 : decode cL_law 781 = .ok (.aload_n 1, 1) := by decide +kernel
theorem dL_law_782 : decode cL_law 782 = .ok (.iload 19, 2) := by decide +kernel
theorem dL_law_784 : decode cL_law 784 = .ok (.invokevirtual 113, 3) := by decide +kernel
theorem dL_law_787 : decode cL_law 787 = .ok (.aload_n 1, 1) := by decide +kernel
theorem dL_law_788 : decode cL_law 788 = .ok (.iload 16, 2) := by decide +kernel
theorem dL_law_790 : decode cL_law 790 = .ok (.invokevirtual 113, 3) := by decide +kernel
theorem dL_law_793 : decode cL_law 793 = .ok (.if_icmp .ne 5, 3) := by decide +kernel
theorem dL_law_796 : decode cL_law 796 = .ok (.iconst 0, 1) := by decide +kernel
theorem dL_law_797 : decode cL_law 797 = .ok (.ireturn, 1) := by decide +kernel
theorem dL_law_798 : decode cL_law 798 = .ok (.aload_n 1, 1) := by decide +kernel
theorem dL_law_799 : decode cL_law 799 = .ok (.iload 19, 2) := by decide +kernel
theorem dL_law_801 : decode cL_law 801 = .ok (.iload 19, 2) := by decide +kernel
theorem dL_law_803 : decode cL_law 803 = .ok (.invokevirtual 112, 3) := by decide +kernel
theorem dL_law_806 : decode cL_law 806 = .ok (.bipush 20, 2) := by decide +kernel
theorem dL_law_808 : decode cL_law 808 = .ok (.if_icmp .eq 5, 3) := by decide +kernel
theorem dL_law_811 : decode cL_law 811 = .ok (.iconst 0, 1) := by decide +kernel
theorem dL_law_812 : decode cL_law 812 = .ok (.ireturn, 1) := by decide +kernel
theorem dL_law_813 : decode cL_law 813 = .ok (.iinc 18 1, 3) := by decide +kernel
theorem dL_law_816 : decode cL_law 816 = .ok (.goto (-173), 3) := by decide +kernel
theorem dL_law_819 : decode cL_law 819 = .ok (.iload 4, 2) := by decide +kernel
theorem dL_law_821 : decode cL_law 821 = .ok (.iconst 3, 1) := by decide +kernel
theorem dL_law_822 : decode cL_law 822 = .ok (.ishr, 1) := by decide +kernel
theorem dL_law_823 : decode cL_law 823 = .ok (.iload 5, 2) := by decide +kernel
theorem dL_law_825 : decode cL_law 825 = .ok (.invokestatic 15, 3) := by decide +kernel
theorem dL_law_828 : decode cL_law 828 = .ok (.istore 18, 2) := by decide +kernel
theorem dL_law_830 : decode cL_law 830 = .ok (.iload 4, 2) := by decide +kernel
theorem dL_law_832 : decode cL_law 832 = .ok (.iconst 5, 1) := by decide +kernel
theorem dL_law_833 : decode cL_law 833 = .ok (.ishr, 1) := by decide +kernel
theorem dL_law_834 : decode cL_law 834 = .ok (.iload 5, 2) := by decide +kernel
theorem dL_law_836 : decode cL_law 836 = .ok (.invokestatic 15, 3) := by decide +kernel
theorem dL_law_839 : decode cL_law 839 = .ok (.istore 19, 2) := by decide +kernel
theorem dL_law_841 : decode cL_law 841 = .ok (.aload_n 1, 1) := by decide +kernel
theorem dL_law_842 : decode cL_law 842 = .ok (.iload 18, 2) := by decide +kernel
theorem dL_law_844 : decode cL_law 844 = .ok (.iload 19, 2) := by decide +kernel
theorem dL_law_846 : decode cL_law 846 = .ok (.invokevirtual 139, 3) := by decide +kernel
theorem dL_law_849 : decode cL_law 849 = .ok (.istore 20, 2) := by decide +kernel
theorem dL_law_851 : decode cL_law 851 = .ok (.iload 20, 2) := by decide +kernel
theorem dL_law_853 : decode cL_law 853 = .ok (.iconst 1, 1) := by decide +kernel
theorem dL_law_854 : decode cL_law 854 = .ok (.if_icmp .lt 48, 3) := by decide +kernel
theorem dL_law_857 : decode cL_law 857 = .ok (.iload 20, 2) := by decide +kernel
theorem dL_law_859 : decode cL_law 859 = .ok (.iload 5, 2) := by decide +kernel
theorem dL_law_861 : decode cL_law 861 = .ok (.iconst 1, 1) := by decide +kernel
theorem dL_law_862 : decode cL_law 862 = .ok (.iadd, 1) := by decide +kernel
theorem dL_law_863 : decode cL_law 863 = .ok (.if_icmp .gt 39, 3) := by decide +kernel
theorem dL_law_866 : decode cL_law 866 = .ok (.iload 20, 2) := by decide +kernel
theorem dL_law_868 : decode cL_law 868 = .ok (.iconst 1, 1) := by decide +kernel
theorem dL_law_869 : decode cL_law 869 = .ok (.if_icmp .ne 7, 3) := by decide +kernel
theorem dL_law_872 : decode cL_law 872 = .ok (.iconst 1, 1) := by decide +kernel
theorem dL_law_873 : decode cL_law 873 = .ok (.goto 4, 3) := by decide +kernel
theorem dL_law_876 : decode cL_law 876 = .ok (.iconst 0, 1) := by decide +kernel
theorem dL_law_877 : decode cL_law 877 = .ok (.iload 18, 2) := by decide +kernel
theorem dL_law_879 : decode cL_law 879 = .ok (.iload 19, 2) := by decide +kernel
theorem dL_law_881 : decode cL_law 881 = .ok (.if_icmp .ne 7, 3) := by decide +kernel
theorem dL_law_884 : decode cL_law 884 = .ok (.iconst 1, 1) := by decide +kernel
theorem dL_law_885 : decode cL_law 885 = .ok (.goto 4, 3) := by decide +kernel
theorem dL_law_888 : decode cL_law 888 = .ok (.iconst 0, 1) := by decide +kernel
theorem dL_law_889 : decode cL_law 889 = .ok (.if_icmp .ne 13, 3) := by decide +kernel
theorem dL_law_892 : decode cL_law 892 = .ok (.aload_n 1, 1) := by decide +kernel
theorem dL_law_893 : decode cL_law 893 = .ok (.invokevirtual 104, 3) := by decide +kernel
theorem dL_law_896 : decode cL_law 896 = .ok (.lload 8, 2) := by decide +kernel
theorem dL_law_898 : decode cL_law 898 = .ok (.lcmp, 1) := by decide +kernel
theorem dL_law_899 : decode cL_law 899 = .ok (.ifCond .eq 5, 3) := by decide +kernel
theorem dL_law_902 : decode cL_law 902 = .ok (.iconst 0, 1) := by decide +kernel
theorem dL_law_903 : decode cL_law 903 = .ok (.ireturn, 1) := by decide +kernel
theorem dL_law_904 : decode cL_law 904 = .ok (.iload 6, 2) := by decide +kernel
theorem dL_law_906 : decode cL_law 906 = .ok (.bipush 12, 2) := by decide +kernel
theorem dL_law_908 : decode cL_law 908 = .ok (.if_icmp .eq 139, 3) := by decide +kernel
theorem dL_law_911 : decode cL_law 911 = .ok (.iload 7, 2) := by decide +kernel
theorem dL_law_913 : decode cL_law 913 = .ok (.ifCond .ne 6, 3) := by decide +kernel
theorem dL_law_916 : decode cL_law 916 = .ok (.goto 131, 3) := by decide +kernel
theorem dL_law_919 : decode cL_law 919 = .ok (.aload_n 1, 1) := by decide +kernel
theorem dL_law_920 : decode cL_law 920 = .ok (.iload 4, 2) := by decide +kernel
theorem dL_law_922 : decode cL_law 922 = .ok (.iconst 4, 1) := by decide +kernel
theorem dL_law_923 : decode cL_law 923 = .ok (.ishr, 1) := by decide +kernel
theorem dL_law_924 : decode cL_law 924 = .ok (.iload 7, 2) := by decide +kernel
theorem dL_law_926 : decode cL_law 926 = .ok (.invokestatic 15, 3) := by decide +kernel
theorem dL_law_929 : decode cL_law 929 = .ok (.invokevirtual 81, 3) := by decide +kernel
theorem dL_law_932 : decode cL_law 932 = .ok (.istore 21, 2) := by decide +kernel
theorem dL_law_934 : decode cL_law 934 = .ok (.iload 4, 2) := by decide +kernel
theorem dL_law_936 : decode cL_law 936 = .ok (.bipush 6, 2) := by decide +kernel
theorem dL_law_938 : decode cL_law 938 = .ok (.ishr, 1) := by decide +kernel
theorem dL_law_939 : decode cL_law 939 = .ok (.iload 5, 2) := by decide +kernel
theorem dL_law_941 : decode cL_law 941 = .ok (.invokestatic 15, 3) := by decide +kernel
theorem dL_law_944 : decode cL_law 944 = .ok (.istore 22, 2) := by decide +kernel
theorem dL_law_946 : decode cL_law 946 = .ok (.aload_n 1, 1) := by decide +kernel
theorem dL_law_947 : decode cL_law 947 = .ok (.iload 22, 2) := by decide +kernel
theorem dL_law_949 : decode cL_law 949 = .ok (.iload 21, 2) := by decide +kernel
theorem dL_law_951 : decode cL_law 951 = .ok (.invokevirtual 112, 3) := by decide +kernel
theorem dL_law_954 : decode cL_law 954 = .ok (.istore 23, 2) := by decide +kernel
theorem dL_law_956 : decode cL_law 956 = .ok (.aload_n 1, 1) := by decide +kernel
theorem dL_law_957 : decode cL_law 957 = .ok (.iload 22, 2) := by decide +kernel
theorem dL_law_959 : decode cL_law 959 = .ok (.iload 23, 2) := by decide +kernel
theorem dL_law_961 : decode cL_law 961 = .ok (.iconst 5, 1) := by decide +kernel
theorem dL_law_962 : decode cL_law 962 = .ok (.idiv, 1) := by decide +kernel
theorem dL_law_963 : decode cL_law 963 = .ok (.iload 23, 2) := by decide +kernel
theorem dL_law_965 : decode cL_law 965 = .ok (.iconst 5, 1) := by decide +kernel
theorem dL_law_966 : decode cL_law 966 = .ok (.irem, 1) := by decide +kernel
theorem dL_law_967 : decode cL_law 967 = .ok (.invokevirtual 66, 3) := by decide +kernel
theorem dL_law_970 : decode cL_law 970 = .ok (.istore 24, 2) := by decide +kernel
theorem dL_law_972 : decode cL_law 972 = .ok (.iload 24, 2) := by decide +kernel
theorem dL_law_974 : decode cL_law 974 = .ok (.iconst 1, 1) := by decide +kernel
theorem dL_law_975 : decode cL_law 975 = .ok (.if_icmp .lt 70, 3) := by decide +kernel
theorem dL_law_978 : decode cL_law 978 = .ok (.iload 24, 2) := by decide +kernel
theorem dL_law_980 : decode cL_law 980 = .ok (.aload_n 1, 1) := by decide +kernel
theorem dL_law_981 : decode cL_law 981 = .ok (.iload 6, 2) := by decide +kernel
theorem dL_law_983 : decode cL_law 983 = .ok (.iconst 5, 1) := by decide +kernel
theorem dL_law_984 : decode cL_law 984 = .ok (.invokevirtual 109, 3) := by decide +kernel
theorem dL_law_987 : decode cL_law 987 = .ok (.if_icmp .gt 58, 3) := by decide +kernel
theorem dL_law_990 : decode cL_law 990 = .ok (.aload_n 1, 1) := by decide +kernel
theorem dL_law_991 : decode cL_law 991 = .ok (.iload 21, 2) := by decide +kernel
theorem dL_law_993 : decode cL_law 993 = .ok (.invokevirtual 113, 3) := by decide +kernel
theorem dL_law_996 : decode cL_law 996 = .ok (.ifCond .eq 49, 3) := by decide +kernel
theorem dL_law_999 : decode cL_law 999 = .ok (.iload 24, 2) := by decide +kernel
theorem dL_law_1001 : decode cL_law 1001 = .ok (.iload 7, 2) := by decide +kernel
theorem dL_law_1003 : decode cL_law 1003 = .ok (.if_icmp .gt 42, 3) := by decide +kernel
theorem dL_law_1006 : decode cL_law 1006 = .ok (.aload_n 1, 1) := by decide +kernel
theorem dL_law_1007 : decode cL_law 1007 = .ok (.iload 6, 2) := by decide +kernel
theorem dL_law_1009 : decode cL_law 1009 = .ok (.iconst 1, 1) := by decide +kernel
theorem dL_law_1010 : decode cL_law 1010 = .ok (.invokevirtual 83, 3) := by decide +kernel
theorem dL_law_1013 : decode cL_law 1013 = .ok (.ifCond .ne 32, 3) := by decide +kernel
theorem dL_law_1016 : decode cL_law 1016 = .ok (.aload_n 1, 1) := by decide +kernel
theorem dL_law_1017 : decode cL_law 1017 = .ok (.iconst 3, 1) := by decide +kernel
theorem dL_law_1018 : decode cL_law 1018 = .ok (.invokevirtual 78, 3) := by decide +kernel
theorem dL_law_1021 : decode cL_law 1021 = .ok (.iload 7, 2) := by decide +kernel
theorem dL_law_1023 : decode cL_law 1023 = .ok (.if_icmp .ne 22, 3) := by decide +kernel
theorem dL_law_1026 : decode cL_law 1026 = .ok (.aload_n 1, 1) := by decide +kernel
theorem dL_law_1027 : decode cL_law 1027 = .ok (.invokevirtual 87, 3) := by decide +kernel
theorem dL_law_1030 : decode cL_law 1030 = .ok (.iload 22, 2) := by decide +kernel
theorem dL_law_1032 : decode cL_law 1032 = .ok (.if_icmp .ne 13, 3) := by decide +kernel
theorem dL_law_1035 : decode cL_law 1035 = .ok (.aload_n 1, 1) := by decide +kernel
theorem dL_law_1036 : decode cL_law 1036 = .ok (.invokevirtual 104, 3) := by decide +kernel
theorem dL_law_1039 : decode cL_law 1039 = .ok (.lload 8, 2) := by decide +kernel
theorem dL_law_1041 : decode cL_law 1041 = .ok (.lcmp, 1) := by decide +kernel
theorem dL_law_1042 : decode cL_law 1042 = .ok (.ifCond .eq 5, 3) := by decide +kernel
theorem dL_law_1045 : decode cL_law 1045 = .ok (.iconst 0, 1) := by decide +kernel
theorem dL_law_1046 : decode cL_law 1046 = .ok (.ireturn, 1) := by decide +kernel
theorem dL_law_1047 : decode cL_law 1047 = .ok (.iinc 3 1, 3) := by decide +kernel
theorem dL_law_1050 : decode cL_law 1050 = .ok (.goto (-1028), 3) := by decide +kernel
theorem dL_law_1053 : decode cL_law 1053 = .ok (.aload_n 2, 1) := by decide +kernel
theorem dL_law_1054 : decode cL_law 1054 = .ok (.aload_n 1, 1) := by decide +kernel
theorem dL_law_1055 : decode cL_law 1055 = .ok (.invokevirtual 142, 3) := by decide +kernel
theorem dL_law_1058 : decode cL_law 1058 = .ok (.ireturn, 1) := by decide +kernel
