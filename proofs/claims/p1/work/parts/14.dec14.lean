theorem d_M_beginNode_93 : decode b_M_beginNode 93 = .ok (.aload_n 0, 1) := by decide +kernel
theorem d_M_beginNode_94 : decode b_M_beginNode 94 = .ok (.getfield 166, 3) := by decide +kernel
theorem d_M_beginNode_97 : decode b_M_beginNode 97 = .ok (.iconst 1, 1) := by decide +kernel
theorem d_M_beginNode_98 : decode b_M_beginNode 98 = .ok (.isub, 1) := by decide +kernel
theorem d_M_beginNode_99 : decode b_M_beginNode 99 = .ok (.iaload, 1) := by decide +kernel
theorem d_M_beginNode_100 : decode b_M_beginNode 100 = .ok (.goto (7), 3) := by decide +kernel
theorem d_M_beginNode_103 : decode b_M_beginNode 103 = .ok (.aload_n 0, 1) := by decide +kernel
theorem d_M_beginNode_104 : decode b_M_beginNode 104 = .ok (.getfield 119, 3) := by decide +kernel
theorem d_M_beginNode_107 : decode b_M_beginNode 107 = .ok (.istore_n 3, 1) := by decide +kernel
theorem d_M_beginNode_108 : decode b_M_beginNode 108 = .ok (.iload_n 2, 1) := by decide +kernel
theorem d_M_beginNode_109 : decode b_M_beginNode 109 = .ok (.bipush (10), 2) := by decide +kernel
theorem d_M_beginNode_111 : decode b_M_beginNode 111 = .ok (.if_icmp .ne (22), 3) := by decide +kernel
theorem d_M_beginNode_114 : decode b_M_beginNode 114 = .ok (.aload_n 0, 1) := by decide +kernel
theorem d_M_beginNode_115 : decode b_M_beginNode 115 = .ok (.getfield 7, 3) := by decide +kernel
theorem d_M_beginNode_118 : decode b_M_beginNode 118 = .ok (.aload_n 0, 1) := by decide +kernel
theorem d_M_beginNode_119 : decode b_M_beginNode 119 = .ok (.getfield 13, 3) := by decide +kernel
theorem d_M_beginNode_122 : decode b_M_beginNode 122 = .ok (.iload_n 1, 1) := by decide +kernel
theorem d_M_beginNode_123 : decode b_M_beginNode 123 = .ok (.iaload, 1) := by decide +kernel
theorem d_M_beginNode_124 : decode b_M_beginNode 124 = .ok (.iaload, 1) := by decide +kernel
theorem d_M_beginNode_125 : decode b_M_beginNode 125 = .ok (.iconst 3, 1) := by decide +kernel
theorem d_M_beginNode_126 : decode b_M_beginNode 126 = .ok (.if_icmp .ne (7), 3) := by decide +kernel
theorem d_M_beginNode_129 : decode b_M_beginNode 129 = .ok (.iconst 1, 1) := by decide +kernel
theorem d_M_beginNode_130 : decode b_M_beginNode 130 = .ok (.goto (4), 3) := by decide +kernel
theorem d_M_beginNode_133 : decode b_M_beginNode 133 = .ok (.iconst 0, 1) := by decide +kernel
theorem d_M_beginNode_134 : decode b_M_beginNode 134 = .ok (.istore 4, 2) := by decide +kernel
theorem d_M_beginNode_136 : decode b_M_beginNode 136 = .ok (.aload_n 0, 1) := by decide +kernel
theorem d_M_beginNode_137 : decode b_M_beginNode 137 = .ok (.getfield 58, 3) := by decide +kernel
theorem d_M_beginNode_140 : decode b_M_beginNode 140 = .ok (.iload_n 1, 1) := by decide +kernel
theorem d_M_beginNode_141 : decode b_M_beginNode 141 = .ok (.iload_n 2, 1) := by decide +kernel
theorem d_M_beginNode_142 : decode b_M_beginNode 142 = .ok (.invokestatic 129, 3) := by decide +kernel
theorem d_M_beginNode_145 : decode b_M_beginNode 145 = .ok (.ifCond .eq (29), 3) := by decide +kernel
theorem d_M_beginNode_148 : decode b_M_beginNode 148 = .ok (.aload_n 0, 1) := by decide +kernel
theorem d_M_beginNode_149 : decode b_M_beginNode 149 = .ok (.getfield 176, 3) := by decide +kernel
theorem d_M_beginNode_152 : decode b_M_beginNode 152 = .ok (.ifCond .lt (22), 3) := by decide +kernel
theorem d_M_beginNode_155 : decode b_M_beginNode 155 = .ok (.aload_n 0, 1) := by decide +kernel
theorem d_M_beginNode_156 : decode b_M_beginNode 156 = .ok (.getfield 198, 3) := by decide +kernel
theorem d_M_beginNode_159 : decode b_M_beginNode 159 = .ok (.ifCond .ne (8), 3) := by decide +kernel
theorem d_M_beginNode_162 : decode b_M_beginNode 162 = .ok (.iload 4, 2) := by decide +kernel
theorem d_M_beginNode_164 : decode b_M_beginNode 164 = .ok (.ifCond .eq (10), 3) := by decide +kernel
theorem d_M_beginNode_167 : decode b_M_beginNode 167 = .ok (.aload_n 0, 1) := by decide +kernel
theorem d_M_beginNode_168 : decode b_M_beginNode 168 = .ok (.getfield 176, 3) := by decide +kernel
theorem d_M_beginNode_171 : decode b_M_beginNode 171 = .ok (.goto (10), 3) := by decide +kernel
theorem d_M_beginNode_174 : decode b_M_beginNode 174 = .ok (.bipush (-2), 2) := by decide +kernel
theorem d_M_beginNode_176 : decode b_M_beginNode 176 = .ok (.aload_n 0, 1) := by decide +kernel
theorem d_M_beginNode_177 : decode b_M_beginNode 177 = .ok (.getfield 159, 3) := by decide +kernel
theorem d_M_beginNode_180 : decode b_M_beginNode 180 = .ok (.isub, 1) := by decide +kernel
theorem d_M_beginNode_181 : decode b_M_beginNode 181 = .ok (.iastore, 1) := by decide +kernel
theorem d_M_beginNode_182 : decode b_M_beginNode 182 = .ok (.iload_n 2, 1) := by decide +kernel
theorem d_M_beginNode_183 : decode b_M_beginNode 183 = .ok (.tableswitch (355) (0) (11) #[196, 203, 240, 286, 76, 89, 104, 125, 355, 294, 305, 61], 61) := by decide +kernel
theorem d_M_beginNode_244 : decode b_M_beginNode 244 = .ok (.aload_n 0, 1) := by decide +kernel
theorem d_M_beginNode_245 : decode b_M_beginNode 245 = .ok (.bipush (11), 2) := by decide +kernel
theorem d_M_beginNode_247 : decode b_M_beginNode 247 = .ok (.aload_n 0, 1) := by decide +kernel
theorem d_M_beginNode_248 : decode b_M_beginNode 248 = .ok (.getfield 119, 3) := by decide +kernel
theorem d_M_beginNode_251 : decode b_M_beginNode 251 = .ok (.iconst (-1), 1) := by decide +kernel
theorem d_M_beginNode_252 : decode b_M_beginNode 252 = .ok (.iconst 1, 1) := by decide +kernel
theorem d_M_beginNode_253 : decode b_M_beginNode 253 = .ok (.invokevirtual 213, 3) := by decide +kernel
theorem d_M_beginNode_256 : decode b_M_beginNode 256 = .ok (.goto (282), 3) := by decide +kernel
theorem d_M_beginNode_259 : decode b_M_beginNode 259 = .ok (.aload_n 0, 1) := by decide +kernel
theorem d_M_beginNode_260 : decode b_M_beginNode 260 = .ok (.iconst 4, 1) := by decide +kernel
theorem d_M_beginNode_261 : decode b_M_beginNode 261 = .ok (.iload_n 3, 1) := by decide +kernel
theorem d_M_beginNode_262 : decode b_M_beginNode 262 = .ok (.iconst 2, 1) := by decide +kernel
theorem d_M_beginNode_263 : decode b_M_beginNode 263 = .ok (.isub, 1) := by decide +kernel
theorem d_M_beginNode_264 : decode b_M_beginNode 264 = .ok (.iconst (-1), 1) := by decide +kernel
theorem d_M_beginNode_265 : decode b_M_beginNode 265 = .ok (.iconst 1, 1) := by decide +kernel
theorem d_M_beginNode_266 : decode b_M_beginNode 266 = .ok (.invokevirtual 213, 3) := by decide +kernel
theorem d_M_beginNode_269 : decode b_M_beginNode 269 = .ok (.goto (269), 3) := by decide +kernel
theorem d_M_beginNode_272 : decode b_M_beginNode 272 = .ok (.aload_n 0, 1) := by decide +kernel
theorem d_M_beginNode_273 : decode b_M_beginNode 273 = .ok (.iconst 5, 1) := by decide +kernel
theorem d_M_beginNode_274 : decode b_M_beginNode 274 = .ok (.iload_n 3, 1) := by decide +kernel
theorem d_M_beginNode_275 : decode b_M_beginNode 275 = .ok (.iconst (-1), 1) := by decide +kernel
theorem d_M_beginNode_276 : decode b_M_beginNode 276 = .ok (.aload_n 0, 1) := by decide +kernel
theorem d_M_beginNode_277 : decode b_M_beginNode 277 = .ok (.iload_n 1, 1) := by decide +kernel
theorem d_M_beginNode_278 : decode b_M_beginNode 278 = .ok (.invokevirtual 217, 3) := by decide +kernel
theorem d_M_beginNode_281 : decode b_M_beginNode 281 = .ok (.invokevirtual 213, 3) := by decide +kernel
theorem d_M_beginNode_284 : decode b_M_beginNode 284 = .ok (.goto (254), 3) := by decide +kernel
theorem d_M_beginNode_287 : decode b_M_beginNode 287 = .ok (.aload_n 0, 1) := by decide +kernel
theorem d_M_beginNode_288 : decode b_M_beginNode 288 = .ok (.bipush (6), 2) := by decide +kernel
theorem d_M_beginNode_290 : decode b_M_beginNode 290 = .ok (.iload_n 3, 1) := by decide +kernel
theorem d_M_beginNode_291 : decode b_M_beginNode 291 = .ok (.aload_n 0, 1) := by decide +kernel
theorem d_M_beginNode_292 : decode b_M_beginNode 292 = .ok (.getfield 16, 3) := by decide +kernel
theorem d_M_beginNode_295 : decode b_M_beginNode 295 = .ok (.iload_n 1, 1) := by decide +kernel
theorem d_M_beginNode_296 : decode b_M_beginNode 296 = .ok (.iaload, 1) := by decide +kernel
theorem d_M_beginNode_297 : decode b_M_beginNode 297 = .ok (.aload_n 0, 1) := by decide +kernel
theorem d_M_beginNode_298 : decode b_M_beginNode 298 = .ok (.iload_n 1, 1) := by decide +kernel
theorem d_M_beginNode_299 : decode b_M_beginNode 299 = .ok (.invokevirtual 217, 3) := by decide +kernel
theorem d_M_beginNode_302 : decode b_M_beginNode 302 = .ok (.invokevirtual 213, 3) := by decide +kernel
theorem d_M_beginNode_305 : decode b_M_beginNode 305 = .ok (.goto (233), 3) := by decide +kernel
theorem d_M_beginNode_308 : decode b_M_beginNode 308 = .ok (.aload_n 0, 1) := by decide +kernel
theorem d_M_beginNode_309 : decode b_M_beginNode 309 = .ok (.getfield 61, 3) := by decide +kernel
theorem d_M_beginNode_312 : decode b_M_beginNode 312 = .ok (.aload_n 0, 1) := by decide +kernel
theorem d_M_beginNode_313 : decode b_M_beginNode 313 = .ok (.getfield 166, 3) := by decide +kernel
theorem d_M_beginNode_316 : decode b_M_beginNode 316 = .ok (.iconst 1, 1) := by decide +kernel
theorem d_M_beginNode_317 : decode b_M_beginNode 317 = .ok (.isub, 1) := by decide +kernel
theorem d_M_beginNode_318 : decode b_M_beginNode 318 = .ok (.iaload, 1) := by decide +kernel
theorem d_M_beginNode_319 : decode b_M_beginNode 319 = .ok (.bipush (6), 2) := by decide +kernel
theorem d_M_beginNode_321 : decode b_M_beginNode 321 = .ok (.if_icmp .ne (17), 3) := by decide +kernel
theorem d_M_beginNode_324 : decode b_M_beginNode 324 = .ok (.aload_n 0, 1) := by decide +kernel
theorem d_M_beginNode_325 : decode b_M_beginNode 325 = .ok (.getfield 70, 3) := by decide +kernel
theorem d_M_beginNode_328 : decode b_M_beginNode 328 = .ok (.aload_n 0, 1) := by decide +kernel
theorem d_M_beginNode_329 : decode b_M_beginNode 329 = .ok (.getfield 166, 3) := by decide +kernel
theorem d_M_beginNode_332 : decode b_M_beginNode 332 = .ok (.iconst 1, 1) := by decide +kernel
theorem d_M_beginNode_333 : decode b_M_beginNode 333 = .ok (.isub, 1) := by decide +kernel
theorem d_M_beginNode_334 : decode b_M_beginNode 334 = .ok (.iaload, 1) := by decide +kernel
theorem d_M_beginNode_335 : decode b_M_beginNode 335 = .ok (.goto (4), 3) := by decide +kernel
theorem d_M_beginNode_338 : decode b_M_beginNode 338 = .ok (.iconst (-1), 1) := by decide +kernel
theorem d_M_beginNode_339 : decode b_M_beginNode 339 = .ok (.istore 5, 2) := by decide +kernel
theorem d_M_beginNode_341 : decode b_M_beginNode 341 = .ok (.aload_n 0, 1) := by decide +kernel
theorem d_M_beginNode_342 : decode b_M_beginNode 342 = .ok (.getfield 70, 3) := by decide +kernel
theorem d_M_beginNode_345 : decode b_M_beginNode 345 = .ok (.aload_n 0, 1) := by decide +kernel
theorem d_M_beginNode_346 : decode b_M_beginNode 346 = .ok (.getfield 166, 3) := by decide +kernel
theorem d_M_beginNode_349 : decode b_M_beginNode 349 = .ok (.iconst 1, 1) := by decide +kernel
theorem d_M_beginNode_350 : decode b_M_beginNode 350 = .ok (.isub, 1) := by decide +kernel
theorem d_M_beginNode_351 : decode b_M_beginNode 351 = .ok (.dup2, 1) := by decide +kernel
theorem d_M_beginNode_352 : decode b_M_beginNode 352 = .ok (.iaload, 1) := by decide +kernel
theorem d_M_beginNode_353 : decode b_M_beginNode 353 = .ok (.iconst 1, 1) := by decide +kernel
theorem d_M_beginNode_354 : decode b_M_beginNode 354 = .ok (.iadd, 1) := by decide +kernel
theorem d_M_beginNode_355 : decode b_M_beginNode 355 = .ok (.iastore, 1) := by decide +kernel
theorem d_M_beginNode_356 : decode b_M_beginNode 356 = .ok (.aload_n 0, 1) := by decide +kernel
theorem d_M_beginNode_357 : decode b_M_beginNode 357 = .ok (.bipush (7), 2) := by decide +kernel
theorem d_M_beginNode_359 : decode b_M_beginNode 359 = .ok (.iload_n 3, 1) := by decide +kernel
theorem d_M_beginNode_360 : decode b_M_beginNode 360 = .ok (.iload 5, 2) := by decide +kernel
theorem d_M_beginNode_362 : decode b_M_beginNode 362 = .ok (.invokestatic 155, 3) := by decide +kernel
theorem d_M_beginNode_365 : decode b_M_beginNode 365 = .ok (.isub, 1) := by decide +kernel
theorem d_M_beginNode_366 : decode b_M_beginNode 366 = .ok (.iload 5, 2) := by decide +kernel
theorem d_M_beginNode_368 : decode b_M_beginNode 368 = .ok (.aload_n 0, 1) := by decide +kernel
theorem d_M_beginNode_369 : decode b_M_beginNode 369 = .ok (.iload_n 1, 1) := by decide +kernel
theorem d_M_beginNode_370 : decode b_M_beginNode 370 = .ok (.invokevirtual 201, 3) := by decide +kernel
theorem d_M_beginNode_373 : decode b_M_beginNode 373 = .ok (.invokevirtual 213, 3) := by decide +kernel
theorem d_M_beginNode_376 : decode b_M_beginNode 376 = .ok (.goto (162), 3) := by decide +kernel
theorem d_M_beginNode_379 : decode b_M_beginNode 379 = .ok (.aload_n 0, 1) := by decide +kernel
theorem d_M_beginNode_380 : decode b_M_beginNode 380 = .ok (.invokevirtual 204, 3) := by decide +kernel
theorem d_M_beginNode_383 : decode b_M_beginNode 383 = .ok (.goto (155), 3) := by decide +kernel
theorem d_M_beginNode_386 : decode b_M_beginNode 386 = .ok (.aload_n 0, 1) := by decide +kernel
theorem d_M_beginNode_387 : decode b_M_beginNode 387 = .ok (.invokevirtual 204, 3) := by decide +kernel
theorem d_M_beginNode_390 : decode b_M_beginNode 390 = .ok (.iconst 0, 1) := by decide +kernel
theorem d_M_beginNode_391 : decode b_M_beginNode 391 = .ok (.istore 6, 2) := by decide +kernel
theorem d_M_beginNode_393 : decode b_M_beginNode 393 = .ok (.iload 6, 2) := by decide +kernel
theorem d_M_beginNode_395 : decode b_M_beginNode 395 = .ok (.aload_n 0, 1) := by decide +kernel
theorem d_M_beginNode_396 : decode b_M_beginNode 396 = .ok (.getfield 16, 3) := by decide +kernel
theorem d_M_beginNode_399 : decode b_M_beginNode 399 = .ok (.iload_n 1, 1) := by decide +kernel
theorem d_M_beginNode_400 : decode b_M_beginNode 400 = .ok (.iaload, 1) := by decide +kernel
theorem d_M_beginNode_401 : decode b_M_beginNode 401 = .ok (.if_icmp .ge (15), 3) := by decide +kernel
theorem d_M_beginNode_404 : decode b_M_beginNode 404 = .ok (.aload_n 0, 1) := by decide +kernel
theorem d_M_beginNode_405 : decode b_M_beginNode 405 = .ok (.bipush (61), 2) := by decide +kernel
theorem d_M_beginNode_407 : decode b_M_beginNode 407 = .ok (.invokevirtual 220, 3) := by decide +kernel
theorem d_M_beginNode_410 : decode b_M_beginNode 410 = .ok (.iinc 6 (1), 3) := by decide +kernel
theorem d_M_beginNode_413 : decode b_M_beginNode 413 = .ok (.goto (-20), 3) := by decide +kernel
theorem d_M_beginNode_416 : decode b_M_beginNode 416 = .ok (.aload_n 0, 1) := by decide +kernel
theorem d_M_beginNode_417 : decode b_M_beginNode 417 = .ok (.invokevirtual 195, 3) := by decide +kernel
theorem d_M_beginNode_420 : decode b_M_beginNode 420 = .ok (.goto (118), 3) := by decide +kernel
