set_option maxRecDepth 20000 in
theorem tw_269 : Cond.code yX9_together cX9_together 5 (Option.some Jvm.ClassFile.FieldType.int) ∈ WT := wt_2 28 rfl rfl
set_option maxRecDepth 20000 in
theorem tw_270 : Cond.constant RX9 11 (100000) ∈ WT := wt_2 29 rfl rfl
set_option maxRecDepth 20000 in
theorem tw_271 : Cond.constant RX9 12 (800000) ∈ WT := wt_2 30 rfl rfl
set_option maxRecDepth 20000 in
theorem tw_272 : Cond.methodLink RL 49 yX10_trait ∈ WT := wt_2 31 rfl rfl
set_option maxRecDepth 20000 in
theorem tw_273 : Cond.instanceMethod yX10_trait ∈ WT := wt_2 32 rfl rfl
set_option maxRecDepth 20000 in
theorem tw_274 : Cond.selects RX10 yX10_trait yX10_trait ∈ WT := wt_2 33 rfl rfl
set_option maxRecDepth 20000 in
theorem tw_275 : Cond.code yX10_trait cX10_trait 3 (Option.some Jvm.ClassFile.FieldType.int) ∈ WT := wt_2 34 rfl rfl
set_option maxRecDepth 20000 in
theorem tw_276 : Cond.methodLink RX10 129 yX10_isProfile ∈ WT := wt_2 35 rfl rfl
set_option maxRecDepth 20000 in
theorem tw_277 : Cond.static yX10_isProfile ∈ WT := wt_2 36 rfl rfl
set_option maxRecDepth 20000 in
theorem tw_278 : Cond.code yX10_isProfile cX10_isProfile 1 (Option.some Jvm.ClassFile.FieldType.boolean) ∈ WT := wt_2 37 rfl rfl
set_option maxRecDepth 20000 in
theorem tw_279 : Cond.constant RX10 310 (25599999) ∈ WT := wt_2 38 rfl rfl
set_option maxRecDepth 20000 in
theorem tw_280 : Cond.methodLink RX10 132 yX9_told ∈ WT := wt_2 39 rfl rfl
set_option maxRecDepth 20000 in
theorem tw_281 : Cond.static yX9_told ∈ WT := wt_2 40 rfl rfl
set_option maxRecDepth 20000 in
theorem tw_282 : Cond.code yX9_told cX9_told 2 (Option.some Jvm.ClassFile.FieldType.int) ∈ WT := wt_2 41 rfl rfl
set_option maxRecDepth 20000 in
theorem tw_283 : Cond.methodLink RL 53 yX10_outcome ∈ WT := wt_2 42 rfl rfl
set_option maxRecDepth 20000 in
theorem tw_284 : Cond.instanceMethod yX10_outcome ∈ WT := wt_2 43 rfl rfl
set_option maxRecDepth 20000 in
theorem tw_285 : Cond.selects RX10 yX10_outcome yX10_outcome ∈ WT := wt_2 44 rfl rfl
set_option maxRecDepth 20000 in
theorem tw_286 : Cond.code yX10_outcome cX10_outcome 3 (Option.some Jvm.ClassFile.FieldType.int) ∈ WT := wt_2 45 rfl rfl
set_option maxRecDepth 20000 in
theorem tw_287 : Cond.methodLink RX10 135 yX1_total ∈ WT := wt_2 46 rfl rfl
set_option maxRecDepth 20000 in
theorem tw_288 : Cond.instanceMethod yX1_total ∈ WT := wt_2 47 rfl rfl
set_option maxRecDepth 20000 in
theorem tw_289 : Cond.selects RX1 yX1_total yX1_total ∈ WT := wt_2 48 rfl rfl
set_option maxRecDepth 20000 in
theorem tw_290 : Cond.code yX1_total cX1_total 6 (Option.some Jvm.ClassFile.FieldType.int) ∈ WT := wt_2 49 rfl rfl
set_option maxRecDepth 20000 in
theorem tw_291 : Cond.methodLink RX1 62 yX1_holding ∈ WT := wt_2 50 rfl rfl
set_option maxRecDepth 20000 in
theorem tw_292 : Cond.instanceMethod yX1_holding ∈ WT := wt_2 51 rfl rfl
set_option maxRecDepth 20000 in
theorem tw_293 : Cond.selects RX1 yX1_holding yX1_holding ∈ WT := wt_2 52 rfl rfl
set_option maxRecDepth 20000 in
theorem tw_294 : Cond.code yX1_holding cX1_holding 5 (Option.some Jvm.ClassFile.FieldType.int) ∈ WT := wt_2 53 rfl rfl
set_option maxRecDepth 20000 in
theorem tw_295 : Cond.methodLink RX1 37 yX1_spanHas ∈ WT := wt_2 54 rfl rfl
set_option maxRecDepth 20000 in
theorem tw_297 : Cond.instanceMethod yX1_spanHas ∈ WT := wt_2 56 rfl rfl
set_option maxRecDepth 20000 in
theorem tw_298 : Cond.code yX1_spanHas cX1_spanHas 3 (Option.some Jvm.ClassFile.FieldType.boolean) ∈ WT := wt_2 57 rfl rfl
set_option maxRecDepth 20000 in
theorem tw_299 : Cond.methodLink RX1 33 yX1_at ∈ WT := wt_2 58 rfl rfl
set_option maxRecDepth 20000 in
theorem tw_300 : Cond.methodLink RX1 40 yX1_testIsSo ∈ WT := wt_2 59 rfl rfl
set_option maxRecDepth 20000 in
theorem tw_302 : Cond.instanceMethod yX1_testIsSo ∈ WT := wt_2 61 rfl rfl
set_option maxRecDepth 20000 in
theorem tw_303 : Cond.code yX1_testIsSo cX1_testIsSo 6 (Option.some Jvm.ClassFile.FieldType.boolean) ∈ WT := wt_2 62 rfl rfl
set_option maxRecDepth 20000 in
theorem tw_304 : Cond.methodLink RX1 43 yX9_told ∈ WT := wt_2 63 rfl rfl
set_option maxRecDepth 20000 in
theorem tw_306 : Cond.methodLink RX1 52 yX1_marksAreSo ∈ WT := wt_2 65 rfl rfl
set_option maxRecDepth 20000 in
theorem tw_307 : Cond.static yX1_marksAreSo ∈ WT := wt_2 66 rfl rfl
set_option maxRecDepth 20000 in
theorem tw_308 : Cond.code yX1_marksAreSo cX1_marksAreSo 3 (Option.some Jvm.ClassFile.FieldType.boolean) ∈ WT := wt_2 67 rfl rfl
set_option maxRecDepth 20000 in
theorem tw_309 : Cond.methodLink RX1 65 yX1_counting ∈ WT := wt_2 68 rfl rfl
set_option maxRecDepth 20000 in
theorem tw_310 : Cond.instanceMethod yX1_counting ∈ WT := wt_2 69 rfl rfl
set_option maxRecDepth 20000 in
theorem tw_311 : Cond.selects RX1 yX1_counting yX1_counting ∈ WT := wt_2 70 rfl rfl
set_option maxRecDepth 20000 in
theorem tw_312 : Cond.code yX1_counting cX1_counting 6 (Option.some Jvm.ClassFile.FieldType.int) ∈ WT := wt_2 71 rfl rfl
set_option maxRecDepth 20000 in
theorem tw_313 : Cond.methodLink RX1 58 yX1_standing ∈ WT := wt_2 72 rfl rfl
set_option maxRecDepth 20000 in
theorem tw_314 : Cond.instanceMethod yX1_standing ∈ WT := wt_2 73 rfl rfl
set_option maxRecDepth 20000 in
theorem tw_315 : Cond.selects RX1 yX1_standing yX1_standing ∈ WT := wt_2 74 rfl rfl
set_option maxRecDepth 20000 in
theorem tw_316 : Cond.code yX1_standing cX1_standing 5 (Option.some Jvm.ClassFile.FieldType.int) ∈ WT := wt_2 75 rfl rfl
set_option maxRecDepth 20000 in
theorem tw_317 : Cond.methodLink RX1 55 yX1_isIn ∈ WT := wt_2 76 rfl rfl
set_option maxRecDepth 20000 in
theorem tw_318 : Cond.static yX1_isIn ∈ WT := wt_2 77 rfl rfl
set_option maxRecDepth 20000 in
theorem tw_319 : Cond.code yX1_isIn cX1_isIn 2 (Option.some Jvm.ClassFile.FieldType.boolean) ∈ WT := wt_2 78 rfl rfl
set_option maxRecDepth 20000 in
theorem tw_320 : Cond.methodLink RX1 68 yX1_worth ∈ WT := wt_2 79 rfl rfl
set_option maxRecDepth 20000 in
theorem tw_321 : Cond.instanceMethod yX1_worth ∈ WT := wt_2 80 rfl rfl
set_option maxRecDepth 20000 in
theorem tw_322 : Cond.selects RX1 yX1_worth yX1_worth ∈ WT := wt_2 81 rfl rfl
set_option maxRecDepth 20000 in
theorem tw_323 : Cond.code yX1_worth cX1_worth 6 (Option.some Jvm.ClassFile.FieldType.int) ∈ WT := wt_2 82 rfl rfl
set_option maxRecDepth 20000 in
theorem tw_324 : Cond.methodLink RX1 71 yJ9_max_7cf53 ∈ WT := wt_2 83 rfl rfl
set_option maxRecDepth 20000 in
theorem tw_325 : Cond.static yJ9_max_7cf53 ∈ WT := wt_2 84 rfl rfl
set_option maxRecDepth 20000 in
theorem tw_326 : Cond.code yJ9_max_7cf53 cJ9_max_7cf53 2 (Option.some Jvm.ClassFile.FieldType.int) ∈ WT := wt_2 85 rfl rfl
set_option maxRecDepth 20000 in
theorem tw_327 : Cond.methodLink RX1 76 yJ9_min_7cf53 ∈ WT := wt_2 86 rfl rfl
set_option maxRecDepth 20000 in
theorem tw_328 : Cond.static yJ9_min_7cf53 ∈ WT := wt_2 87 rfl rfl
set_option maxRecDepth 20000 in
theorem tw_329 : Cond.code yJ9_min_7cf53 cJ9_min_7cf53 2 (Option.some Jvm.ClassFile.FieldType.int) ∈ WT := wt_2 88 rfl rfl
set_option maxRecDepth 20000 in
theorem tw_330 : Cond.methodLink RL 57 yX10_reason ∈ WT := wt_2 89 rfl rfl
set_option maxRecDepth 20000 in
theorem tw_331 : Cond.instanceMethod yX10_reason ∈ WT := wt_2 90 rfl rfl
set_option maxRecDepth 20000 in
theorem tw_332 : Cond.selects RX10 yX10_reason yX10_reason ∈ WT := wt_2 91 rfl rfl
set_option maxRecDepth 20000 in
theorem tw_333 : Cond.code yX10_reason cX10_reason 3 (Option.some Jvm.ClassFile.FieldType.int) ∈ WT := wt_2 92 rfl rfl
set_option maxRecDepth 20000 in
theorem tw_334 : Cond.methodLink RX10 138 yX1_holding ∈ WT := wt_2 93 rfl rfl
set_option maxRecDepth 20000 in
theorem tw_335 : Cond.methodLink RX10 141 yX1_counting ∈ WT := wt_2 94 rfl rfl
set_option maxRecDepth 20000 in
theorem tw_336 : Cond.methodLink RL 61 yX10_why ∈ WT := wt_2 95 rfl rfl
set_option maxRecDepth 20000 in
theorem tw_337 : Cond.instanceMethod yX10_why ∈ WT := wt_2 96 rfl rfl
set_option maxRecDepth 20000 in
theorem tw_338 : Cond.selects RX10 yX10_why yX10_why ∈ WT := wt_2 97 rfl rfl
set_option maxRecDepth 20000 in
theorem tw_339 : Cond.code yX10_why cX10_why 6 (Option.some Jvm.ClassFile.FieldType.int) ∈ WT := wt_2 98 rfl rfl
set_option maxRecDepth 20000 in
theorem tw_340 : Cond.methodLink RX10 144 yX1_isIn ∈ WT := wt_2 99 rfl rfl
set_option maxRecDepth 20000 in
theorem tw_341 : Cond.methodLink RX10 148 yX1_worth ∈ WT := wt_2 100 rfl rfl
set_option maxRecDepth 20000 in
theorem tw_342 : Cond.methodLink RX10 151 yX1_whyNot ∈ WT := wt_2 101 rfl rfl
set_option maxRecDepth 20000 in
theorem tw_343 : Cond.instanceMethod yX1_whyNot ∈ WT := wt_2 102 rfl rfl
set_option maxRecDepth 20000 in
theorem tw_344 : Cond.selects RX1 yX1_whyNot yX1_whyNot ∈ WT := wt_2 103 rfl rfl
set_option maxRecDepth 20000 in
theorem tw_345 : Cond.code yX1_whyNot cX1_whyNot 4 (Option.some Jvm.ClassFile.FieldType.int) ∈ WT := wt_2 104 rfl rfl
set_option maxRecDepth 20000 in
theorem tw_346 : Cond.methodLink RX10 155 yX1_standing ∈ WT := wt_2 105 rfl rfl
set_option maxRecDepth 20000 in
theorem tw_347 : Cond.methodLink RX10 158 yX1_leastException ∈ WT := wt_2 106 rfl rfl
set_option maxRecDepth 20000 in
theorem tw_348 : Cond.instanceMethod yX1_leastException ∈ WT := wt_2 107 rfl rfl
set_option maxRecDepth 20000 in
theorem tw_349 : Cond.selects RX1 yX1_leastException yX1_leastException ∈ WT := wt_2 108 rfl rfl
set_option maxRecDepth 20000 in
theorem tw_350 : Cond.code yX1_leastException cX1_leastException 4 (Option.some Jvm.ClassFile.FieldType.int) ∈ WT := wt_2 109 rfl rfl
set_option maxRecDepth 20000 in
theorem tw_351 : Cond.methodLink RL 66 yX10_hold ∈ WT := wt_2 110 rfl rfl
set_option maxRecDepth 20000 in
theorem tw_352 : Cond.instanceMethod yX10_hold ∈ WT := wt_2 111 rfl rfl
set_option maxRecDepth 20000 in
theorem tw_353 : Cond.selects RX10 yX10_hold yX10_hold ∈ WT := wt_2 112 rfl rfl
set_option maxRecDepth 20000 in
theorem tw_354 : Cond.code yX10_hold cX10_hold 5 (Option.some Jvm.ClassFile.FieldType.int) ∈ WT := wt_2 113 rfl rfl
set_option maxRecDepth 20000 in
theorem tw_355 : Cond.methodLink RL 70 yX10_best ∈ WT := wt_2 114 rfl rfl
set_option maxRecDepth 20000 in
theorem tw_356 : Cond.instanceMethod yX10_best ∈ WT := wt_2 115 rfl rfl
set_option maxRecDepth 20000 in
theorem tw_357 : Cond.selects RX10 yX10_best yX10_best ∈ WT := wt_2 116 rfl rfl
set_option maxRecDepth 20000 in
theorem tw_358 : Cond.code yX10_best cX10_best 6 (Option.some Jvm.ClassFile.FieldType.int) ∈ WT := wt_2 117 rfl rfl
set_option maxRecDepth 20000 in
theorem tw_359 : Cond.methodLink RX10 161 yX10_isAlong ∈ WT := wt_2 118 rfl rfl
set_option maxRecDepth 20000 in
theorem tw_360 : Cond.static yX10_isAlong ∈ WT := wt_2 119 rfl rfl
set_option maxRecDepth 20000 in
theorem tw_361 : Cond.code yX10_isAlong cX10_isAlong 3 (Option.some Jvm.ClassFile.FieldType.boolean) ∈ WT := wt_2 120 rfl rfl
set_option maxRecDepth 20000 in
theorem tw_362 : Cond.methodLink RX10 164 yX3_follow ∈ WT := wt_2 121 rfl rfl
set_option maxRecDepth 20000 in
theorem tw_363 : Cond.instanceMethod yX3_follow ∈ WT := wt_2 122 rfl rfl
set_option maxRecDepth 20000 in
theorem tw_364 : Cond.selects RX3 yX3_follow yX3_follow ∈ WT := wt_2 123 rfl rfl
set_option maxRecDepth 20000 in
theorem tw_365 : Cond.code yX3_follow cX3_follow 6 (Option.none : Option Jvm.ClassFile.FieldType) ∈ WT := wt_2 124 rfl rfl
set_option maxRecDepth 20000 in
theorem tw_366 : Cond.methodLink RX3 19 yX9_last ∈ WT := wt_2 125 rfl rfl
set_option maxRecDepth 20000 in
theorem tw_367 : Cond.methodLink RX3 25 yX9_changed ∈ WT := wt_2 126 rfl rfl
set_option maxRecDepth 20000 in
theorem tw_368 : Cond.static yX9_changed ∈ WT := wt_2 127 rfl rfl
set_option maxRecDepth 20000 in
theorem tw_369 : Cond.code yX9_changed cX9_changed 3 (Option.some Jvm.ClassFile.FieldType.int) ∈ WT := wt_2 128 rfl rfl
set_option maxRecDepth 20000 in
theorem tw_370 : Cond.methodLink RX9 13 yX9_told ∈ WT := wt_2 129 rfl rfl
set_option maxRecDepth 20000 in
theorem tw_371 : Cond.methodLink RX9 17 yX9_weight ∈ WT := wt_2 130 rfl rfl
set_option maxRecDepth 20000 in
theorem tw_372 : Cond.static yX9_weight ∈ WT := wt_2 131 rfl rfl
set_option maxRecDepth 20000 in
theorem tw_373 : Cond.code yX9_weight cX9_weight 1 (Option.some Jvm.ClassFile.FieldType.int) ∈ WT := wt_2 132 rfl rfl
set_option maxRecDepth 20000 in
theorem tw_374 : Cond.methodLink RX3 29 yX1_total ∈ WT := wt_2 133 rfl rfl
set_option maxRecDepth 20000 in
theorem tw_375 : Cond.methodLink RX10 168 yX3_leastOfMost ∈ WT := wt_2 134 rfl rfl
set_option maxRecDepth 20000 in
theorem tw_376 : Cond.instanceMethod yX3_leastOfMost ∈ WT := wt_2 135 rfl rfl
set_option maxRecDepth 20000 in
theorem tw_377 : Cond.selects RX3 yX3_leastOfMost yX3_leastOfMost ∈ WT := wt_2 136 rfl rfl
set_option maxRecDepth 20000 in
theorem tw_378 : Cond.code yX3_leastOfMost cX3_leastOfMost 3 (Option.some Jvm.ClassFile.FieldType.int) ∈ WT := wt_2 137 rfl rfl
set_option maxRecDepth 20000 in
theorem tw_379 : Cond.methodLink RX10 171 yX3_at ∈ WT := wt_2 138 rfl rfl
set_option maxRecDepth 20000 in
theorem tw_380 : Cond.instanceMethod yX3_at ∈ WT := wt_2 139 rfl rfl
set_option maxRecDepth 20000 in
theorem tw_381 : Cond.selects RX3 yX3_at yX3_at ∈ WT := wt_2 140 rfl rfl
set_option maxRecDepth 20000 in
theorem tw_382 : Cond.code yX3_at cX3_at 2 (Option.some Jvm.ClassFile.FieldType.int) ∈ WT := wt_2 141 rfl rfl
set_option maxRecDepth 20000 in
theorem tw_383 : Cond.methodLink RL 74 yX10_jumps ∈ WT := wt_2 142 rfl rfl
set_option maxRecDepth 20000 in
theorem tw_384 : Cond.instanceMethod yX10_jumps ∈ WT := wt_2 143 rfl rfl
set_option maxRecDepth 20000 in
theorem tw_385 : Cond.selects RX10 yX10_jumps yX10_jumps ∈ WT := wt_2 144 rfl rfl
set_option maxRecDepth 20000 in
theorem tw_386 : Cond.code yX10_jumps cX10_jumps 5 (Option.some Jvm.ClassFile.FieldType.int) ∈ WT := wt_2 145 rfl rfl
set_option maxRecDepth 20000 in
theorem tw_387 : Cond.methodLink RX10 173 yX3_jumpCount ∈ WT := wt_2 146 rfl rfl
set_option maxRecDepth 20000 in
theorem tw_388 : Cond.instanceMethod yX3_jumpCount ∈ WT := wt_2 147 rfl rfl
set_option maxRecDepth 20000 in
theorem tw_389 : Cond.selects RX3 yX3_jumpCount yX3_jumpCount ∈ WT := wt_2 148 rfl rfl
set_option maxRecDepth 20000 in
theorem tw_390 : Cond.code yX3_jumpCount cX3_jumpCount 3 (Option.some Jvm.ClassFile.FieldType.int) ∈ WT := wt_2 149 rfl rfl
set_option maxRecDepth 20000 in
theorem tw_391 : Cond.methodLink RX3 35 yX3_isJump ∈ WT := wt_2 150 rfl rfl
set_option maxRecDepth 20000 in
theorem tw_393 : Cond.instanceMethod yX3_isJump ∈ WT := wt_2 152 rfl rfl
set_option maxRecDepth 20000 in
theorem tw_394 : Cond.code yX3_isJump cX3_isJump 2 (Option.some Jvm.ClassFile.FieldType.boolean) ∈ WT := wt_2 153 rfl rfl
set_option maxRecDepth 20000 in
theorem tw_395 : Cond.methodLink RX10 176 yX3_firstJump ∈ WT := wt_2 154 rfl rfl
set_option maxRecDepth 20000 in
theorem tw_396 : Cond.instanceMethod yX3_firstJump ∈ WT := wt_2 155 rfl rfl
set_option maxRecDepth 20000 in
theorem tw_397 : Cond.selects RX3 yX3_firstJump yX3_firstJump ∈ WT := wt_2 156 rfl rfl
set_option maxRecDepth 20000 in
theorem tw_398 : Cond.code yX3_firstJump cX3_firstJump 2 (Option.some Jvm.ClassFile.FieldType.int) ∈ WT := wt_2 157 rfl rfl
set_option maxRecDepth 20000 in
theorem tw_399 : Cond.methodLink RX10 179 yX3_cliffCount ∈ WT := wt_2 158 rfl rfl
set_option maxRecDepth 20000 in
theorem tw_400 : Cond.instanceMethod yX3_cliffCount ∈ WT := wt_2 159 rfl rfl
set_option maxRecDepth 20000 in
theorem tw_401 : Cond.selects RX3 yX3_cliffCount yX3_cliffCount ∈ WT := wt_2 160 rfl rfl
set_option maxRecDepth 20000 in
theorem tw_402 : Cond.code yX3_cliffCount cX3_cliffCount 3 (Option.some Jvm.ClassFile.FieldType.int) ∈ WT := wt_2 161 rfl rfl
set_option maxRecDepth 20000 in
theorem tw_403 : Cond.methodLink RX3 39 yX3_cliffHeight ∈ WT := wt_2 162 rfl rfl
set_option maxRecDepth 20000 in
theorem tw_404 : Cond.instanceMethod yX3_cliffHeight ∈ WT := wt_2 163 rfl rfl
set_option maxRecDepth 20000 in
theorem tw_405 : Cond.selects RX3 yX3_cliffHeight yX3_cliffHeight ∈ WT := wt_2 164 rfl rfl
set_option maxRecDepth 20000 in
theorem tw_406 : Cond.code yX3_cliffHeight cX3_cliffHeight 2 (Option.some Jvm.ClassFile.FieldType.int) ∈ WT := wt_2 165 rfl rfl
set_option maxRecDepth 20000 in
theorem tw_407 : Cond.methodLink RX3 42 yJ9_max_7cf53 ∈ WT := wt_2 166 rfl rfl
set_option maxRecDepth 20000 in
theorem tw_408 : Cond.methodLink RX10 182 yX3_highestCliff ∈ WT := wt_2 167 rfl rfl
set_option maxRecDepth 20000 in
theorem tw_409 : Cond.instanceMethod yX3_highestCliff ∈ WT := wt_2 168 rfl rfl
set_option maxRecDepth 20000 in
theorem tw_410 : Cond.selects RX3 yX3_highestCliff yX3_highestCliff ∈ WT := wt_2 169 rfl rfl
set_option maxRecDepth 20000 in
theorem tw_411 : Cond.code yX3_highestCliff cX3_highestCliff 3 (Option.some Jvm.ClassFile.FieldType.int) ∈ WT := wt_2 170 rfl rfl
set_option maxRecDepth 20000 in
theorem tw_412 : Cond.methodLink RX10 185 yX3_cliffHeight ∈ WT := wt_2 171 rfl rfl
set_option maxRecDepth 20000 in
theorem tw_413 : Cond.methodLink RL 78 yX10_bends ∈ WT := wt_2 172 rfl rfl
set_option maxRecDepth 20000 in
theorem tw_414 : Cond.instanceMethod yX10_bends ∈ WT := wt_2 173 rfl rfl
set_option maxRecDepth 20000 in
theorem tw_415 : Cond.selects RX10 yX10_bends yX10_bends ∈ WT := wt_2 174 rfl rfl
set_option maxRecDepth 20000 in
theorem tw_416 : Cond.code yX10_bends cX10_bends 5 (Option.some Jvm.ClassFile.FieldType.int) ∈ WT := wt_2 175 rfl rfl
set_option maxRecDepth 20000 in
theorem tw_417 : Cond.methodLink RX10 188 yX3_bendCount ∈ WT := wt_2 176 rfl rfl
set_option maxRecDepth 20000 in
theorem tw_418 : Cond.instanceMethod yX3_bendCount ∈ WT := wt_2 177 rfl rfl
set_option maxRecDepth 20000 in
theorem tw_419 : Cond.selects RX3 yX3_bendCount yX3_bendCount ∈ WT := wt_2 178 rfl rfl
set_option maxRecDepth 20000 in
theorem tw_420 : Cond.code yX3_bendCount cX3_bendCount 3 (Option.some Jvm.ClassFile.FieldType.int) ∈ WT := wt_2 179 rfl rfl
set_option maxRecDepth 20000 in
theorem tw_421 : Cond.methodLink RX3 47 yX3_isBend ∈ WT := wt_2 180 rfl rfl
set_option maxRecDepth 20000 in
theorem tw_423 : Cond.instanceMethod yX3_isBend ∈ WT := wt_2 182 rfl rfl
set_option maxRecDepth 20000 in
theorem tw_424 : Cond.code yX3_isBend cX3_isBend 2 (Option.some Jvm.ClassFile.FieldType.boolean) ∈ WT := wt_2 183 rfl rfl
set_option maxRecDepth 20000 in
theorem tw_425 : Cond.methodLink RX10 191 yX3_firstBend ∈ WT := wt_2 184 rfl rfl
set_option maxRecDepth 20000 in
theorem tw_426 : Cond.instanceMethod yX3_firstBend ∈ WT := wt_2 185 rfl rfl
set_option maxRecDepth 20000 in
theorem tw_427 : Cond.selects RX3 yX3_firstBend yX3_firstBend ∈ WT := wt_2 186 rfl rfl
set_option maxRecDepth 20000 in
theorem tw_428 : Cond.code yX3_firstBend cX3_firstBend 2 (Option.some Jvm.ClassFile.FieldType.int) ∈ WT := wt_2 187 rfl rfl
set_option maxRecDepth 20000 in
theorem tw_429 : Cond.methodLink RX10 194 yX3_longestLevel ∈ WT := wt_2 188 rfl rfl
set_option maxRecDepth 20000 in
theorem tw_430 : Cond.instanceMethod yX3_longestLevel ∈ WT := wt_2 189 rfl rfl
set_option maxRecDepth 20000 in
theorem tw_431 : Cond.selects RX3 yX3_longestLevel yX3_longestLevel ∈ WT := wt_2 190 rfl rfl
set_option maxRecDepth 20000 in
theorem tw_432 : Cond.code yX3_longestLevel cX3_longestLevel 4 (Option.some Jvm.ClassFile.FieldType.int) ∈ WT := wt_2 191 rfl rfl
set_option maxRecDepth 20000 in
theorem tw_433 : Cond.methodLink RL 82 yX10_enough ∈ WT := wt_2 192 rfl rfl
set_option maxRecDepth 20000 in
theorem tw_434 : Cond.instanceMethod yX10_enough ∈ WT := wt_2 193 rfl rfl
set_option maxRecDepth 20000 in
theorem tw_435 : Cond.selects RX10 yX10_enough yX10_enough ∈ WT := wt_2 194 rfl rfl
set_option maxRecDepth 20000 in
theorem tw_436 : Cond.code yX10_enough cX10_enough 5 (Option.some Jvm.ClassFile.FieldType.int) ∈ WT := wt_2 195 rfl rfl
set_option maxRecDepth 20000 in
theorem tw_437 : Cond.methodLink RX10 197 yX3_leastReaching ∈ WT := wt_2 196 rfl rfl
set_option maxRecDepth 20000 in
theorem tw_438 : Cond.instanceMethod yX3_leastReaching ∈ WT := wt_2 197 rfl rfl
set_option maxRecDepth 20000 in
theorem tw_439 : Cond.selects RX3 yX3_leastReaching yX3_leastReaching ∈ WT := wt_2 198 rfl rfl
set_option maxRecDepth 20000 in
theorem tw_440 : Cond.code yX3_leastReaching cX3_leastReaching 3 (Option.some Jvm.ClassFile.FieldType.int) ∈ WT := wt_2 199 rfl rfl
set_option maxRecDepth 20000 in
theorem tw_441 : Cond.methodLink RL 86 yX10_share ∈ WT := wt_2 200 rfl rfl
set_option maxRecDepth 20000 in
theorem tw_442 : Cond.instanceMethod yX10_share ∈ WT := wt_2 201 rfl rfl
set_option maxRecDepth 20000 in
theorem tw_443 : Cond.selects RX10 yX10_share yX10_share ∈ WT := wt_2 202 rfl rfl
set_option maxRecDepth 20000 in
theorem tw_444 : Cond.code yX10_share cX10_share 4 (Option.some Jvm.ClassFile.FieldType.long) ∈ WT := wt_2 203 rfl rfl
set_option maxRecDepth 20000 in
theorem tw_445 : Cond.constantLong RX10 200 (-4611686018427387906) ∈ WT := wt_2 204 rfl rfl
set_option maxRecDepth 20000 in
theorem tw_446 : Cond.methodLink RX10 202 yX0_ofDouble ∈ WT := wt_2 205 rfl rfl
set_option maxRecDepth 20000 in
theorem tw_447 : Cond.static yX0_ofDouble ∈ WT := wt_2 206 rfl rfl
set_option maxRecDepth 20000 in
theorem tw_448 : Cond.code yX0_ofDouble cX0_ofDouble 9 (Option.some Jvm.ClassFile.FieldType.long) ∈ WT := wt_2 207 rfl rfl
set_option maxRecDepth 20000 in
theorem tw_449 : Cond.constantLong RX0 9 (-9223372036854775808) ∈ WT := wt_2 208 rfl rfl
set_option maxRecDepth 20000 in
theorem tw_450 : Cond.constantLong RX0 13 (1023) ∈ WT := wt_2 209 rfl rfl
set_option maxRecDepth 20000 in
theorem tw_451 : Jvm.Cond.constantDouble "StatuteBook$Bits" (15 : Nat) (4611686018427387904 : UInt64) ∈ WT := wt_2 210 rfl rfl
set_option maxRecDepth 20000 in
theorem tw_452 : Jvm.Cond.constantDouble "StatuteBook$Bits" (17 : Nat) (4841369599423283200 : UInt64) ∈ WT := wt_2 211 rfl rfl
set_option maxRecDepth 20000 in
theorem tw_453 : Cond.methodLink RL 91 yX10_mean ∈ WT := wt_2 212 rfl rfl
set_option maxRecDepth 20000 in
theorem tw_454 : Cond.instanceMethod yX10_mean ∈ WT := wt_2 213 rfl rfl
set_option maxRecDepth 20000 in
theorem tw_455 : Cond.selects RX10 yX10_mean yX10_mean ∈ WT := wt_2 214 rfl rfl
set_option maxRecDepth 20000 in
theorem tw_456 : Cond.code yX10_mean cX10_mean 7 (Option.some Jvm.ClassFile.FieldType.int) ∈ WT := wt_2 215 rfl rfl
set_option maxRecDepth 20000 in
theorem tw_457 : Cond.methodLink RX10 211 yX2_nextProfile ∈ WT := wt_2 216 rfl rfl
set_option maxRecDepth 20000 in
theorem tw_458 : Cond.instanceMethod yX2_nextProfile ∈ WT := wt_2 217 rfl rfl
set_option maxRecDepth 20000 in
theorem tw_459 : Cond.selects RX2 yX2_nextProfile yX2_nextProfile ∈ WT := wt_2 218 rfl rfl
set_option maxRecDepth 20000 in
theorem tw_460 : Cond.code yX2_nextProfile cX2_nextProfile 6 (Option.some Jvm.ClassFile.FieldType.int) ∈ WT := wt_2 219 rfl rfl
set_option maxRecDepth 20000 in
theorem tw_461 : Cond.methodLink RX2 13 yX2_nextRest ∈ WT := wt_2 220 rfl rfl
set_option maxRecDepth 20000 in
theorem tw_463 : Cond.instanceMethod yX2_nextRest ∈ WT := wt_2 222 rfl rfl
set_option maxRecDepth 20000 in
theorem tw_464 : Cond.code yX2_nextRest cX2_nextRest 2 (Option.some Jvm.ClassFile.FieldType.int) ∈ WT := wt_2 223 rfl rfl
set_option maxRecDepth 20000 in
theorem tw_465 : Cond.constant RX2 23 (1103515245) ∈ WT := wt_2 224 rfl rfl
set_option maxRecDepth 20000 in
theorem tw_466 : Cond.methodLink RX2 17 yX9_together ∈ WT := wt_2 225 rfl rfl
set_option maxRecDepth 20000 in
theorem tw_467 : Cond.methodLink RX10 214 yX0_ofFloat ∈ WT := wt_2 226 rfl rfl
set_option maxRecDepth 20000 in
theorem tw_468 : Cond.static yX0_ofFloat ∈ WT := wt_2 227 rfl rfl
set_option maxRecDepth 20000 in
theorem tw_469 : Cond.code yX0_ofFloat cX0_ofFloat 5 (Option.some Jvm.ClassFile.FieldType.int) ∈ WT := wt_2 228 rfl rfl
set_option maxRecDepth 20000 in
theorem tw_470 : Cond.methodLink RX0 19 yX0_ofDouble ∈ WT := wt_2 229 rfl rfl
set_option maxRecDepth 20000 in
theorem tw_471 : Cond.constantLong RX0 23 (127) ∈ WT := wt_2 230 rfl rfl
set_option maxRecDepth 20000 in
theorem tw_472 : Cond.constantLong RX0 25 (8388607) ∈ WT := wt_2 231 rfl rfl
set_option maxRecDepth 20000 in
theorem tw_473 : Cond.methodLink RL 95 yX10_until ∈ WT := wt_2 232 rfl rfl
set_option maxRecDepth 20000 in
theorem tw_474 : Cond.instanceMethod yX10_until ∈ WT := wt_2 233 rfl rfl
set_option maxRecDepth 20000 in
theorem tw_475 : Cond.selects RX10 yX10_until yX10_until ∈ WT := wt_2 234 rfl rfl
set_option maxRecDepth 20000 in
theorem tw_476 : Cond.code yX10_until cX10_until 6 (Option.some Jvm.ClassFile.FieldType.int) ∈ WT := wt_2 235 rfl rfl
set_option maxRecDepth 20000 in
theorem tw_477 : Cond.methodLink RX10 218 yX1_nextEdge ∈ WT := wt_2 236 rfl rfl
set_option maxRecDepth 20000 in
theorem tw_478 : Cond.instanceMethod yX1_nextEdge ∈ WT := wt_2 237 rfl rfl
set_option maxRecDepth 20000 in
theorem tw_479 : Cond.selects RX1 yX1_nextEdge yX1_nextEdge ∈ WT := wt_2 238 rfl rfl
set_option maxRecDepth 20000 in
theorem tw_480 : Cond.code yX1_nextEdge cX1_nextEdge 6 (Option.some Jvm.ClassFile.FieldType.int) ∈ WT := wt_2 239 rfl rfl
set_option maxRecDepth 20000 in
theorem tw_481 : Cond.methodLink RL 99 yX10_mark ∈ WT := wt_3 0 rfl rfl
set_option maxRecDepth 20000 in
theorem tw_482 : Cond.instanceMethod yX10_mark ∈ WT := wt_3 1 rfl rfl
set_option maxRecDepth 20000 in
theorem tw_483 : Cond.selects RX10 yX10_mark yX10_mark ∈ WT := wt_3 2 rfl rfl
set_option maxRecDepth 20000 in
theorem tw_484 : Cond.code yX10_mark cX10_mark 1 (Option.some Jvm.ClassFile.FieldType.int) ∈ WT := wt_3 3 rfl rfl
set_option maxRecDepth 20000 in
theorem tw_485 : Cond.methodLink RX10 221 yX1_become ∈ WT := wt_3 4 rfl rfl
set_option maxRecDepth 20000 in
theorem tw_486 : Cond.instanceMethod yX1_become ∈ WT := wt_3 5 rfl rfl
set_option maxRecDepth 20000 in
theorem tw_487 : Cond.selects RX1 yX1_become yX1_become ∈ WT := wt_3 6 rfl rfl
set_option maxRecDepth 20000 in
theorem tw_488 : Cond.code yX1_become cX1_become 2 (Option.none : Option Jvm.ClassFile.FieldType) ∈ WT := wt_3 7 rfl rfl
set_option maxRecDepth 20000 in
theorem tw_489 : Cond.methodLink RX1 23 ⟨"java/lang/System", "arraycopy", "(Ljava/lang/Object;ILjava/lang/Object;II)V"⟩ ∈ WT := wt_3 8 rfl rfl
set_option maxRecDepth 20000 in
theorem tw_490 : Cond.static ⟨"java/lang/System", "arraycopy", "(Ljava/lang/Object;ILjava/lang/Object;II)V"⟩ ∈ WT := wt_3 9 rfl rfl
set_option maxRecDepth 20000 in
theorem tw_491 : Cond.native ⟨"java/lang/System", "arraycopy", "(Ljava/lang/Object;ILjava/lang/Object;II)V"⟩ ∈ WT := wt_3 10 rfl rfl
set_option maxRecDepth 20000 in
theorem tw_492 : Cond.methodLink RL 103 yX10_touched ∈ WT := wt_3 11 rfl rfl
set_option maxRecDepth 20000 in
theorem tw_493 : Cond.instanceMethod yX10_touched ∈ WT := wt_3 12 rfl rfl
set_option maxRecDepth 20000 in
theorem tw_494 : Cond.selects RX10 yX10_touched yX10_touched ∈ WT := wt_3 13 rfl rfl
set_option maxRecDepth 20000 in
theorem tw_495 : Cond.code yX10_touched cX10_touched 3 (Option.some Jvm.ClassFile.FieldType.int) ∈ WT := wt_3 14 rfl rfl
set_option maxRecDepth 20000 in
theorem tw_496 : Cond.methodLink RL 107 yX10_touches ∈ WT := wt_3 15 rfl rfl
set_option maxRecDepth 20000 in
theorem tw_497 : Cond.instanceMethod yX10_touches ∈ WT := wt_3 16 rfl rfl
set_option maxRecDepth 20000 in
theorem tw_498 : Cond.selects RX10 yX10_touches yX10_touches ∈ WT := wt_3 17 rfl rfl
set_option maxRecDepth 20000 in
theorem tw_499 : Cond.code yX10_touches cX10_touches 5 (Option.some Jvm.ClassFile.FieldType.int) ∈ WT := wt_3 18 rfl rfl
set_option maxRecDepth 20000 in
theorem tw_500 : Cond.methodLink RX10 224 yX3_lessen ∈ WT := wt_3 19 rfl rfl
set_option maxRecDepth 20000 in
theorem tw_501 : Cond.instanceMethod yX3_lessen ∈ WT := wt_3 20 rfl rfl
set_option maxRecDepth 20000 in
theorem tw_502 : Cond.selects RX3 yX3_lessen yX3_lessen ∈ WT := wt_3 21 rfl rfl
set_option maxRecDepth 20000 in
theorem tw_503 : Cond.code yX3_lessen cX3_lessen 6 (Option.none : Option Jvm.ClassFile.FieldType) ∈ WT := wt_3 22 rfl rfl
set_option maxRecDepth 20000 in
theorem tw_504 : Cond.methodLink RX10 227 yX3_otherThanZeroCount ∈ WT := wt_3 23 rfl rfl
set_option maxRecDepth 20000 in
theorem tw_505 : Cond.instanceMethod yX3_otherThanZeroCount ∈ WT := wt_3 24 rfl rfl
set_option maxRecDepth 20000 in
theorem tw_506 : Cond.selects RX3 yX3_otherThanZeroCount yX3_otherThanZeroCount ∈ WT := wt_3 25 rfl rfl
set_option maxRecDepth 20000 in
theorem tw_507 : Cond.code yX3_otherThanZeroCount cX3_otherThanZeroCount 3 (Option.some Jvm.ClassFile.FieldType.int) ∈ WT := wt_3 26 rfl rfl
set_option maxRecDepth 20000 in
theorem tw_508 : Cond.methodLink RX10 230 yX3_firstOtherThanZero ∈ WT := wt_3 27 rfl rfl
set_option maxRecDepth 20000 in
theorem tw_509 : Cond.instanceMethod yX3_firstOtherThanZero ∈ WT := wt_3 28 rfl rfl
set_option maxRecDepth 20000 in
theorem tw_510 : Cond.selects RX3 yX3_firstOtherThanZero yX3_firstOtherThanZero ∈ WT := wt_3 29 rfl rfl
set_option maxRecDepth 20000 in
theorem tw_511 : Cond.code yX3_firstOtherThanZero cX3_firstOtherThanZero 2 (Option.some Jvm.ClassFile.FieldType.int) ∈ WT := wt_3 30 rfl rfl
set_option maxRecDepth 20000 in
theorem tw_512 : Cond.methodLink RX10 233 yX3_farthestFromZero ∈ WT := wt_3 31 rfl rfl
set_option maxRecDepth 20000 in
theorem tw_513 : Cond.instanceMethod yX3_farthestFromZero ∈ WT := wt_3 32 rfl rfl
set_option maxRecDepth 20000 in
theorem tw_514 : Cond.selects RX3 yX3_farthestFromZero yX3_farthestFromZero ∈ WT := wt_3 33 rfl rfl
set_option maxRecDepth 20000 in
theorem tw_515 : Cond.code yX3_farthestFromZero cX3_farthestFromZero 3 (Option.some Jvm.ClassFile.FieldType.int) ∈ WT := wt_3 34 rfl rfl
set_option maxRecDepth 20000 in
theorem tw_516 : Cond.methodLink RX3 50 yJ9_abs_0f7a4 ∈ WT := wt_3 35 rfl rfl
set_option maxRecDepth 20000 in
theorem tw_517 : Cond.static yJ9_abs_0f7a4 ∈ WT := wt_3 36 rfl rfl
set_option maxRecDepth 20000 in
theorem tw_518 : Cond.code yJ9_abs_0f7a4 cJ9_abs_0f7a4 1 (Option.some Jvm.ClassFile.FieldType.int) ∈ WT := wt_3 37 rfl rfl
set_option maxRecDepth 20000 in
theorem tw_519 : Cond.methodLink RX10 236 yX3_belowZeroCount ∈ WT := wt_3 38 rfl rfl
set_option maxRecDepth 20000 in
theorem tw_520 : Cond.instanceMethod yX3_belowZeroCount ∈ WT := wt_3 39 rfl rfl
set_option maxRecDepth 20000 in
theorem tw_521 : Cond.selects RX3 yX3_belowZeroCount yX3_belowZeroCount ∈ WT := wt_3 40 rfl rfl
set_option maxRecDepth 20000 in
theorem tw_522 : Cond.code yX3_belowZeroCount cX3_belowZeroCount 3 (Option.some Jvm.ClassFile.FieldType.int) ∈ WT := wt_3 41 rfl rfl
set_option maxRecDepth 20000 in
theorem tw_523 : Cond.methodLink RL 111 yX10_drawn ∈ WT := wt_3 42 rfl rfl
set_option maxRecDepth 20000 in
theorem tw_524 : Cond.instanceMethod yX10_drawn ∈ WT := wt_3 43 rfl rfl
set_option maxRecDepth 20000 in
theorem tw_525 : Cond.selects RX10 yX10_drawn yX10_drawn ∈ WT := wt_3 44 rfl rfl
set_option maxRecDepth 20000 in
theorem tw_526 : Cond.code yX10_drawn cX10_drawn 6 (Option.some Jvm.ClassFile.FieldType.int) ∈ WT := wt_3 45 rfl rfl
set_option maxRecDepth 20000 in
theorem tw_527 : Cond.methodLink RL 115 yX10_file ∈ WT := wt_3 46 rfl rfl
set_option maxRecDepth 20000 in
theorem tw_528 : Cond.instanceMethod yX10_file ∈ WT := wt_3 47 rfl rfl
set_option maxRecDepth 20000 in
theorem tw_529 : Cond.selects RX10 yX10_file yX10_file ∈ WT := wt_3 48 rfl rfl
set_option maxRecDepth 20000 in
theorem tw_530 : Cond.code yX10_file cX10_file 2 (Option.some Jvm.ClassFile.FieldType.int) ∈ WT := wt_3 49 rfl rfl
set_option maxRecDepth 20000 in
theorem tw_531 : Cond.methodLink RX10 239 yX5_keep ∈ WT := wt_3 50 rfl rfl
set_option maxRecDepth 20000 in
theorem tw_532 : Cond.instanceMethod yX5_keep ∈ WT := wt_3 51 rfl rfl
set_option maxRecDepth 20000 in
theorem tw_533 : Cond.selects RX5 yX5_keep yX5_keep ∈ WT := wt_3 52 rfl rfl
set_option maxRecDepth 20000 in
theorem tw_534 : Cond.code yX5_keep cX5_keep 5 (Option.some Jvm.ClassFile.FieldType.int) ∈ WT := wt_3 53 rfl rfl
