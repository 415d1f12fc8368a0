theorem k_1 : Cond.initialized RX8 ∈ TT := tab_in 1 (by decide +kernel) rfl
theorem k_10 : Cond.initialized RX6 ∈ TT := tab_in 10 (by decide +kernel) rfl
theorem k_100 : Cond.fieldLink RX7 11 "StepWorks$VectorList" "keys" "[J" ∈ TT := tab_in 100 (by decide +kernel) rfl
theorem k_101 : Cond.fieldLink RX7 15 "StepWorks$VectorList" "size" "I" ∈ TT := tab_in 101 (by decide +kernel) rfl
theorem k_116 : Cond.fieldLink RX1 11 "StepWorks$Kernel" "vectors" "[[J" ∈ TT := tab_in 116 (by decide +kernel) rfl
theorem k_117 : Cond.fieldLink RX2 66 "StepWorks$Kernel" "vectors" "[[J" ∈ TT := tab_in 117 (by decide +kernel) rfl
theorem k_118 : Cond.fieldLink RX1 16 "StepWorks$Kernel" "sums" "[J" ∈ TT := tab_in 118 (by decide +kernel) rfl
theorem k_119 : Cond.fieldLink RX1 20 "StepWorks$Kernel" "unit" "[I" ∈ TT := tab_in 119 (by decide +kernel) rfl
theorem k_12 : Cond.initialized "java/lang/System" ∈ TT := tab_in 12 (by decide +kernel) rfl
theorem k_120 : Cond.fieldLink RX1 30 "StepWorks$Kernel" "size" "I" ∈ TT := tab_in 120 (by decide +kernel) rfl
theorem k_121 : Cond.fieldLink RX2 56 "StepWorks$Kernel" "size" "I" ∈ TT := tab_in 121 (by decide +kernel) rfl
theorem k_13 : Cond.initialized "java/lang/Math" ∈ TT := tab_in 13 (by decide +kernel) rfl
theorem k_137 : Cond.fieldLink RX5 11 "StepWorks$Ring" "kept" "[I" ∈ TT := tab_in 137 (by decide +kernel) rfl
theorem k_138 : Cond.fieldLink RX5 15 "StepWorks$Ring" "ahead" "[I" ∈ TT := tab_in 138 (by decide +kernel) rfl
theorem k_139 : Cond.fieldLink RX5 18 "StepWorks$Ring" "keptSize" "I" ∈ TT := tab_in 139 (by decide +kernel) rfl
theorem k_140 : Cond.fieldLink RX5 22 "StepWorks$Ring" "aheadSize" "I" ∈ TT := tab_in 140 (by decide +kernel) rfl
theorem k_156 : Cond.fieldLink RX0 21 "StepWorks$Box" "model" "LStepWorks$Model;" ∈ TT := tab_in 156 (by decide +kernel) rfl
theorem k_157 : Cond.fieldLink RX0 25 "StepWorks$Box" "found" "LStepWorks$VectorList;" ∈ TT := tab_in 157 (by decide +kernel) rfl
theorem k_158 : Cond.fieldLink RX0 9 "StepWorks$Box" "coefficients" "[I" ∈ TT := tab_in 158 (by decide +kernel) rfl
theorem k_159 : Cond.fieldLink RX0 15 "StepWorks$Box" "reaches" "[I" ∈ TT := tab_in 159 (by decide +kernel) rfl
theorem k_160 : Cond.fieldLink RX0 18 "StepWorks$Box" "vector" "[I" ∈ TT := tab_in 160 (by decide +kernel) rfl
theorem k_161 : Cond.fieldLink RX0 38 "StepWorks$Box" "solved" "I" ∈ TT := tab_in 161 (by decide +kernel) rfl
theorem k_175 : Cond.fieldLink RX2 36 "StepWorks$LeastSteps" "model" "LStepWorks$Model;" ∈ TT := tab_in 175 (by decide +kernel) rfl
theorem k_176 : Cond.fieldLink RX2 12 "StepWorks$LeastSteps" "list" "LStepWorks$VectorList;" ∈ TT := tab_in 176 (by decide +kernel) rfl
theorem k_177 : Cond.fieldLink RX2 21 "StepWorks$LeastSteps" "kernel" "LStepWorks$Kernel;" ∈ TT := tab_in 177 (by decide +kernel) rfl
theorem k_178 : Cond.fieldLink RX2 28 "StepWorks$LeastSteps" "ring" "LStepWorks$Ring;" ∈ TT := tab_in 178 (by decide +kernel) rfl
theorem k_179 : Cond.fieldLink RX2 45 "StepWorks$LeastSteps" "box" "LStepWorks$Box;" ∈ TT := tab_in 179 (by decide +kernel) rfl
theorem k_180 : Cond.fieldLink RX2 91 "StepWorks$LeastSteps" "roundSupports" "I" ∈ TT := tab_in 180 (by decide +kernel) rfl
theorem k_181 : Cond.fieldLink RX2 32 "StepWorks$LeastSteps" "stale" "Z" ∈ TT := tab_in 181 (by decide +kernel) rfl
theorem k_182 : Cond.fieldLink RX8 230 "StepWorks$LeastSteps" "stale" "Z" ∈ TT := tab_in 182 (by decide +kernel) rfl
theorem k_2 : Cond.initialized RX3 ∈ TT := tab_in 2 (by decide +kernel) rfl
theorem k_205 : Cond.fieldLink RX4 39 "StepWorks$Plans" "model" "LStepWorks$Model;" ∈ TT := tab_in 205 (by decide +kernel) rfl
theorem k_206 : Cond.fieldLink RX4 11 "StepWorks$Plans" "blocks" "[I" ∈ TT := tab_in 206 (by decide +kernel) rfl
theorem k_207 : Cond.fieldLink RX4 15 "StepWorks$Plans" "row" "[I" ∈ TT := tab_in 207 (by decide +kernel) rfl
theorem k_208 : Cond.fieldLink RX4 18 "StepWorks$Plans" "froms" "[I" ∈ TT := tab_in 208 (by decide +kernel) rfl
theorem k_209 : Cond.fieldLink RX4 21 "StepWorks$Plans" "tos" "[I" ∈ TT := tab_in 209 (by decide +kernel) rfl
theorem k_210 : Cond.fieldLink RX4 26 "StepWorks$Plans" "due" "[[I" ∈ TT := tab_in 210 (by decide +kernel) rfl
theorem k_211 : Cond.fieldLink RX4 29 "StepWorks$Plans" "leastSums" "[[I" ∈ TT := tab_in 211 (by decide +kernel) rfl
theorem k_212 : Cond.fieldLink RX4 32 "StepWorks$Plans" "greatestSums" "[[I" ∈ TT := tab_in 212 (by decide +kernel) rfl
theorem k_213 : Cond.fieldLink RX4 43 "StepWorks$Plans" "blockCount" "I" ∈ TT := tab_in 213 (by decide +kernel) rfl
theorem k_214 : Cond.fieldLink RX4 71 "StepWorks$Plans" "blockLength" "I" ∈ TT := tab_in 214 (by decide +kernel) rfl
theorem k_215 : Cond.fieldLink RX4 56 "StepWorks$Plans" "lastIsFree" "Z" ∈ TT := tab_in 215 (by decide +kernel) rfl
theorem k_216 : Cond.fieldLink RX4 35 "StepWorks$Plans" "stale" "Z" ∈ TT := tab_in 216 (by decide +kernel) rfl
theorem k_217 : Cond.fieldLink RX8 96 "StepWorks$Plans" "stale" "Z" ∈ TT := tab_in 217 (by decide +kernel) rfl
theorem k_251 : Cond.fieldLink RX6 11 "StepWorks$Trays" "elements" "[[J" ∈ TT := tab_in 251 (by decide +kernel) rfl
theorem k_252 : Cond.fieldLink RX8 131 "StepWorks$Trays" "elements" "[[J" ∈ TT := tab_in 252 (by decide +kernel) rfl
theorem k_253 : Cond.fieldLink RX6 14 "StepWorks$Trays" "sorts" "[I" ∈ TT := tab_in 253 (by decide +kernel) rfl
theorem k_254 : Cond.fieldLink RX8 128 "StepWorks$Trays" "sorts" "[I" ∈ TT := tab_in 254 (by decide +kernel) rfl
theorem k_255 : Cond.fieldLink RX6 18 "StepWorks$Trays" "lengths" "[I" ∈ TT := tab_in 255 (by decide +kernel) rfl
theorem k_256 : Cond.fieldLink RX8 121 "StepWorks$Trays" "lengths" "[I" ∈ TT := tab_in 256 (by decide +kernel) rfl
theorem k_264 : Cond.fieldLink RX8 10 "StepWorks" "model" "LStepWorks$Model;" ∈ TT := tab_in 264 (by decide +kernel) rfl
theorem k_265 : Cond.fieldLink RX8 21 "StepWorks" "leastSteps" "LStepWorks$LeastSteps;" ∈ TT := tab_in 265 (by decide +kernel) rfl
theorem k_266 : Cond.fieldLink RX8 28 "StepWorks" "allPlans" "LStepWorks$Plans;" ∈ TT := tab_in 266 (by decide +kernel) rfl
theorem k_267 : Cond.fieldLink RX8 35 "StepWorks" "trays" "LStepWorks$Trays;" ∈ TT := tab_in 267 (by decide +kernel) rfl
theorem k_268 : Cond.fieldLink RX8 39 "StepWorks" "inHand" "[I" ∈ TT := tab_in 268 (by decide +kernel) rfl
theorem k_269 : Cond.fieldLink RX8 43 "StepWorks" "scratch" "[I" ∈ TT := tab_in 269 (by decide +kernel) rfl
theorem k_270 : Cond.fieldLink RX8 46 "StepWorks" "moved" "[J" ∈ TT := tab_in 270 (by decide +kernel) rfl
theorem k_271 : Cond.fieldLink RX8 50 "StepWorks" "refused" "[I" ∈ TT := tab_in 271 (by decide +kernel) rfl
theorem k_293 : Cond.methodLink RX8 53 yX8_refuse ∈ TT := tab_in 293 (by decide +kernel) rfl
theorem k_295 : Cond.instanceMethod yX8_refuse ∈ TT := tab_in 295 (by decide +kernel) rfl
set_option maxRecDepth 100000 in
theorem k_296 : Cond.code yX8_refuse cX8_refuse 2 (some .int) ∈ TT := tab_in 296 rfl rfl
theorem k_297 : Cond.methodLink RX8 57 yX3_begin ∈ TT := tab_in 297 (by decide +kernel) rfl
theorem k_298 : Cond.methodLink RX8 61 yJ7_fill_53178 ∈ TT := tab_in 298 (by decide +kernel) rfl
theorem k_299 : Cond.methodLink RX8 67 yX8_equationsChanged ∈ TT := tab_in 299 (by decide +kernel) rfl
theorem k_3 : Cond.initialized RJ7 ∈ TT := tab_in 3 (by decide +kernel) rfl
theorem k_301 : Cond.instanceMethod yX8_equationsChanged ∈ TT := tab_in 301 (by decide +kernel) rfl
set_option maxRecDepth 100000 in
theorem k_302 : Cond.code yX8_equationsChanged cX8_equationsChanged 1 none ∈ TT := tab_in 302 rfl rfl
theorem k_307 : Cond.methodLink RX8 74 yX3_addEquation ∈ TT := tab_in 307 (by decide +kernel) rfl
theorem k_308 : Cond.instanceMethod yX3_addEquation ∈ TT := tab_in 308 (by decide +kernel) rfl
theorem k_309 : Cond.selects RX3 yX3_addEquation yX3_addEquation ∈ TT := tab_in 309 (by decide +kernel) rfl
theorem k_31 : Cond.instanceMethod yX3_begin ∈ TT := tab_in 31 (by decide +kernel) rfl
set_option maxRecDepth 100000 in
theorem k_310 : Cond.code yX3_addEquation cX3_addEquation 2 (some .int) ∈ TT := tab_in 310 rfl rfl
theorem k_315 : Cond.methodLink RX8 78 yX3_hasEquation ∈ TT := tab_in 315 (by decide +kernel) rfl
theorem k_316 : Cond.instanceMethod yX3_hasEquation ∈ TT := tab_in 316 (by decide +kernel) rfl
theorem k_317 : Cond.selects RX3 yX3_hasEquation yX3_hasEquation ∈ TT := tab_in 317 (by decide +kernel) rfl
set_option maxRecDepth 100000 in
theorem k_318 : Cond.code yX3_hasEquation cX3_hasEquation 2 (some .boolean) ∈ TT := tab_in 318 rfl rfl
theorem k_319 : Cond.methodLink RX8 82 yX3_hasUnknown ∈ TT := tab_in 319 (by decide +kernel) rfl
theorem k_32 : Cond.selects RX3 yX3_begin yX3_begin ∈ TT := tab_in 32 (by decide +kernel) rfl
theorem k_320 : Cond.instanceMethod yX3_hasUnknown ∈ TT := tab_in 320 (by decide +kernel) rfl
theorem k_321 : Cond.selects RX3 yX3_hasUnknown yX3_hasUnknown ∈ TT := tab_in 321 (by decide +kernel) rfl
set_option maxRecDepth 100000 in
theorem k_322 : Cond.code yX3_hasUnknown cX3_hasUnknown 2 (some .boolean) ∈ TT := tab_in 322 rfl rfl
theorem k_323 : Cond.methodLink RX8 89 yX8_setCoefficient ∈ TT := tab_in 323 (by decide +kernel) rfl
theorem k_325 : Cond.instanceMethod yX8_setCoefficient ∈ TT := tab_in 325 (by decide +kernel) rfl
set_option maxRecDepth 100000 in
theorem k_326 : Cond.code yX8_setCoefficient cX8_setCoefficient 4 none ∈ TT := tab_in 326 rfl rfl
set_option maxRecDepth 100000 in
theorem k_33 : Cond.code yX3_begin cX3_begin 2 none ∈ TT := tab_in 33 rfl rfl
theorem k_34 : Cond.methodLink RX3 43 yJ7_fill_53178 ∈ TT := tab_in 34 (by decide +kernel) rfl
theorem k_343 : Cond.methodLink RX8 112 yX6_isTray ∈ TT := tab_in 343 (by decide +kernel) rfl
theorem k_344 : Cond.instanceMethod yX6_isTray ∈ TT := tab_in 344 (by decide +kernel) rfl
theorem k_345 : Cond.selects RX6 yX6_isTray yX6_isTray ∈ TT := tab_in 345 (by decide +kernel) rfl
set_option maxRecDepth 100000 in
theorem k_346 : Cond.code yX6_isTray cX6_isTray 2 (some .boolean) ∈ TT := tab_in 346 rfl rfl
theorem k_347 : Cond.methodLink RX8 115 yX6_layOut ∈ TT := tab_in 347 (by decide +kernel) rfl
theorem k_348 : Cond.instanceMethod yX6_layOut ∈ TT := tab_in 348 (by decide +kernel) rfl
theorem k_349 : Cond.selects RX6 yX6_layOut yX6_layOut ∈ TT := tab_in 349 (by decide +kernel) rfl
theorem k_35 : Cond.static yJ7_fill_53178 ∈ TT := tab_in 35 (by decide +kernel) rfl
set_option maxRecDepth 100000 in
theorem k_350 : Cond.code yX6_layOut cX6_layOut 4 none ∈ TT := tab_in 350 rfl rfl
theorem k_351 : Cond.methodLink RX6 27 yJ7_fill_d0a16 ∈ TT := tab_in 351 (by decide +kernel) rfl
theorem k_352 : Cond.static yJ7_fill_d0a16 ∈ TT := tab_in 352 (by decide +kernel) rfl
set_option maxRecDepth 100000 in
theorem k_353 : Cond.code yJ7_fill_d0a16 cJ7_fill_d0a16 5 none ∈ TT := tab_in 353 rfl rfl
theorem k_358 : Cond.methodLink RX8 118 yX6_isMissing ∈ TT := tab_in 358 (by decide +kernel) rfl
theorem k_359 : Cond.instanceMethod yX6_isMissing ∈ TT := tab_in 359 (by decide +kernel) rfl
set_option maxRecDepth 100000 in
theorem k_36 : Cond.code yJ7_fill_53178 cJ7_fill_53178 4 none ∈ TT := tab_in 36 rfl rfl
theorem k_360 : Cond.selects RX6 yX6_isMissing yX6_isMissing ∈ TT := tab_in 360 (by decide +kernel) rfl
set_option maxRecDepth 100000 in
theorem k_361 : Cond.code yX6_isMissing cX6_isMissing 2 (some .boolean) ∈ TT := tab_in 361 rfl rfl
theorem k_362 : Cond.methodLink RX8 124 yX6_set ∈ TT := tab_in 362 (by decide +kernel) rfl
theorem k_363 : Cond.instanceMethod yX6_set ∈ TT := tab_in 363 (by decide +kernel) rfl
theorem k_364 : Cond.selects RX6 yX6_set yX6_set ∈ TT := tab_in 364 (by decide +kernel) rfl
set_option maxRecDepth 100000 in
theorem k_365 : Cond.code yX6_set cX6_set 5 none ∈ TT := tab_in 365 rfl rfl
theorem k_37 : Cond.fieldLink RX3 36 "StepWorks$Model" "unknowns" "I" ∈ TT := tab_in 37 (by decide +kernel) rfl
theorem k_370 : Cond.methodLink RX8 135 arraycopyName ∈ TT := tab_in 370 (by decide +kernel) rfl
theorem k_371 : Cond.static arraycopyName ∈ TT := tab_in 371 (by decide +kernel) rfl
theorem k_372 : Cond.native arraycopyName ∈ TT := tab_in 372 (by decide +kernel) rfl
theorem k_377 : Cond.methodLink RX8 144 yX6_get ∈ TT := tab_in 377 (by decide +kernel) rfl
theorem k_378 : Cond.instanceMethod yX6_get ∈ TT := tab_in 378 (by decide +kernel) rfl
theorem k_379 : Cond.selects RX6 yX6_get yX6_get ∈ TT := tab_in 379 (by decide +kernel) rfl
theorem k_38 : Cond.fieldLink RX1 24 "StepWorks$Model" "unknowns" "I" ∈ TT := tab_in 38 (by decide +kernel) rfl
set_option maxRecDepth 100000 in
theorem k_380 : Cond.code yX6_get cX6_get 3 (some .long) ∈ TT := tab_in 380 rfl rfl
theorem k_381 : Cond.constantLong RX8 148 (-6) ∈ TT := tab_in 381 (by decide +kernel) rfl
theorem k_382 : Cond.constantLong RX8 150 6 ∈ TT := tab_in 382 (by decide +kernel) rfl
theorem k_387 : Cond.methodLink RX8 152 yX8_freshSteps ∈ TT := tab_in 387 (by decide +kernel) rfl
theorem k_389 : Cond.instanceMethod yX8_freshSteps ∈ TT := tab_in 389 (by decide +kernel) rfl
theorem k_39 : Cond.fieldLink RX4 47 "StepWorks$Model" "unknowns" "I" ∈ TT := tab_in 39 (by decide +kernel) rfl
set_option maxRecDepth 100000 in
theorem k_390 : Cond.code yX8_freshSteps cX8_freshSteps 1 (some (.object "StepWorks$LeastSteps")) ∈ TT := tab_in 390 rfl rfl
theorem k_391 : Cond.methodLink RX8 231 yX2_refresh ∈ TT := tab_in 391 (by decide +kernel) rfl
theorem k_392 : Cond.instanceMethod yX2_refresh ∈ TT := tab_in 392 (by decide +kernel) rfl
theorem k_393 : Cond.selects RX2 yX2_refresh yX2_refresh ∈ TT := tab_in 393 (by decide +kernel) rfl
set_option maxRecDepth 100000 in
theorem k_394 : Cond.code yX2_refresh cX2_refresh 2 none ∈ TT := tab_in 394 rfl rfl
theorem k_395 : Cond.methodLink RX2 49 yX7_clear ∈ TT := tab_in 395 (by decide +kernel) rfl
theorem k_396 : Cond.instanceMethod yX7_clear ∈ TT := tab_in 396 (by decide +kernel) rfl
theorem k_397 : Cond.selects RX7 yX7_clear yX7_clear ∈ TT := tab_in 397 (by decide +kernel) rfl
set_option maxRecDepth 100000 in
theorem k_398 : Cond.code yX7_clear cX7_clear 1 none ∈ TT := tab_in 398 rfl rfl
theorem k_399 : Cond.methodLink RX2 52 yX1_solve ∈ TT := tab_in 399 (by decide +kernel) rfl
theorem k_4 : Cond.initialized RX2 ∈ TT := tab_in 4 (by decide +kernel) rfl
theorem k_40 : Cond.fieldLink RX0 42 "StepWorks$Model" "unknowns" "I" ∈ TT := tab_in 40 (by decide +kernel) rfl
theorem k_400 : Cond.instanceMethod yX1_solve ∈ TT := tab_in 400 (by decide +kernel) rfl
theorem k_401 : Cond.selects RX1 yX1_solve yX1_solve ∈ TT := tab_in 401 (by decide +kernel) rfl
set_option maxRecDepth 100000 in
theorem k_402 : Cond.code yX1_solve cX1_solve 3 none ∈ TT := tab_in 402 rfl rfl
theorem k_403 : Cond.methodLink RX1 33 yJ7_fill_d0a16 ∈ TT := tab_in 403 (by decide +kernel) rfl
theorem k_404 : Cond.methodLink RX1 46 yX1_impose ∈ TT := tab_in 404 (by decide +kernel) rfl
theorem k_406 : Cond.instanceMethod yX1_impose ∈ TT := tab_in 406 (by decide +kernel) rfl
set_option maxRecDepth 100000 in
theorem k_407 : Cond.code yX1_impose cX1_impose 4 none ∈ TT := tab_in 407 rfl rfl
theorem k_408 : Cond.methodLink RX1 63 yX1_leastSum ∈ TT := tab_in 408 (by decide +kernel) rfl
theorem k_41 : Cond.fieldLink RX2 110 "StepWorks$Model" "unknowns" "I" ∈ TT := tab_in 41 (by decide +kernel) rfl
theorem k_410 : Cond.instanceMethod yX1_leastSum ∈ TT := tab_in 410 (by decide +kernel) rfl
set_option maxRecDepth 100000 in
theorem k_411 : Cond.code yX1_leastSum cX1_leastSum 3 (some .int) ∈ TT := tab_in 411 rfl rfl
theorem k_412 : Cond.methodLink RX1 75 yJ9_abs_067f4 ∈ TT := tab_in 412 (by decide +kernel) rfl
theorem k_413 : Cond.static yJ9_abs_067f4 ∈ TT := tab_in 413 (by decide +kernel) rfl
set_option maxRecDepth 100000 in
theorem k_414 : Cond.code yJ9_abs_067f4 cJ9_abs_067f4 2 (some .long) ∈ TT := tab_in 414 rfl rfl
theorem k_415 : Cond.methodLink RX1 67 yX1_reduceBy ∈ TT := tab_in 415 (by decide +kernel) rfl
theorem k_417 : Cond.instanceMethod yX1_reduceBy ∈ TT := tab_in 417 (by decide +kernel) rfl
set_option maxRecDepth 100000 in
theorem k_418 : Cond.code yX1_reduceBy cX1_reduceBy 6 (some .boolean) ∈ TT := tab_in 418 rfl rfl
theorem k_419 : Cond.methodLink RX1 59 yX1_subtract ∈ TT := tab_in 419 (by decide +kernel) rfl
theorem k_42 : Cond.fieldLink RX8 141 "StepWorks$Model" "unknowns" "I" ∈ TT := tab_in 42 (by decide +kernel) rfl
theorem k_421 : Cond.instanceMethod yX1_subtract ∈ TT := tab_in 421 (by decide +kernel) rfl
set_option maxRecDepth 100000 in
theorem k_422 : Cond.code yX1_subtract cX1_subtract 6 none ∈ TT := tab_in 422 rfl rfl
theorem k_423 : Cond.methodLink RX1 71 yX1_removeVector ∈ TT := tab_in 423 (by decide +kernel) rfl
theorem k_425 : Cond.instanceMethod yX1_removeVector ∈ TT := tab_in 425 (by decide +kernel) rfl
set_option maxRecDepth 100000 in
theorem k_426 : Cond.code yX1_removeVector cX1_removeVector 3 none ∈ TT := tab_in 426 rfl rfl
theorem k_427 : Cond.methodLink RX2 60 yX0_search ∈ TT := tab_in 427 (by decide +kernel) rfl
theorem k_428 : Cond.instanceMethod yX0_search ∈ TT := tab_in 428 (by decide +kernel) rfl
theorem k_429 : Cond.selects RX0 yX0_search yX0_search ∈ TT := tab_in 429 (by decide +kernel) rfl
theorem k_43 : Cond.fieldLink RX3 40 "StepWorks$Model" "equations" "I" ∈ TT := tab_in 43 (by decide +kernel) rfl
set_option maxRecDepth 100000 in
theorem k_430 : Cond.code yX0_search cX0_search 2 none ∈ TT := tab_in 430 rfl rfl
theorem k_431 : Cond.methodLink RX0 29 yX0_chooseEquation ∈ TT := tab_in 431 (by decide +kernel) rfl
theorem k_433 : Cond.instanceMethod yX0_chooseEquation ∈ TT := tab_in 433 (by decide +kernel) rfl
set_option maxRecDepth 100000 in
theorem k_434 : Cond.code yX0_chooseEquation cX0_chooseEquation 3 none ∈ TT := tab_in 434 rfl rfl
theorem k_435 : Cond.methodLink RX0 32 yJ7_fill_53178 ∈ TT := tab_in 435 (by decide +kernel) rfl
theorem k_436 : Cond.methodLink RX0 61 arraycopyName ∈ TT := tab_in 436 (by decide +kernel) rfl
theorem k_437 : Cond.methodLink RX0 47 yX0_reachOf ∈ TT := tab_in 437 (by decide +kernel) rfl
theorem k_439 : Cond.instanceMethod yX0_reachOf ∈ TT := tab_in 439 (by decide +kernel) rfl
theorem k_44 : Cond.fieldLink RX1 39 "StepWorks$Model" "equations" "I" ∈ TT := tab_in 44 (by decide +kernel) rfl
set_option maxRecDepth 100000 in
theorem k_440 : Cond.code yX0_reachOf cX0_reachOf 4 (some .int) ∈ TT := tab_in 440 rfl rfl
theorem k_441 : Cond.methodLink RX0 67 Lib.Math.abs.name ∈ TT := tab_in 441 (by decide +kernel) rfl
theorem k_442 : Cond.static Lib.Math.abs.name ∈ TT := tab_in 442 (by decide +kernel) rfl
theorem k_443 : Cond.code Lib.Math.abs.name Lib.Math.abs.code 1 (some .int) ∈ TT := tab_in 443 (by decide +kernel) rfl
theorem k_444 : Cond.methodLink RX0 72 Lib.Math.max.name ∈ TT := tab_in 444 (by decide +kernel) rfl
theorem k_445 : Cond.static Lib.Math.max.name ∈ TT := tab_in 445 (by decide +kernel) rfl
theorem k_446 : Cond.code Lib.Math.max.name Lib.Math.max.code 2 (some .int) ∈ TT := tab_in 446 (by decide +kernel) rfl
theorem k_447 : Cond.methodLink RX0 51 yX0_searchFrom ∈ TT := tab_in 447 (by decide +kernel) rfl
theorem k_449 : Cond.instanceMethod yX0_searchFrom ∈ TT := tab_in 449 (by decide +kernel) rfl
theorem k_45 : Cond.fieldLink RX8 70 "StepWorks$Model" "equations" "I" ∈ TT := tab_in 45 (by decide +kernel) rfl
set_option maxRecDepth 100000 in
theorem k_450 : Cond.code yX0_searchFrom cX0_searchFrom 4 none ∈ TT := tab_in 450 rfl rfl
theorem k_451 : Cond.methodLink RX0 76 yX0_isLeast ∈ TT := tab_in 451 (by decide +kernel) rfl
theorem k_453 : Cond.instanceMethod yX0_isLeast ∈ TT := tab_in 453 (by decide +kernel) rfl
set_option maxRecDepth 100000 in
theorem k_454 : Cond.code yX0_isLeast cX0_isLeast 12 (some .boolean) ∈ TT := tab_in 454 rfl rfl
theorem k_455 : Cond.methodLink RX0 80 yX7_append ∈ TT := tab_in 455 (by decide +kernel) rfl
theorem k_456 : Cond.instanceMethod yX7_append ∈ TT := tab_in 456 (by decide +kernel) rfl
theorem k_457 : Cond.selects RX7 yX7_append yX7_append ∈ TT := tab_in 457 (by decide +kernel) rfl
set_option maxRecDepth 100000 in
theorem k_458 : Cond.code yX7_append cX7_append 7 none ∈ TT := tab_in 458 rfl rfl
theorem k_459 : Cond.methodLink RX0 86 yX0_tryNumbers ∈ TT := tab_in 459 (by decide +kernel) rfl
theorem k_46 : Cond.fieldLink RX0 55 "StepWorks$Model" "equations" "I" ∈ TT := tab_in 46 (by decide +kernel) rfl
theorem k_461 : Cond.instanceMethod yX0_tryNumbers ∈ TT := tab_in 461 (by decide +kernel) rfl
set_option maxRecDepth 100000 in
theorem k_462 : Cond.code yX0_tryNumbers cX0_tryNumbers 9 none ∈ TT := tab_in 462 rfl rfl
theorem k_463 : Cond.methodLink RX0 89 Lib.Math.min.name ∈ TT := tab_in 463 (by decide +kernel) rfl
theorem k_464 : Cond.static Lib.Math.min.name ∈ TT := tab_in 464 (by decide +kernel) rfl
theorem k_465 : Cond.code Lib.Math.min.name Lib.Math.min.code 2 (some .int) ∈ TT := tab_in 465 (by decide +kernel) rfl
theorem k_466 : Cond.methodLink RX2 63 yX1_straighten ∈ TT := tab_in 466 (by decide +kernel) rfl
theorem k_467 : Cond.instanceMethod yX1_straighten ∈ TT := tab_in 467 (by decide +kernel) rfl
theorem k_468 : Cond.selects RX1 yX1_straighten yX1_straighten ∈ TT := tab_in 468 (by decide +kernel) rfl
set_option maxRecDepth 100000 in
theorem k_469 : Cond.code yX1_straighten cX1_straighten 2 none ∈ TT := tab_in 469 rfl rfl
theorem k_47 : Cond.fieldLink RX4 116 "StepWorks$Model" "equations" "I" ∈ TT := tab_in 47 (by decide +kernel) rfl
theorem k_470 : Cond.methodLink RX1 50 yJ7_fill_53178 ∈ TT := tab_in 470 (by decide +kernel) rfl
theorem k_471 : Cond.methodLink RX1 53 yJ9_floorDiv_f86c9 ∈ TT := tab_in 471 (by decide +kernel) rfl
theorem k_472 : Cond.static yJ9_floorDiv_f86c9 ∈ TT := tab_in 472 (by decide +kernel) rfl
set_option maxRecDepth 100000 in
theorem k_473 : Cond.code yJ9_floorDiv_f86c9 cJ9_floorDiv_f86c9 6 (some .long) ∈ TT := tab_in 473 rfl rfl
theorem k_474 : Cond.methodLink RX2 70 yX5_walk ∈ TT := tab_in 474 (by decide +kernel) rfl
theorem k_475 : Cond.instanceMethod yX5_walk ∈ TT := tab_in 475 (by decide +kernel) rfl
theorem k_476 : Cond.selects RX5 yX5_walk yX5_walk ∈ TT := tab_in 476 (by decide +kernel) rfl
set_option maxRecDepth 100000 in
theorem k_477 : Cond.code yX5_walk cX5_walk 7 none ∈ TT := tab_in 477 rfl rfl
theorem k_478 : Cond.methodLink RX5 25 yX5_pushAhead ∈ TT := tab_in 478 (by decide +kernel) rfl
theorem k_48 : Cond.fieldLink RX3 11 "StepWorks$Model" "coefficients" "[[I" ∈ TT := tab_in 48 (by decide +kernel) rfl
theorem k_480 : Cond.instanceMethod yX5_pushAhead ∈ TT := tab_in 480 (by decide +kernel) rfl
set_option maxRecDepth 100000 in
theorem k_481 : Cond.code yX5_pushAhead cX5_pushAhead 4 none ∈ TT := tab_in 481 rfl rfl
theorem k_482 : Cond.methodLink RX5 29 yX5_keepNext ∈ TT := tab_in 482 (by decide +kernel) rfl
theorem k_484 : Cond.instanceMethod yX5_keepNext ∈ TT := tab_in 484 (by decide +kernel) rfl
set_option maxRecDepth 100000 in
theorem k_485 : Cond.code yX5_keepNext cX5_keepNext 2 none ∈ TT := tab_in 485 rfl rfl
theorem k_486 : Cond.methodLink RX5 46 arraycopyName ∈ TT := tab_in 486 (by decide +kernel) rfl
theorem k_487 : Cond.methodLink RX5 32 yX5_haveOppositeSigns ∈ TT := tab_in 487 (by decide +kernel) rfl
theorem k_489 : Cond.instanceMethod yX5_haveOppositeSigns ∈ TT := tab_in 489 (by decide +kernel) rfl
theorem k_49 : Cond.fieldLink RX1 42 "StepWorks$Model" "coefficients" "[[I" ∈ TT := tab_in 49 (by decide +kernel) rfl
set_option maxRecDepth 100000 in
theorem k_490 : Cond.code yX5_haveOppositeSigns cX5_haveOppositeSigns 4 (some .boolean) ∈ TT := tab_in 490 rfl rfl
theorem k_491 : Cond.methodLink RX5 36 yX5_pushSum ∈ TT := tab_in 491 (by decide +kernel) rfl
theorem k_493 : Cond.instanceMethod yX5_pushSum ∈ TT := tab_in 493 (by decide +kernel) rfl
set_option maxRecDepth 100000 in
theorem k_494 : Cond.code yX5_pushSum cX5_pushSum 4 none ∈ TT := tab_in 494 rfl rfl
theorem k_495 : Cond.methodLink RX2 74 yX5_giveTo ∈ TT := tab_in 495 (by decide +kernel) rfl
theorem k_496 : Cond.instanceMethod yX5_giveTo ∈ TT := tab_in 496 (by decide +kernel) rfl
theorem k_497 : Cond.selects RX5 yX5_giveTo yX5_giveTo ∈ TT := tab_in 497 (by decide +kernel) rfl
set_option maxRecDepth 100000 in
theorem k_498 : Cond.code yX5_giveTo cX5_giveTo 3 none ∈ TT := tab_in 498 rfl rfl
theorem k_499 : Cond.methodLink RX5 40 yX7_append ∈ TT := tab_in 499 (by decide +kernel) rfl
theorem k_5 : Cond.initialized RX7 ∈ TT := tab_in 5 (by decide +kernel) rfl
theorem k_50 : Cond.fieldLink RX0 58 "StepWorks$Model" "coefficients" "[[I" ∈ TT := tab_in 50 (by decide +kernel) rfl
theorem k_500 : Cond.methodLink RX2 78 yX7_sort ∈ TT := tab_in 500 (by decide +kernel) rfl
theorem k_501 : Cond.instanceMethod yX7_sort ∈ TT := tab_in 501 (by decide +kernel) rfl
theorem k_502 : Cond.selects RX7 yX7_sort yX7_sort ∈ TT := tab_in 502 (by decide +kernel) rfl
set_option maxRecDepth 100000 in
theorem k_503 : Cond.code yX7_sort cX7_sort 7 none ∈ TT := tab_in 503 rfl rfl
theorem k_504 : Cond.fieldLink RX7 21 "StepWorks$VectorList" "GAPS" "[I" ∈ TT := tab_in 504 (by decide +kernel) rfl
theorem k_506 : Cond.methodLink RX2 81 yX2_findRoundSupports ∈ TT := tab_in 506 (by decide +kernel) rfl
theorem k_508 : Cond.instanceMethod yX2_findRoundSupports ∈ TT := tab_in 508 (by decide +kernel) rfl
set_option maxRecDepth 100000 in
theorem k_509 : Cond.code yX2_findRoundSupports cX2_findRoundSupports 3 none ∈ TT := tab_in 509 rfl rfl
theorem k_51 : Cond.fieldLink RX8 85 "StepWorks$Model" "coefficients" "[[I" ∈ TT := tab_in 51 (by decide +kernel) rfl
theorem k_510 : Cond.methodLink RX2 84 yX7_size ∈ TT := tab_in 510 (by decide +kernel) rfl
theorem k_511 : Cond.instanceMethod yX7_size ∈ TT := tab_in 511 (by decide +kernel) rfl
theorem k_512 : Cond.selects RX7 yX7_size yX7_size ∈ TT := tab_in 512 (by decide +kernel) rfl
set_option maxRecDepth 100000 in
theorem k_513 : Cond.code yX7_size cX7_size 1 (some .int) ∈ TT := tab_in 513 rfl rfl
theorem k_514 : Cond.methodLink RX2 94 yX2_supportOf ∈ TT := tab_in 514 (by decide +kernel) rfl
theorem k_516 : Cond.instanceMethod yX2_supportOf ∈ TT := tab_in 516 (by decide +kernel) rfl
set_option maxRecDepth 100000 in
theorem k_517 : Cond.code yX2_supportOf cX2_supportOf 4 (some .int) ∈ TT := tab_in 517 rfl rfl
theorem k_518 : Cond.methodLink RX2 98 yX2_at ∈ TT := tab_in 518 (by decide +kernel) rfl
theorem k_519 : Cond.instanceMethod yX2_at ∈ TT := tab_in 519 (by decide +kernel) rfl
theorem k_52 : Cond.fieldLink RX4 122 "StepWorks$Model" "coefficients" "[[I" ∈ TT := tab_in 52 (by decide +kernel) rfl
theorem k_520 : Cond.selects RX2 yX2_at yX2_at ∈ TT := tab_in 520 (by decide +kernel) rfl
set_option maxRecDepth 100000 in
theorem k_521 : Cond.code yX2_at cX2_at 3 (some .int) ∈ TT := tab_in 521 rfl rfl
theorem k_522 : Cond.methodLink RX2 87 yX7_at ∈ TT := tab_in 522 (by decide +kernel) rfl
theorem k_523 : Cond.instanceMethod yX7_at ∈ TT := tab_in 523 (by decide +kernel) rfl
theorem k_524 : Cond.selects RX7 yX7_at yX7_at ∈ TT := tab_in 524 (by decide +kernel) rfl
set_option maxRecDepth 100000 in
theorem k_525 : Cond.code yX7_at cX7_at 3 (some .int) ∈ TT := tab_in 525 rfl rfl
theorem k_526 : Cond.constantLong RX7 19 2047 ∈ TT := tab_in 526 (by decide +kernel) rfl
theorem k_527 : Cond.methodLink RX2 130 yX2_hasSmaller ∈ TT := tab_in 527 (by decide +kernel) rfl
theorem k_529 : Cond.instanceMethod yX2_hasSmaller ∈ TT := tab_in 529 (by decide +kernel) rfl
theorem k_53 : Cond.fieldLink RX3 16 "StepWorks$Model" "rightSides" "[I" ∈ TT := tab_in 53 (by decide +kernel) rfl
set_option maxRecDepth 100000 in
theorem k_530 : Cond.code yX2_hasSmaller cX2_hasSmaller 4 (some .boolean) ∈ TT := tab_in 530 rfl rfl
theorem k_531 : Cond.methodLink RX8 156 yX2_size ∈ TT := tab_in 531 (by decide +kernel) rfl
theorem k_532 : Cond.instanceMethod yX2_size ∈ TT := tab_in 532 (by decide +kernel) rfl
theorem k_533 : Cond.selects RX2 yX2_size yX2_size ∈ TT := tab_in 533 (by decide +kernel) rfl
set_option maxRecDepth 100000 in
theorem k_534 : Cond.code yX2_size cX2_size 1 (some .int) ∈ TT := tab_in 534 rfl rfl
theorem k_539 : Cond.methodLink RX8 159 yX2_isStep ∈ TT := tab_in 539 (by decide +kernel) rfl
theorem k_54 : Cond.fieldLink RX8 93 "StepWorks$Model" "rightSides" "[I" ∈ TT := tab_in 54 (by decide +kernel) rfl
theorem k_540 : Cond.instanceMethod yX2_isStep ∈ TT := tab_in 540 (by decide +kernel) rfl
theorem k_541 : Cond.selects RX2 yX2_isStep yX2_isStep ∈ TT := tab_in 541 (by decide +kernel) rfl
set_option maxRecDepth 100000 in
theorem k_542 : Cond.code yX2_isStep cX2_isStep 2 (some .boolean) ∈ TT := tab_in 542 rfl rfl
theorem k_543 : Cond.constant RX8 162 (-99999) ∈ TT := tab_in 543 (by decide +kernel) rfl
theorem k_544 : Cond.methodLink RX8 163 yX2_at ∈ TT := tab_in 544 (by decide +kernel) rfl
theorem k_549 : Cond.methodLink RX8 167 yX2_kindOf ∈ TT := tab_in 549 (by decide +kernel) rfl
theorem k_55 : Cond.fieldLink RX4 119 "StepWorks$Model" "rightSides" "[I" ∈ TT := tab_in 55 (by decide +kernel) rfl
theorem k_550 : Cond.instanceMethod yX2_kindOf ∈ TT := tab_in 550 (by decide +kernel) rfl
theorem k_551 : Cond.selects RX2 yX2_kindOf yX2_kindOf ∈ TT := tab_in 551 (by decide +kernel) rfl
set_option maxRecDepth 100000 in
theorem k_552 : Cond.code yX2_kindOf cX2_kindOf 3 (some .int) ∈ TT := tab_in 552 rfl rfl
theorem k_56 : Cond.fieldLink RX3 20 "StepWorks$Model" "lows" "[I" ∈ TT := tab_in 56 (by decide +kernel) rfl
theorem k_569 : Cond.methodLink RX8 170 yX3_isStep ∈ TT := tab_in 569 (by decide +kernel) rfl
theorem k_57 : Cond.fieldLink RX4 62 "StepWorks$Model" "lows" "[I" ∈ TT := tab_in 57 (by decide +kernel) rfl
theorem k_570 : Cond.instanceMethod yX3_isStep ∈ TT := tab_in 570 (by decide +kernel) rfl
theorem k_571 : Cond.selects RX3 yX3_isStep yX3_isStep ∈ TT := tab_in 571 (by decide +kernel) rfl
set_option maxRecDepth 100000 in
theorem k_572 : Cond.code yX3_isStep cX3_isStep 4 (some .boolean) ∈ TT := tab_in 572 rfl rfl
theorem k_573 : Cond.methodLink RX3 49 yX3_sumOf ∈ TT := tab_in 573 (by decide +kernel) rfl
theorem k_575 : Cond.instanceMethod yX3_sumOf ∈ TT := tab_in 575 (by decide +kernel) rfl
set_option maxRecDepth 100000 in
theorem k_576 : Cond.code yX3_sumOf cX3_sumOf 5 (some .int) ∈ TT := tab_in 576 rfl rfl
theorem k_577 : Cond.methodLink RX8 173 yX3_isPlan ∈ TT := tab_in 577 (by decide +kernel) rfl
theorem k_578 : Cond.instanceMethod yX3_isPlan ∈ TT := tab_in 578 (by decide +kernel) rfl
theorem k_579 : Cond.selects RX3 yX3_isPlan yX3_isPlan ∈ TT := tab_in 579 (by decide +kernel) rfl
theorem k_58 : Cond.fieldLink RX8 100 "StepWorks$Model" "lows" "[I" ∈ TT := tab_in 58 (by decide +kernel) rfl
set_option maxRecDepth 100000 in
theorem k_580 : Cond.code yX3_isPlan cX3_isPlan 3 (some .boolean) ∈ TT := tab_in 580 rfl rfl
theorem k_585 : Cond.methodLink RX8 176 yX2_timesWithin ∈ TT := tab_in 585 (by decide +kernel) rfl
theorem k_586 : Cond.instanceMethod yX2_timesWithin ∈ TT := tab_in 586 (by decide +kernel) rfl
theorem k_587 : Cond.selects RX2 yX2_timesWithin yX2_timesWithin ∈ TT := tab_in 587 (by decide +kernel) rfl
set_option maxRecDepth 100000 in
theorem k_588 : Cond.code yX2_timesWithin cX2_timesWithin 6 (some .int) ∈ TT := tab_in 588 rfl rfl
theorem k_589 : Cond.methodLink RX2 102 Lib.Math.min.name ∈ TT := tab_in 589 (by decide +kernel) rfl
theorem k_59 : Cond.fieldLink RX2 119 "StepWorks$Model" "lows" "[I" ∈ TT := tab_in 59 (by decide +kernel) rfl
theorem k_590 : Cond.methodLink RX2 107 Lib.Math.max.name ∈ TT := tab_in 590 (by decide +kernel) rfl
theorem k_595 : Cond.methodLink RX8 180 yX8_amountsOfSplit ∈ TT := tab_in 595 (by decide +kernel) rfl
theorem k_597 : Cond.instanceMethod yX8_amountsOfSplit ∈ TT := tab_in 597 (by decide +kernel) rfl
set_option maxRecDepth 100000 in
theorem k_598 : Cond.code yX8_amountsOfSplit cX8_amountsOfSplit 7 (some .int) ∈ TT := tab_in 598 rfl rfl
theorem k_599 : Cond.methodLink RX8 239 yX2_addTimes ∈ TT := tab_in 599 (by decide +kernel) rfl
theorem k_6 : Cond.initialized RX1 ∈ TT := tab_in 6 (by decide +kernel) rfl
theorem k_60 : Cond.fieldLink RX3 23 "StepWorks$Model" "highs" "[I" ∈ TT := tab_in 60 (by decide +kernel) rfl
theorem k_600 : Cond.instanceMethod yX2_addTimes ∈ TT := tab_in 600 (by decide +kernel) rfl
theorem k_601 : Cond.selects RX2 yX2_addTimes yX2_addTimes ∈ TT := tab_in 601 (by decide +kernel) rfl
set_option maxRecDepth 100000 in
theorem k_602 : Cond.code yX2_addTimes cX2_addTimes 5 none ∈ TT := tab_in 602 rfl rfl
theorem k_607 : Cond.methodLink RX8 184 yX8_moveHand ∈ TT := tab_in 607 (by decide +kernel) rfl
theorem k_609 : Cond.instanceMethod yX8_moveHand ∈ TT := tab_in 609 (by decide +kernel) rfl
theorem k_61 : Cond.fieldLink RX4 59 "StepWorks$Model" "highs" "[I" ∈ TT := tab_in 61 (by decide +kernel) rfl
set_option maxRecDepth 100000 in
theorem k_610 : Cond.code yX8_moveHand cX8_moveHand 2 (some .int) ∈ TT := tab_in 610 rfl rfl
theorem k_611 : Cond.constantLong RX8 235 (-10000) ∈ TT := tab_in 611 (by decide +kernel) rfl
theorem k_612 : Cond.constantLong RX8 237 10000 ∈ TT := tab_in 612 (by decide +kernel) rfl
theorem k_617 : Cond.methodLink RX8 187 yX3_costOf ∈ TT := tab_in 617 (by decide +kernel) rfl
theorem k_618 : Cond.instanceMethod yX3_costOf ∈ TT := tab_in 618 (by decide +kernel) rfl
theorem k_619 : Cond.selects RX3 yX3_costOf yX3_costOf ∈ TT := tab_in 619 (by decide +kernel) rfl
theorem k_62 : Cond.fieldLink RX8 103 "StepWorks$Model" "highs" "[I" ∈ TT := tab_in 62 (by decide +kernel) rfl
set_option maxRecDepth 100000 in
theorem k_620 : Cond.code yX3_costOf cX3_costOf 5 (some .long) ∈ TT := tab_in 620 rfl rfl
theorem k_621 : Cond.methodLink RX3 53 yX3_costOfNumber ∈ TT := tab_in 621 (by decide +kernel) rfl
theorem k_622 : Cond.instanceMethod yX3_costOfNumber ∈ TT := tab_in 622 (by decide +kernel) rfl
theorem k_623 : Cond.selects RX3 yX3_costOfNumber yX3_costOfNumber ∈ TT := tab_in 623 (by decide +kernel) rfl
set_option maxRecDepth 100000 in
theorem k_624 : Cond.code yX3_costOfNumber cX3_costOfNumber 3 (some .long) ∈ TT := tab_in 624 rfl rfl
theorem k_629 : Cond.methodLink RX8 191 yX8_betterHand ∈ TT := tab_in 629 (by decide +kernel) rfl
theorem k_63 : Cond.fieldLink RX2 115 "StepWorks$Model" "highs" "[I" ∈ TT := tab_in 63 (by decide +kernel) rfl
theorem k_631 : Cond.instanceMethod yX8_betterHand ∈ TT := tab_in 631 (by decide +kernel) rfl
set_option maxRecDepth 100000 in
theorem k_632 : Cond.code yX8_betterHand cX8_betterHand 15 (some .int) ∈ TT := tab_in 632 rfl rfl
theorem k_633 : Cond.methodLink RX8 221 yX2_timesInBounds ∈ TT := tab_in 633 (by decide +kernel) rfl
theorem k_634 : Cond.instanceMethod yX2_timesInBounds ∈ TT := tab_in 634 (by decide +kernel) rfl
theorem k_635 : Cond.selects RX2 yX2_timesInBounds yX2_timesInBounds ∈ TT := tab_in 635 (by decide +kernel) rfl
set_option maxRecDepth 100000 in
theorem k_636 : Cond.code yX2_timesInBounds cX2_timesInBounds 6 (some .int) ∈ TT := tab_in 636 rfl rfl
theorem k_637 : Cond.methodLink RX8 243 yX2_slopeAt ∈ TT := tab_in 637 (by decide +kernel) rfl
theorem k_638 : Cond.instanceMethod yX2_slopeAt ∈ TT := tab_in 638 (by decide +kernel) rfl
theorem k_639 : Cond.selects RX2 yX2_slopeAt yX2_slopeAt ∈ TT := tab_in 639 (by decide +kernel) rfl
theorem k_64 : Cond.fieldLink RX3 26 "StepWorks$Model" "prices" "[I" ∈ TT := tab_in 64 (by decide +kernel) rfl
set_option maxRecDepth 100000 in
theorem k_640 : Cond.code yX2_slopeAt cX2_slopeAt 6 (some .long) ∈ TT := tab_in 640 rfl rfl
theorem k_641 : Cond.constantLong RX2 125 2 ∈ TT := tab_in 641 (by decide +kernel) rfl
theorem k_642 : Cond.methodLink RX8 247 yX2_curveOf ∈ TT := tab_in 642 (by decide +kernel) rfl
theorem k_643 : Cond.instanceMethod yX2_curveOf ∈ TT := tab_in 643 (by decide +kernel) rfl
theorem k_644 : Cond.selects RX2 yX2_curveOf yX2_curveOf ∈ TT := tab_in 644 (by decide +kernel) rfl
set_option maxRecDepth 100000 in
theorem k_645 : Cond.code yX2_curveOf cX2_curveOf 7 (some .long) ∈ TT := tab_in 645 rfl rfl
theorem k_65 : Cond.fieldLink RX8 106 "StepWorks$Model" "prices" "[I" ∈ TT := tab_in 65 (by decide +kernel) rfl
theorem k_650 : Cond.constant RX8 195 200000 ∈ TT := tab_in 650 (by decide +kernel) rfl
theorem k_655 : Cond.methodLink RX8 196 yX8_freshPlans ∈ TT := tab_in 655 (by decide +kernel) rfl
theorem k_657 : Cond.instanceMethod yX8_freshPlans ∈ TT := tab_in 657 (by decide +kernel) rfl
set_option maxRecDepth 100000 in
theorem k_658 : Cond.code yX8_freshPlans cX8_freshPlans 1 (some (.object "StepWorks$Plans")) ∈ TT := tab_in 658 rfl rfl
theorem k_659 : Cond.methodLink RX8 234 yX4_refresh ∈ TT := tab_in 659 (by decide +kernel) rfl
theorem k_66 : Cond.fieldLink RX2 122 "StepWorks$Model" "prices" "[I" ∈ TT := tab_in 66 (by decide +kernel) rfl
theorem k_660 : Cond.instanceMethod yX4_refresh ∈ TT := tab_in 660 (by decide +kernel) rfl
theorem k_661 : Cond.selects RX4 yX4_refresh yX4_refresh ∈ TT := tab_in 661 (by decide +kernel) rfl
set_option maxRecDepth 100000 in
theorem k_662 : Cond.code yX4_refresh cX4_refresh 3 none ∈ TT := tab_in 662 rfl rfl
theorem k_663 : Cond.methodLink RX4 52 yX3_isFree ∈ TT := tab_in 663 (by decide +kernel) rfl
theorem k_664 : Cond.instanceMethod yX3_isFree ∈ TT := tab_in 664 (by decide +kernel) rfl
theorem k_665 : Cond.selects RX3 yX3_isFree yX3_isFree ∈ TT := tab_in 665 (by decide +kernel) rfl
set_option maxRecDepth 100000 in
theorem k_666 : Cond.code yX3_isFree cX3_isFree 3 (some .boolean) ∈ TT := tab_in 666 rfl rfl
theorem k_667 : Cond.methodLink RX4 65 Lib.Math.max.name ∈ TT := tab_in 667 (by decide +kernel) rfl
theorem k_668 : Cond.methodLink RX4 74 yX4_findSums ∈ TT := tab_in 668 (by decide +kernel) rfl
theorem k_67 : Cond.fieldLink RX3 29 "StepWorks$Model" "bends" "[I" ∈ TT := tab_in 67 (by decide +kernel) rfl
theorem k_670 : Cond.instanceMethod yX4_findSums ∈ TT := tab_in 670 (by decide +kernel) rfl
set_option maxRecDepth 100000 in
theorem k_671 : Cond.code yX4_findSums cX4_findSums 5 none ∈ TT := tab_in 671 rfl rfl
theorem k_672 : Cond.methodLink RX4 96 Lib.Math.min.name ∈ TT := tab_in 672 (by decide +kernel) rfl
theorem k_673 : Cond.methodLink RX4 77 yX4_searchFrom ∈ TT := tab_in 673 (by decide +kernel) rfl
theorem k_675 : Cond.instanceMethod yX4_searchFrom ∈ TT := tab_in 675 (by decide +kernel) rfl
set_option maxRecDepth 100000 in
theorem k_676 : Cond.code yX4_searchFrom cX4_searchFrom 4 none ∈ TT := tab_in 676 rfl rfl
theorem k_677 : Cond.methodLink RX4 125 yX4_narrow ∈ TT := tab_in 677 (by decide +kernel) rfl
theorem k_679 : Cond.instanceMethod yX4_narrow ∈ TT := tab_in 679 (by decide +kernel) rfl
theorem k_68 : Cond.fieldLink RX8 109 "StepWorks$Model" "bends" "[I" ∈ TT := tab_in 68 (by decide +kernel) rfl
set_option maxRecDepth 100000 in
theorem k_680 : Cond.code yX4_narrow cX4_narrow 6 none ∈ TT := tab_in 680 rfl rfl
theorem k_681 : Cond.methodLink RX4 135 yJ9_floorDiv_7cf53 ∈ TT := tab_in 681 (by decide +kernel) rfl
theorem k_682 : Cond.static yJ9_floorDiv_7cf53 ∈ TT := tab_in 682 (by decide +kernel) rfl
set_option maxRecDepth 100000 in
theorem k_683 : Cond.code yJ9_floorDiv_7cf53 cJ9_floorDiv_7cf53 3 (some .int) ∈ TT := tab_in 683 rfl rfl
theorem k_684 : Cond.methodLink RX4 128 yX4_tryNumbers ∈ TT := tab_in 684 (by decide +kernel) rfl
theorem k_686 : Cond.instanceMethod yX4_tryNumbers ∈ TT := tab_in 686 (by decide +kernel) rfl
set_option maxRecDepth 100000 in
theorem k_687 : Cond.code yX4_tryNumbers cX4_tryNumbers 5 none ∈ TT := tab_in 687 rfl rfl
theorem k_688 : Cond.methodLink RX4 131 yX4_appendBlock ∈ TT := tab_in 688 (by decide +kernel) rfl
theorem k_69 : Cond.fieldLink RX2 127 "StepWorks$Model" "bends" "[I" ∈ TT := tab_in 69 (by decide +kernel) rfl
theorem k_690 : Cond.instanceMethod yX4_appendBlock ∈ TT := tab_in 690 (by decide +kernel) rfl
set_option maxRecDepth 100000 in
theorem k_691 : Cond.code yX4_appendBlock cX4_appendBlock 2 none ∈ TT := tab_in 691 rfl rfl
theorem k_692 : Cond.methodLink RX8 200 yX4_size ∈ TT := tab_in 692 (by decide +kernel) rfl
theorem k_693 : Cond.instanceMethod yX4_size ∈ TT := tab_in 693 (by decide +kernel) rfl
theorem k_694 : Cond.selects RX4 yX4_size yX4_size ∈ TT := tab_in 694 (by decide +kernel) rfl
set_option maxRecDepth 100000 in
theorem k_695 : Cond.code yX4_size cX4_size 1 (some .int) ∈ TT := tab_in 695 rfl rfl
theorem k_7 : Cond.initialized RX5 ∈ TT := tab_in 7 (by decide +kernel) rfl
theorem k_700 : Cond.methodLink RX8 201 yX4_isNumber ∈ TT := tab_in 700 (by decide +kernel) rfl
theorem k_701 : Cond.instanceMethod yX4_isNumber ∈ TT := tab_in 701 (by decide +kernel) rfl
theorem k_702 : Cond.selects RX4 yX4_isNumber yX4_isNumber ∈ TT := tab_in 702 (by decide +kernel) rfl
set_option maxRecDepth 100000 in
theorem k_703 : Cond.code yX4_isNumber cX4_isNumber 2 (some .boolean) ∈ TT := tab_in 703 rfl rfl
theorem k_704 : Cond.methodLink RX4 81 yX4_size ∈ TT := tab_in 704 (by decide +kernel) rfl
theorem k_705 : Cond.methodLink RX8 204 yX4_read ∈ TT := tab_in 705 (by decide +kernel) rfl
theorem k_706 : Cond.instanceMethod yX4_read ∈ TT := tab_in 706 (by decide +kernel) rfl
theorem k_707 : Cond.selects RX4 yX4_read yX4_read ∈ TT := tab_in 707 (by decide +kernel) rfl
set_option maxRecDepth 100000 in
theorem k_708 : Cond.code yX4_read cX4_read 3 none ∈ TT := tab_in 708 rfl rfl
theorem k_709 : Cond.methodLink RX4 85 yX4_readBlock ∈ TT := tab_in 709 (by decide +kernel) rfl
theorem k_711 : Cond.instanceMethod yX4_readBlock ∈ TT := tab_in 711 (by decide +kernel) rfl
set_option maxRecDepth 100000 in
theorem k_712 : Cond.code yX4_readBlock cX4_readBlock 5 none ∈ TT := tab_in 712 rfl rfl
theorem k_713 : Cond.methodLink RX4 110 yJ7_fill_53178 ∈ TT := tab_in 713 (by decide +kernel) rfl
theorem k_726 : Cond.methodLink RX8 208 yX4_numberOf ∈ TT := tab_in 726 (by decide +kernel) rfl
theorem k_727 : Cond.instanceMethod yX4_numberOf ∈ TT := tab_in 727 (by decide +kernel) rfl
theorem k_728 : Cond.selects RX4 yX4_numberOf yX4_numberOf ∈ TT := tab_in 728 (by decide +kernel) rfl
set_option maxRecDepth 100000 in
theorem k_729 : Cond.code yX4_numberOf cX4_numberOf 6 (some .int) ∈ TT := tab_in 729 rfl rfl
theorem k_730 : Cond.methodLink RX4 89 yX4_blockOf ∈ TT := tab_in 730 (by decide +kernel) rfl
theorem k_732 : Cond.instanceMethod yX4_blockOf ∈ TT := tab_in 732 (by decide +kernel) rfl
set_option maxRecDepth 100000 in
theorem k_733 : Cond.code yX4_blockOf cX4_blockOf 6 (some .int) ∈ TT := tab_in 733 rfl rfl
theorem k_738 : Cond.methodLink RX8 212 yX4_leastOf ∈ TT := tab_in 738 (by decide +kernel) rfl
theorem k_739 : Cond.instanceMethod yX4_leastOf ∈ TT := tab_in 739 (by decide +kernel) rfl
theorem k_740 : Cond.selects RX4 yX4_leastOf yX4_leastOf ∈ TT := tab_in 740 (by decide +kernel) rfl
set_option maxRecDepth 100000 in
theorem k_741 : Cond.code yX4_leastOf cX4_leastOf 4 (some .int) ∈ TT := tab_in 741 rfl rfl
theorem k_742 : Cond.methodLink RX4 93 yX4_digitOf ∈ TT := tab_in 742 (by decide +kernel) rfl
theorem k_744 : Cond.instanceMethod yX4_digitOf ∈ TT := tab_in 744 (by decide +kernel) rfl
set_option maxRecDepth 100000 in
theorem k_745 : Cond.code yX4_digitOf cX4_digitOf 5 (some .int) ∈ TT := tab_in 745 rfl rfl
theorem k_746 : Cond.methodLink RX8 215 yX4_greatestOf ∈ TT := tab_in 746 (by decide +kernel) rfl
theorem k_747 : Cond.instanceMethod yX4_greatestOf ∈ TT := tab_in 747 (by decide +kernel) rfl
theorem k_748 : Cond.selects RX4 yX4_greatestOf yX4_greatestOf ∈ TT := tab_in 748 (by decide +kernel) rfl
set_option maxRecDepth 100000 in
theorem k_749 : Cond.code yX4_greatestOf cX4_greatestOf 4 (some .int) ∈ TT := tab_in 749 rfl rfl
theorem k_754 : Cond.methodLink RX8 218 yX4_firstOfCost ∈ TT := tab_in 754 (by decide +kernel) rfl
theorem k_755 : Cond.instanceMethod yX4_firstOfCost ∈ TT := tab_in 755 (by decide +kernel) rfl
theorem k_756 : Cond.selects RX4 yX4_firstOfCost yX4_firstOfCost ∈ TT := tab_in 756 (by decide +kernel) rfl
set_option maxRecDepth 100000 in
theorem k_757 : Cond.code yX4_firstOfCost cX4_firstOfCost 8 (some .int) ∈ TT := tab_in 757 rfl rfl
theorem k_758 : Cond.methodLink RX4 99 yX3_costOf ∈ TT := tab_in 758 (by decide +kernel) rfl
theorem k_759 : Cond.methodLink RX4 103 yX4_firstInBlock ∈ TT := tab_in 759 (by decide +kernel) rfl
theorem k_761 : Cond.instanceMethod yX4_firstInBlock ∈ TT := tab_in 761 (by decide +kernel) rfl
set_option maxRecDepth 100000 in
theorem k_762 : Cond.code yX4_firstInBlock cX4_firstInBlock 11 (some .int) ∈ TT := tab_in 762 rfl rfl
theorem k_763 : Cond.methodLink RX4 106 yX3_costOfNumber ∈ TT := tab_in 763 (by decide +kernel) rfl
theorem k_772 : Cond.methodLink RX8 224 yX2_howManyOf ∈ TT := tab_in 772 (by decide +kernel) rfl
theorem k_773 : Cond.instanceMethod yX2_howManyOf ∈ TT := tab_in 773 (by decide +kernel) rfl
theorem k_774 : Cond.selects RX2 yX2_howManyOf yX2_howManyOf ∈ TT := tab_in 774 (by decide +kernel) rfl
set_option maxRecDepth 100000 in
theorem k_775 : Cond.code yX2_howManyOf cX2_howManyOf 4 (some .int) ∈ TT := tab_in 775 rfl rfl
theorem k_776 : Cond.methodLink RX2 99 yX2_kindOf ∈ TT := tab_in 776 (by decide +kernel) rfl
theorem k_777 : Cond.methodLink RX8 227 yX6_allElements ∈ TT := tab_in 777 (by decide +kernel) rfl
theorem k_778 : Cond.instanceMethod yX6_allElements ∈ TT := tab_in 778 (by decide +kernel) rfl
theorem k_779 : Cond.selects RX6 yX6_allElements yX6_allElements ∈ TT := tab_in 779 (by decide +kernel) rfl
set_option maxRecDepth 100000 in
theorem k_780 : Cond.code yX6_allElements cX6_allElements 3 (some .int) ∈ TT := tab_in 780 rfl rfl
theorem k_781 : Cond.methodLink RX6 30 Lib.Math.max.name ∈ TT := tab_in 781 (by decide +kernel) rfl
theorem k_8 : Cond.initialized RX0 ∈ TT := tab_in 8 (by decide +kernel) rfl
theorem k_9 : Cond.initialized RX4 ∈ TT := tab_in 9 (by decide +kernel) rfl
theorem ks_0 : Cond.selects RX8 yX8_refuse yX8_refuse ∈ TT := sel_in 0 (by decide +kernel) rfl
theorem ks_1 : Cond.selects RX8 yX8_equationsChanged yX8_equationsChanged ∈ TT := sel_in 1 (by decide +kernel) rfl
theorem ks_10 : Cond.selects RX0 yX0_reachOf yX0_reachOf ∈ TT := sel_in 10 (by decide +kernel) rfl
theorem ks_11 : Cond.selects RX0 yX0_searchFrom yX0_searchFrom ∈ TT := sel_in 11 (by decide +kernel) rfl
theorem ks_12 : Cond.selects RX0 yX0_isLeast yX0_isLeast ∈ TT := sel_in 12 (by decide +kernel) rfl
theorem ks_13 : Cond.selects RX0 yX0_tryNumbers yX0_tryNumbers ∈ TT := sel_in 13 (by decide +kernel) rfl
theorem ks_14 : Cond.selects RX5 yX5_pushAhead yX5_pushAhead ∈ TT := sel_in 14 (by decide +kernel) rfl
theorem ks_15 : Cond.selects RX5 yX5_keepNext yX5_keepNext ∈ TT := sel_in 15 (by decide +kernel) rfl
theorem ks_16 : Cond.selects RX5 yX5_haveOppositeSigns yX5_haveOppositeSigns ∈ TT := sel_in 16 (by decide +kernel) rfl
theorem ks_17 : Cond.selects RX5 yX5_pushSum yX5_pushSum ∈ TT := sel_in 17 (by decide +kernel) rfl
theorem ks_18 : Cond.selects RX2 yX2_findRoundSupports yX2_findRoundSupports ∈ TT := sel_in 18 (by decide +kernel) rfl
theorem ks_19 : Cond.selects RX2 yX2_supportOf yX2_supportOf ∈ TT := sel_in 19 (by decide +kernel) rfl
theorem ks_2 : Cond.selects RX8 yX8_setCoefficient yX8_setCoefficient ∈ TT := sel_in 2 (by decide +kernel) rfl
theorem ks_20 : Cond.selects RX2 yX2_hasSmaller yX2_hasSmaller ∈ TT := sel_in 20 (by decide +kernel) rfl
theorem ks_21 : Cond.selects RX3 yX3_sumOf yX3_sumOf ∈ TT := sel_in 21 (by decide +kernel) rfl
theorem ks_22 : Cond.selects RX8 yX8_amountsOfSplit yX8_amountsOfSplit ∈ TT := sel_in 22 (by decide +kernel) rfl
theorem ks_23 : Cond.selects RX8 yX8_moveHand yX8_moveHand ∈ TT := sel_in 23 (by decide +kernel) rfl
theorem ks_24 : Cond.selects RX8 yX8_betterHand yX8_betterHand ∈ TT := sel_in 24 (by decide +kernel) rfl
theorem ks_25 : Cond.selects RX8 yX8_freshPlans yX8_freshPlans ∈ TT := sel_in 25 (by decide +kernel) rfl
theorem ks_26 : Cond.selects RX4 yX4_findSums yX4_findSums ∈ TT := sel_in 26 (by decide +kernel) rfl
theorem ks_27 : Cond.selects RX4 yX4_searchFrom yX4_searchFrom ∈ TT := sel_in 27 (by decide +kernel) rfl
theorem ks_28 : Cond.selects RX4 yX4_narrow yX4_narrow ∈ TT := sel_in 28 (by decide +kernel) rfl
theorem ks_29 : Cond.selects RX4 yX4_tryNumbers yX4_tryNumbers ∈ TT := sel_in 29 (by decide +kernel) rfl
theorem ks_3 : Cond.selects RX8 yX8_freshSteps yX8_freshSteps ∈ TT := sel_in 3 (by decide +kernel) rfl
theorem ks_30 : Cond.selects RX4 yX4_appendBlock yX4_appendBlock ∈ TT := sel_in 30 (by decide +kernel) rfl
theorem ks_31 : Cond.selects RX4 yX4_readBlock yX4_readBlock ∈ TT := sel_in 31 (by decide +kernel) rfl
theorem ks_32 : Cond.selects RX4 yX4_blockOf yX4_blockOf ∈ TT := sel_in 32 (by decide +kernel) rfl
theorem ks_33 : Cond.selects RX4 yX4_digitOf yX4_digitOf ∈ TT := sel_in 33 (by decide +kernel) rfl
theorem ks_34 : Cond.selects RX4 yX4_firstInBlock yX4_firstInBlock ∈ TT := sel_in 34 (by decide +kernel) rfl
theorem ks_4 : Cond.selects RX1 yX1_impose yX1_impose ∈ TT := sel_in 4 (by decide +kernel) rfl
theorem ks_5 : Cond.selects RX1 yX1_leastSum yX1_leastSum ∈ TT := sel_in 5 (by decide +kernel) rfl
theorem ks_6 : Cond.selects RX1 yX1_reduceBy yX1_reduceBy ∈ TT := sel_in 6 (by decide +kernel) rfl
theorem ks_7 : Cond.selects RX1 yX1_subtract yX1_subtract ∈ TT := sel_in 7 (by decide +kernel) rfl
theorem ks_8 : Cond.selects RX1 yX1_removeVector yX1_removeVector ∈ TT := sel_in 8 (by decide +kernel) rfl
theorem ks_9 : Cond.selects RX0 yX0_chooseEquation yX0_chooseEquation ∈ TT := sel_in 9 (by decide +kernel) rfl
theorem cs_RX0_32 : CSt RX0 32 yJ7_fill_53178 cJ7_fill_53178 4 none 2 := ⟨k_435, k_35, k_3, k_36, by decide +kernel⟩
theorem cs_RX1_33 : CSt RX1 33 yJ7_fill_d0a16 cJ7_fill_d0a16 5 none 2 := ⟨k_403, k_352, k_3, k_353, by decide +kernel⟩
theorem cs_RX1_50 : CSt RX1 50 yJ7_fill_53178 cJ7_fill_53178 4 none 2 := ⟨k_470, k_35, k_3, k_36, by decide +kernel⟩
theorem cs_RX1_53 : CSt RX1 53 yJ9_floorDiv_f86c9 cJ9_floorDiv_f86c9 6 (some .long) 2 := ⟨k_471, k_472, k_13, k_473, by decide +kernel⟩
theorem cs_RX1_75 : CSt RX1 75 yJ9_abs_067f4 cJ9_abs_067f4 2 (some .long) 1 := ⟨k_412, k_413, k_13, k_414, by decide +kernel⟩
theorem cs_RX3_43 : CSt RX3 43 yJ7_fill_53178 cJ7_fill_53178 4 none 2 := ⟨k_34, k_35, k_3, k_36, by decide +kernel⟩
theorem cs_RX4_110 : CSt RX4 110 yJ7_fill_53178 cJ7_fill_53178 4 none 2 := ⟨k_713, k_35, k_3, k_36, by decide +kernel⟩
theorem cs_RX4_135 : CSt RX4 135 yJ9_floorDiv_7cf53 cJ9_floorDiv_7cf53 3 (some .int) 2 := ⟨k_681, k_682, k_13, k_683, by decide +kernel⟩
theorem cs_RX6_27 : CSt RX6 27 yJ7_fill_d0a16 cJ7_fill_d0a16 5 none 2 := ⟨k_351, k_352, k_3, k_353, by decide +kernel⟩
theorem cs_RX8_61 : CSt RX8 61 yJ7_fill_53178 cJ7_fill_53178 4 none 2 := ⟨k_298, k_35, k_3, k_36, by decide +kernel⟩
theorem cv_RX0_29 : CV RX0 29 RX0 yX0_chooseEquation cX0_chooseEquation 3 none 0 := ⟨k_431, k_433, ks_9, k_8, k_434, by decide +kernel⟩
theorem cv_RX0_47 : CV RX0 47 RX0 yX0_reachOf cX0_reachOf 4 (some .int) 1 := ⟨k_437, k_439, ks_10, k_8, k_440, by decide +kernel⟩
theorem cv_RX0_51 : CV RX0 51 RX0 yX0_searchFrom cX0_searchFrom 4 none 3 := ⟨k_447, k_449, ks_11, k_8, k_450, by decide +kernel⟩
theorem cv_RX0_76 : CV RX0 76 RX0 yX0_isLeast cX0_isLeast 12 (some .boolean) 1 := ⟨k_451, k_453, ks_12, k_8, k_454, by decide +kernel⟩
theorem cv_RX0_80 : CV RX0 80 RX7 yX7_append cX7_append 7 none 3 := ⟨k_455, k_456, k_457, k_5, k_458, by decide +kernel⟩
theorem cv_RX0_86 : CV RX0 86 RX0 yX0_tryNumbers cX0_tryNumbers 9 none 3 := ⟨k_459, k_461, ks_13, k_8, k_462, by decide +kernel⟩
theorem cv_RX1_46 : CV RX1 46 RX1 yX1_impose cX1_impose 4 none 1 := ⟨k_404, k_406, ks_4, k_6, k_407, by decide +kernel⟩
theorem cv_RX1_59 : CV RX1 59 RX1 yX1_subtract cX1_subtract 6 none 3 := ⟨k_419, k_421, ks_7, k_6, k_422, by decide +kernel⟩
theorem cv_RX1_63 : CV RX1 63 RX1 yX1_leastSum cX1_leastSum 3 (some .int) 0 := ⟨k_408, k_410, ks_5, k_6, k_411, by decide +kernel⟩
theorem cv_RX1_67 : CV RX1 67 RX1 yX1_reduceBy cX1_reduceBy 6 (some .boolean) 1 := ⟨k_415, k_417, ks_6, k_6, k_418, by decide +kernel⟩
theorem cv_RX1_71 : CV RX1 71 RX1 yX1_removeVector cX1_removeVector 3 none 1 := ⟨k_423, k_425, ks_8, k_6, k_426, by decide +kernel⟩
theorem cv_RX2_130 : CV RX2 130 RX2 yX2_hasSmaller cX2_hasSmaller 4 (some .boolean) 2 := ⟨k_527, k_529, ks_20, k_4, k_530, by decide +kernel⟩
theorem cv_RX2_49 : CV RX2 49 RX7 yX7_clear cX7_clear 1 none 0 := ⟨k_395, k_396, k_397, k_5, k_398, by decide +kernel⟩
theorem cv_RX2_52 : CV RX2 52 RX1 yX1_solve cX1_solve 3 none 1 := ⟨k_399, k_400, k_401, k_6, k_402, by decide +kernel⟩
theorem cv_RX2_60 : CV RX2 60 RX0 yX0_search cX0_search 2 none 0 := ⟨k_427, k_428, k_429, k_8, k_430, by decide +kernel⟩
theorem cv_RX2_63 : CV RX2 63 RX1 yX1_straighten cX1_straighten 2 none 0 := ⟨k_466, k_467, k_468, k_6, k_469, by decide +kernel⟩
theorem cv_RX2_70 : CV RX2 70 RX5 yX5_walk cX5_walk 7 none 3 := ⟨k_474, k_475, k_476, k_7, k_477, by decide +kernel⟩
theorem cv_RX2_74 : CV RX2 74 RX5 yX5_giveTo cX5_giveTo 3 none 1 := ⟨k_495, k_496, k_497, k_7, k_498, by decide +kernel⟩
theorem cv_RX2_78 : CV RX2 78 RX7 yX7_sort cX7_sort 7 none 0 := ⟨k_500, k_501, k_502, k_5, k_503, by decide +kernel⟩
theorem cv_RX2_81 : CV RX2 81 RX2 yX2_findRoundSupports cX2_findRoundSupports 3 none 0 := ⟨k_506, k_508, ks_18, k_4, k_509, by decide +kernel⟩
theorem cv_RX2_84 : CV RX2 84 RX7 yX7_size cX7_size 1 (some .int) 0 := ⟨k_510, k_511, k_512, k_5, k_513, by decide +kernel⟩
theorem cv_RX2_87 : CV RX2 87 RX7 yX7_at cX7_at 3 (some .int) 2 := ⟨k_522, k_523, k_524, k_5, k_525, by decide +kernel⟩
theorem cv_RX2_94 : CV RX2 94 RX2 yX2_supportOf cX2_supportOf 4 (some .int) 1 := ⟨k_514, k_516, ks_19, k_4, k_517, by decide +kernel⟩
theorem cv_RX2_98 : CV RX2 98 RX2 yX2_at cX2_at 3 (some .int) 2 := ⟨k_518, k_519, k_520, k_4, k_521, by decide +kernel⟩
theorem cv_RX2_99 : CV RX2 99 RX2 yX2_kindOf cX2_kindOf 3 (some .int) 1 := ⟨k_776, k_550, k_551, k_4, k_552, by decide +kernel⟩
theorem cv_RX3_49 : CV RX3 49 RX3 yX3_sumOf cX3_sumOf 5 (some .int) 2 := ⟨k_573, k_575, ks_21, k_2, k_576, by decide +kernel⟩
theorem cv_RX3_53 : CV RX3 53 RX3 yX3_costOfNumber cX3_costOfNumber 3 (some .long) 2 := ⟨k_621, k_622, k_623, k_2, k_624, by decide +kernel⟩
theorem cv_RX4_103 : CV RX4 103 RX4 yX4_firstInBlock cX4_firstInBlock 11 (some .int) 2 := ⟨k_759, k_761, ks_34, k_9, k_762, by decide +kernel⟩
theorem cv_RX4_106 : CV RX4 106 RX3 yX3_costOfNumber cX3_costOfNumber 3 (some .long) 2 := ⟨k_763, k_622, k_623, k_2, k_624, by decide +kernel⟩
theorem cv_RX4_125 : CV RX4 125 RX4 yX4_narrow cX4_narrow 6 none 2 := ⟨k_677, k_679, ks_28, k_9, k_680, by decide +kernel⟩
theorem cv_RX4_128 : CV RX4 128 RX4 yX4_tryNumbers cX4_tryNumbers 5 none 2 := ⟨k_684, k_686, ks_29, k_9, k_687, by decide +kernel⟩
theorem cv_RX4_131 : CV RX4 131 RX4 yX4_appendBlock cX4_appendBlock 2 none 1 := ⟨k_688, k_690, ks_30, k_9, k_691, by decide +kernel⟩
theorem cv_RX4_52 : CV RX4 52 RX3 yX3_isFree cX3_isFree 3 (some .boolean) 1 := ⟨k_663, k_664, k_665, k_2, k_666, by decide +kernel⟩
theorem cv_RX4_74 : CV RX4 74 RX4 yX4_findSums cX4_findSums 5 none 0 := ⟨k_668, k_670, ks_26, k_9, k_671, by decide +kernel⟩
theorem cv_RX4_77 : CV RX4 77 RX4 yX4_searchFrom cX4_searchFrom 4 none 2 := ⟨k_673, k_675, ks_27, k_9, k_676, by decide +kernel⟩
theorem cv_RX4_81 : CV RX4 81 RX4 yX4_size cX4_size 1 (some .int) 0 := ⟨k_704, k_693, k_694, k_9, k_695, by decide +kernel⟩
theorem cv_RX4_85 : CV RX4 85 RX4 yX4_readBlock cX4_readBlock 5 none 2 := ⟨k_709, k_711, ks_31, k_9, k_712, by decide +kernel⟩
theorem cv_RX4_89 : CV RX4 89 RX4 yX4_blockOf cX4_blockOf 6 (some .int) 1 := ⟨k_730, k_732, ks_32, k_9, k_733, by decide +kernel⟩
theorem cv_RX4_93 : CV RX4 93 RX4 yX4_digitOf cX4_digitOf 5 (some .int) 2 := ⟨k_742, k_744, ks_33, k_9, k_745, by decide +kernel⟩
theorem cv_RX4_99 : CV RX4 99 RX3 yX3_costOf cX3_costOf 5 (some .long) 1 := ⟨k_758, k_618, k_619, k_2, k_620, by decide +kernel⟩
theorem cv_RX5_25 : CV RX5 25 RX5 yX5_pushAhead cX5_pushAhead 4 none 2 := ⟨k_478, k_480, ks_14, k_7, k_481, by decide +kernel⟩
theorem cv_RX5_29 : CV RX5 29 RX5 yX5_keepNext cX5_keepNext 2 none 0 := ⟨k_482, k_484, ks_15, k_7, k_485, by decide +kernel⟩
theorem cv_RX5_32 : CV RX5 32 RX5 yX5_haveOppositeSigns cX5_haveOppositeSigns 4 (some .boolean) 2 := ⟨k_487, k_489, ks_16, k_7, k_490, by decide +kernel⟩
theorem cv_RX5_36 : CV RX5 36 RX5 yX5_pushSum cX5_pushSum 4 none 2 := ⟨k_491, k_493, ks_17, k_7, k_494, by decide +kernel⟩
theorem cv_RX5_40 : CV RX5 40 RX7 yX7_append cX7_append 7 none 3 := ⟨k_499, k_456, k_457, k_5, k_458, by decide +kernel⟩
theorem cv_RX8_112 : CV RX8 112 RX6 yX6_isTray cX6_isTray 2 (some .boolean) 1 := ⟨k_343, k_344, k_345, k_10, k_346, by decide +kernel⟩
theorem cv_RX8_115 : CV RX8 115 RX6 yX6_layOut cX6_layOut 4 none 3 := ⟨k_347, k_348, k_349, k_10, k_350, by decide +kernel⟩
theorem cv_RX8_118 : CV RX8 118 RX6 yX6_isMissing cX6_isMissing 2 (some .boolean) 1 := ⟨k_358, k_359, k_360, k_10, k_361, by decide +kernel⟩
theorem cv_RX8_124 : CV RX8 124 RX6 yX6_set cX6_set 5 none 3 := ⟨k_362, k_363, k_364, k_10, k_365, by decide +kernel⟩
theorem cv_RX8_144 : CV RX8 144 RX6 yX6_get cX6_get 3 (some .long) 2 := ⟨k_377, k_378, k_379, k_10, k_380, by decide +kernel⟩
theorem cv_RX8_152 : CV RX8 152 RX8 yX8_freshSteps cX8_freshSteps 1 (some (.object "StepWorks$LeastSteps")) 0 := ⟨k_387, k_389, ks_3, k_1, k_390, by decide +kernel⟩
theorem cv_RX8_156 : CV RX8 156 RX2 yX2_size cX2_size 1 (some .int) 0 := ⟨k_531, k_532, k_533, k_4, k_534, by decide +kernel⟩
theorem cv_RX8_159 : CV RX8 159 RX2 yX2_isStep cX2_isStep 2 (some .boolean) 1 := ⟨k_539, k_540, k_541, k_4, k_542, by decide +kernel⟩
theorem cv_RX8_163 : CV RX8 163 RX2 yX2_at cX2_at 3 (some .int) 2 := ⟨k_544, k_519, k_520, k_4, k_521, by decide +kernel⟩
theorem cv_RX8_167 : CV RX8 167 RX2 yX2_kindOf cX2_kindOf 3 (some .int) 1 := ⟨k_549, k_550, k_551, k_4, k_552, by decide +kernel⟩
theorem cv_RX8_170 : CV RX8 170 RX3 yX3_isStep cX3_isStep 4 (some .boolean) 1 := ⟨k_569, k_570, k_571, k_2, k_572, by decide +kernel⟩
theorem cv_RX8_173 : CV RX8 173 RX3 yX3_isPlan cX3_isPlan 3 (some .boolean) 1 := ⟨k_577, k_578, k_579, k_2, k_580, by decide +kernel⟩
theorem cv_RX8_176 : CV RX8 176 RX2 yX2_timesWithin cX2_timesWithin 6 (some .int) 2 := ⟨k_585, k_586, k_587, k_4, k_588, by decide +kernel⟩
theorem cv_RX8_180 : CV RX8 180 RX8 yX8_amountsOfSplit cX8_amountsOfSplit 7 (some .int) 3 := ⟨k_595, k_597, ks_22, k_1, k_598, by decide +kernel⟩
theorem cv_RX8_184 : CV RX8 184 RX8 yX8_moveHand cX8_moveHand 2 (some .int) 0 := ⟨k_607, k_609, ks_23, k_1, k_610, by decide +kernel⟩
theorem cv_RX8_187 : CV RX8 187 RX3 yX3_costOf cX3_costOf 5 (some .long) 1 := ⟨k_617, k_618, k_619, k_2, k_620, by decide +kernel⟩
theorem cv_RX8_191 : CV RX8 191 RX8 yX8_betterHand cX8_betterHand 15 (some .int) 1 := ⟨k_629, k_631, ks_24, k_1, k_632, by decide +kernel⟩
theorem cv_RX8_196 : CV RX8 196 RX8 yX8_freshPlans cX8_freshPlans 1 (some (.object "StepWorks$Plans")) 0 := ⟨k_655, k_657, ks_25, k_1, k_658, by decide +kernel⟩
theorem cv_RX8_200 : CV RX8 200 RX4 yX4_size cX4_size 1 (some .int) 0 := ⟨k_692, k_693, k_694, k_9, k_695, by decide +kernel⟩
theorem cv_RX8_201 : CV RX8 201 RX4 yX4_isNumber cX4_isNumber 2 (some .boolean) 1 := ⟨k_700, k_701, k_702, k_9, k_703, by decide +kernel⟩
theorem cv_RX8_204 : CV RX8 204 RX4 yX4_read cX4_read 3 none 2 := ⟨k_705, k_706, k_707, k_9, k_708, by decide +kernel⟩
theorem cv_RX8_208 : CV RX8 208 RX4 yX4_numberOf cX4_numberOf 6 (some .int) 1 := ⟨k_726, k_727, k_728, k_9, k_729, by decide +kernel⟩
theorem cv_RX8_212 : CV RX8 212 RX4 yX4_leastOf cX4_leastOf 4 (some .int) 1 := ⟨k_738, k_739, k_740, k_9, k_741, by decide +kernel⟩
theorem cv_RX8_215 : CV RX8 215 RX4 yX4_greatestOf cX4_greatestOf 4 (some .int) 1 := ⟨k_746, k_747, k_748, k_9, k_749, by decide +kernel⟩
theorem cv_RX8_218 : CV RX8 218 RX4 yX4_firstOfCost cX4_firstOfCost 8 (some .int) 1 := ⟨k_754, k_755, k_756, k_9, k_757, by decide +kernel⟩
theorem cv_RX8_221 : CV RX8 221 RX2 yX2_timesInBounds cX2_timesInBounds 6 (some .int) 2 := ⟨k_633, k_634, k_635, k_4, k_636, by decide +kernel⟩
theorem cv_RX8_224 : CV RX8 224 RX2 yX2_howManyOf cX2_howManyOf 4 (some .int) 1 := ⟨k_772, k_773, k_774, k_4, k_775, by decide +kernel⟩
theorem cv_RX8_227 : CV RX8 227 RX6 yX6_allElements cX6_allElements 3 (some .int) 0 := ⟨k_777, k_778, k_779, k_10, k_780, by decide +kernel⟩
theorem cv_RX8_231 : CV RX8 231 RX2 yX2_refresh cX2_refresh 2 none 0 := ⟨k_391, k_392, k_393, k_4, k_394, by decide +kernel⟩
theorem cv_RX8_234 : CV RX8 234 RX4 yX4_refresh cX4_refresh 3 none 0 := ⟨k_659, k_660, k_661, k_9, k_662, by decide +kernel⟩
theorem cv_RX8_239 : CV RX8 239 RX2 yX2_addTimes cX2_addTimes 5 none 3 := ⟨k_599, k_600, k_601, k_4, k_602, by decide +kernel⟩
theorem cv_RX8_243 : CV RX8 243 RX2 yX2_slopeAt cX2_slopeAt 6 (some .long) 2 := ⟨k_637, k_638, k_639, k_4, k_640, by decide +kernel⟩
theorem cv_RX8_247 : CV RX8 247 RX2 yX2_curveOf cX2_curveOf 7 (some .long) 1 := ⟨k_642, k_643, k_644, k_4, k_645, by decide +kernel⟩
theorem cv_RX8_53 : CV RX8 53 RX8 yX8_refuse cX8_refuse 2 (some .int) 1 := ⟨k_293, k_295, ks_0, k_1, k_296, by decide +kernel⟩
theorem cv_RX8_57 : CV RX8 57 RX3 yX3_begin cX3_begin 2 none 1 := ⟨k_297, k_31, k_32, k_2, k_33, by decide +kernel⟩
theorem cv_RX8_67 : CV RX8 67 RX8 yX8_equationsChanged cX8_equationsChanged 1 none 0 := ⟨k_299, k_301, ks_1, k_1, k_302, by decide +kernel⟩
theorem cv_RX8_74 : CV RX8 74 RX3 yX3_addEquation cX3_addEquation 2 (some .int) 0 := ⟨k_307, k_308, k_309, k_2, k_310, by decide +kernel⟩
theorem cv_RX8_78 : CV RX8 78 RX3 yX3_hasEquation cX3_hasEquation 2 (some .boolean) 1 := ⟨k_315, k_316, k_317, k_2, k_318, by decide +kernel⟩
theorem cv_RX8_82 : CV RX8 82 RX3 yX3_hasUnknown cX3_hasUnknown 2 (some .boolean) 1 := ⟨k_319, k_320, k_321, k_2, k_322, by decide +kernel⟩
theorem cv_RX8_89 : CV RX8 89 RX8 yX8_setCoefficient cX8_setCoefficient 4 none 3 := ⟨k_323, k_325, ks_2, k_1, k_326, by decide +kernel⟩
