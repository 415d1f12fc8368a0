theorem k_1 : Cond.initialized RX8 ∈ TT := tab_in 1 (by decide +kernel) rfl
theorem k_10 : Cond.initialized RX6 ∈ TT := tab_in 10 (by decide +kernel) rfl
theorem k_100 : Cond.fieldLink RX7 11 "StepWorks$VectorList" "keys" "[J" ∈ TT := tab_in 100 (by decide +kernel) rfl
theorem k_107 : Cond.arrayClass .long ∈ TT := tab_in 107 (by decide +kernel) rfl
theorem k_108 : Cond.classLink RX2 18 RX1 ∈ TT := tab_in 108 (by decide +kernel) rfl
theorem k_109 : Cond.instantiable RX1 4 ∈ TT := tab_in 109 (by decide +kernel) rfl
theorem k_111 : Cond.instanceMethod yX1_init ∈ TT := tab_in 111 (by decide +kernel) rfl
set_option maxRecDepth 100000 in
theorem k_112 : Cond.code yX1_init cX1_init 1 none ∈ TT := tab_in 112 rfl rfl
theorem k_113 : Cond.methodLink RX1 3 objectInit ∈ TT := tab_in 113 (by decide +kernel) rfl
theorem k_114 : Cond.classLink RX1 9 "[[J" ∈ TT := tab_in 114 (by decide +kernel) rfl
theorem k_116 : Cond.fieldLink RX1 11 "StepWorks$Kernel" "vectors" "[[J" ∈ TT := tab_in 116 (by decide +kernel) rfl
theorem k_118 : Cond.fieldLink RX1 16 "StepWorks$Kernel" "sums" "[J" ∈ TT := tab_in 118 (by decide +kernel) rfl
theorem k_119 : Cond.fieldLink RX1 20 "StepWorks$Kernel" "unit" "[I" ∈ TT := tab_in 119 (by decide +kernel) rfl
theorem k_131 : Cond.classLink RX2 25 RX5 ∈ TT := tab_in 131 (by decide +kernel) rfl
theorem k_132 : Cond.instantiable RX5 4 ∈ TT := tab_in 132 (by decide +kernel) rfl
theorem k_134 : Cond.instanceMethod yX5_init ∈ TT := tab_in 134 (by decide +kernel) rfl
set_option maxRecDepth 100000 in
theorem k_135 : Cond.code yX5_init cX5_init 1 none ∈ TT := tab_in 135 rfl rfl
theorem k_136 : Cond.methodLink RX5 3 objectInit ∈ TT := tab_in 136 (by decide +kernel) rfl
theorem k_137 : Cond.fieldLink RX5 11 "StepWorks$Ring" "kept" "[I" ∈ TT := tab_in 137 (by decide +kernel) rfl
theorem k_138 : Cond.fieldLink RX5 15 "StepWorks$Ring" "ahead" "[I" ∈ TT := tab_in 138 (by decide +kernel) rfl
theorem k_150 : Cond.classLink RX2 40 RX0 ∈ TT := tab_in 150 (by decide +kernel) rfl
theorem k_151 : Cond.instantiable RX0 6 ∈ TT := tab_in 151 (by decide +kernel) rfl
theorem k_152 : Cond.methodLink RX2 42 yX0_init ∈ TT := tab_in 152 (by decide +kernel) rfl
theorem k_153 : Cond.instanceMethod yX0_init ∈ TT := tab_in 153 (by decide +kernel) rfl
set_option maxRecDepth 100000 in
theorem k_154 : Cond.code yX0_init cX0_init 3 none ∈ TT := tab_in 154 rfl rfl
theorem k_155 : Cond.methodLink RX0 3 objectInit ∈ TT := tab_in 155 (by decide +kernel) rfl
theorem k_156 : Cond.fieldLink RX0 21 "StepWorks$Box" "model" "LStepWorks$Model;" ∈ TT := tab_in 156 (by decide +kernel) rfl
theorem k_157 : Cond.fieldLink RX0 25 "StepWorks$Box" "found" "LStepWorks$VectorList;" ∈ TT := tab_in 157 (by decide +kernel) rfl
theorem k_158 : Cond.fieldLink RX0 9 "StepWorks$Box" "coefficients" "[I" ∈ TT := tab_in 158 (by decide +kernel) rfl
theorem k_159 : Cond.fieldLink RX0 15 "StepWorks$Box" "reaches" "[I" ∈ TT := tab_in 159 (by decide +kernel) rfl
theorem k_160 : Cond.fieldLink RX0 18 "StepWorks$Box" "vector" "[I" ∈ TT := tab_in 160 (by decide +kernel) rfl
theorem k_175 : Cond.fieldLink RX2 36 "StepWorks$LeastSteps" "model" "LStepWorks$Model;" ∈ TT := tab_in 175 (by decide +kernel) rfl
theorem k_176 : Cond.fieldLink RX2 12 "StepWorks$LeastSteps" "list" "LStepWorks$VectorList;" ∈ TT := tab_in 176 (by decide +kernel) rfl
theorem k_177 : Cond.fieldLink RX2 21 "StepWorks$LeastSteps" "kernel" "LStepWorks$Kernel;" ∈ TT := tab_in 177 (by decide +kernel) rfl
theorem k_178 : Cond.fieldLink RX2 28 "StepWorks$LeastSteps" "ring" "LStepWorks$Ring;" ∈ TT := tab_in 178 (by decide +kernel) rfl
theorem k_179 : Cond.fieldLink RX2 45 "StepWorks$LeastSteps" "box" "LStepWorks$Box;" ∈ TT := tab_in 179 (by decide +kernel) rfl
theorem k_181 : Cond.fieldLink RX2 32 "StepWorks$LeastSteps" "stale" "Z" ∈ TT := tab_in 181 (by decide +kernel) rfl
theorem k_182 : Cond.fieldLink RX8 230 "StepWorks$LeastSteps" "stale" "Z" ∈ TT := tab_in 182 (by decide +kernel) rfl
theorem k_19 : Cond.methodLink RX8 1 objectInit ∈ TT := tab_in 19 (by decide +kernel) rfl
theorem k_198 : Cond.classLink RX8 25 RX4 ∈ TT := tab_in 198 (by decide +kernel) rfl
theorem k_199 : Cond.instantiable RX4 12 ∈ TT := tab_in 199 (by decide +kernel) rfl
theorem k_2 : Cond.initialized RX3 ∈ TT := tab_in 2 (by decide +kernel) rfl
theorem k_20 : Cond.instanceMethod objectInit ∈ TT := tab_in 20 (by decide +kernel) rfl
theorem k_200 : Cond.methodLink RX8 27 yX4_init ∈ TT := tab_in 200 (by decide +kernel) rfl
theorem k_201 : Cond.instanceMethod yX4_init ∈ TT := tab_in 201 (by decide +kernel) rfl
set_option maxRecDepth 100000 in
theorem k_202 : Cond.code yX4_init cX4_init 2 none ∈ TT := tab_in 202 rfl rfl
theorem k_203 : Cond.methodLink RX4 5 objectInit ∈ TT := tab_in 203 (by decide +kernel) rfl
theorem k_204 : Cond.classLink RX4 24 "[[I" ∈ TT := tab_in 204 (by decide +kernel) rfl
theorem k_205 : Cond.fieldLink RX4 39 "StepWorks$Plans" "model" "LStepWorks$Model;" ∈ TT := tab_in 205 (by decide +kernel) rfl
theorem k_206 : Cond.fieldLink RX4 11 "StepWorks$Plans" "blocks" "[I" ∈ TT := tab_in 206 (by decide +kernel) rfl
theorem k_207 : Cond.fieldLink RX4 15 "StepWorks$Plans" "row" "[I" ∈ TT := tab_in 207 (by decide +kernel) rfl
theorem k_208 : Cond.fieldLink RX4 18 "StepWorks$Plans" "froms" "[I" ∈ TT := tab_in 208 (by decide +kernel) rfl
theorem k_209 : Cond.fieldLink RX4 21 "StepWorks$Plans" "tos" "[I" ∈ TT := tab_in 209 (by decide +kernel) rfl
set_option maxRecDepth 100000 in
theorem k_21 : Cond.code objectInit ⟨#[0xb1]⟩ 1 none ∈ TT := tab_in 21 rfl rfl
theorem k_210 : Cond.fieldLink RX4 26 "StepWorks$Plans" "due" "[[I" ∈ TT := tab_in 210 (by decide +kernel) rfl
theorem k_211 : Cond.fieldLink RX4 29 "StepWorks$Plans" "leastSums" "[[I" ∈ TT := tab_in 211 (by decide +kernel) rfl
theorem k_212 : Cond.fieldLink RX4 32 "StepWorks$Plans" "greatestSums" "[[I" ∈ TT := tab_in 212 (by decide +kernel) rfl
theorem k_216 : Cond.fieldLink RX4 35 "StepWorks$Plans" "stale" "Z" ∈ TT := tab_in 216 (by decide +kernel) rfl
theorem k_217 : Cond.fieldLink RX8 96 "StepWorks$Plans" "stale" "Z" ∈ TT := tab_in 217 (by decide +kernel) rfl
theorem k_22 : Cond.classLink RX8 7 RX3 ∈ TT := tab_in 22 (by decide +kernel) rfl
theorem k_23 : Cond.instantiable RX3 8 ∈ TT := tab_in 23 (by decide +kernel) rfl
theorem k_24 : Cond.methodLink RX8 9 yX3_init ∈ TT := tab_in 24 (by decide +kernel) rfl
theorem k_243 : Cond.classLink RX8 32 RX6 ∈ TT := tab_in 243 (by decide +kernel) rfl
theorem k_244 : Cond.instantiable RX6 3 ∈ TT := tab_in 244 (by decide +kernel) rfl
theorem k_245 : Cond.methodLink RX8 34 yX6_init ∈ TT := tab_in 245 (by decide +kernel) rfl
theorem k_246 : Cond.instanceMethod yX6_init ∈ TT := tab_in 246 (by decide +kernel) rfl
set_option maxRecDepth 100000 in
theorem k_247 : Cond.code yX6_init cX6_init 1 none ∈ TT := tab_in 247 rfl rfl
theorem k_248 : Cond.methodLink RX6 1 objectInit ∈ TT := tab_in 248 (by decide +kernel) rfl
theorem k_249 : Cond.classLink RX6 9 "[[J" ∈ TT := tab_in 249 (by decide +kernel) rfl
theorem k_25 : Cond.instanceMethod yX3_init ∈ TT := tab_in 25 (by decide +kernel) rfl
theorem k_250 : Cond.methodLink RX6 21 yJ7_fill_53178 ∈ TT := tab_in 250 (by decide +kernel) rfl
theorem k_251 : Cond.fieldLink RX6 11 "StepWorks$Trays" "elements" "[[J" ∈ TT := tab_in 251 (by decide +kernel) rfl
theorem k_253 : Cond.fieldLink RX6 14 "StepWorks$Trays" "sorts" "[I" ∈ TT := tab_in 253 (by decide +kernel) rfl
theorem k_255 : Cond.fieldLink RX6 18 "StepWorks$Trays" "lengths" "[I" ∈ TT := tab_in 255 (by decide +kernel) rfl
set_option maxRecDepth 100000 in
theorem k_26 : Cond.code yX3_init cX3_init 1 none ∈ TT := tab_in 26 rfl rfl
theorem k_264 : Cond.fieldLink RX8 10 "StepWorks" "model" "LStepWorks$Model;" ∈ TT := tab_in 264 (by decide +kernel) rfl
theorem k_265 : Cond.fieldLink RX8 21 "StepWorks" "leastSteps" "LStepWorks$LeastSteps;" ∈ TT := tab_in 265 (by decide +kernel) rfl
theorem k_266 : Cond.fieldLink RX8 28 "StepWorks" "allPlans" "LStepWorks$Plans;" ∈ TT := tab_in 266 (by decide +kernel) rfl
theorem k_267 : Cond.fieldLink RX8 35 "StepWorks" "trays" "LStepWorks$Trays;" ∈ TT := tab_in 267 (by decide +kernel) rfl
theorem k_268 : Cond.fieldLink RX8 39 "StepWorks" "inHand" "[I" ∈ TT := tab_in 268 (by decide +kernel) rfl
theorem k_269 : Cond.fieldLink RX8 43 "StepWorks" "scratch" "[I" ∈ TT := tab_in 269 (by decide +kernel) rfl
theorem k_27 : Cond.methodLink RX3 3 objectInit ∈ TT := tab_in 27 (by decide +kernel) rfl
theorem k_270 : Cond.fieldLink RX8 46 "StepWorks" "moved" "[J" ∈ TT := tab_in 270 (by decide +kernel) rfl
theorem k_271 : Cond.fieldLink RX8 50 "StepWorks" "refused" "[I" ∈ TT := tab_in 271 (by decide +kernel) rfl
theorem k_28 : Cond.classLink RX3 9 "[[I" ∈ TT := tab_in 28 (by decide +kernel) rfl
theorem k_299 : Cond.methodLink RX8 67 yX8_equationsChanged ∈ TT := tab_in 299 (by decide +kernel) rfl
theorem k_3 : Cond.initialized RJ7 ∈ TT := tab_in 3 (by decide +kernel) rfl
theorem k_30 : Cond.methodLink RX3 32 yX3_begin ∈ TT := tab_in 30 (by decide +kernel) rfl
theorem k_301 : Cond.instanceMethod yX8_equationsChanged ∈ TT := tab_in 301 (by decide +kernel) rfl
set_option maxRecDepth 100000 in
theorem k_302 : Cond.code yX8_equationsChanged cX8_equationsChanged 1 none ∈ TT := tab_in 302 rfl rfl
theorem k_307 : Cond.methodLink RX8 74 yX3_addEquation ∈ TT := tab_in 307 (by decide +kernel) rfl
theorem k_308 : Cond.instanceMethod yX3_addEquation ∈ TT := tab_in 308 (by decide +kernel) rfl
theorem k_309 : Cond.selects RX3 yX3_addEquation yX3_addEquation ∈ TT := tab_in 309 (by decide +kernel) rfl
theorem k_31 : Cond.instanceMethod yX3_begin ∈ TT := tab_in 31 (by decide +kernel) rfl
set_option maxRecDepth 100000 in
theorem k_310 : Cond.code yX3_addEquation cX3_addEquation 2 (some .int) ∈ TT := tab_in 310 rfl rfl
theorem k_32 : Cond.selects RX3 yX3_begin yX3_begin ∈ TT := tab_in 32 (by decide +kernel) rfl
set_option maxRecDepth 100000 in
theorem k_33 : Cond.code yX3_begin cX3_begin 2 none ∈ TT := tab_in 33 rfl rfl
theorem k_34 : Cond.methodLink RX3 43 yJ7_fill_53178 ∈ TT := tab_in 34 (by decide +kernel) rfl
theorem k_35 : Cond.static yJ7_fill_53178 ∈ TT := tab_in 35 (by decide +kernel) rfl
set_option maxRecDepth 100000 in
theorem k_36 : Cond.code yJ7_fill_53178 cJ7_fill_53178 4 none ∈ TT := tab_in 36 rfl rfl
theorem k_37 : Cond.fieldLink RX3 36 "StepWorks$Model" "unknowns" "I" ∈ TT := tab_in 37 (by decide +kernel) rfl
theorem k_4 : Cond.initialized RX2 ∈ TT := tab_in 4 (by decide +kernel) rfl
theorem k_43 : Cond.fieldLink RX3 40 "StepWorks$Model" "equations" "I" ∈ TT := tab_in 43 (by decide +kernel) rfl
theorem k_45 : Cond.fieldLink RX8 70 "StepWorks$Model" "equations" "I" ∈ TT := tab_in 45 (by decide +kernel) rfl
theorem k_48 : Cond.fieldLink RX3 11 "StepWorks$Model" "coefficients" "[[I" ∈ TT := tab_in 48 (by decide +kernel) rfl
theorem k_5 : Cond.initialized RX7 ∈ TT := tab_in 5 (by decide +kernel) rfl
theorem k_53 : Cond.fieldLink RX3 16 "StepWorks$Model" "rightSides" "[I" ∈ TT := tab_in 53 (by decide +kernel) rfl
theorem k_56 : Cond.fieldLink RX3 20 "StepWorks$Model" "lows" "[I" ∈ TT := tab_in 56 (by decide +kernel) rfl
theorem k_569 : Cond.methodLink RX8 170 yX3_isStep ∈ TT := tab_in 569 (by decide +kernel) rfl
theorem k_570 : Cond.instanceMethod yX3_isStep ∈ TT := tab_in 570 (by decide +kernel) rfl
theorem k_571 : Cond.selects RX3 yX3_isStep yX3_isStep ∈ TT := tab_in 571 (by decide +kernel) rfl
set_option maxRecDepth 100000 in
theorem k_572 : Cond.code yX3_isStep cX3_isStep 4 (some .boolean) ∈ TT := tab_in 572 rfl rfl
theorem k_577 : Cond.methodLink RX8 173 yX3_isPlan ∈ TT := tab_in 577 (by decide +kernel) rfl
theorem k_578 : Cond.instanceMethod yX3_isPlan ∈ TT := tab_in 578 (by decide +kernel) rfl
theorem k_579 : Cond.selects RX3 yX3_isPlan yX3_isPlan ∈ TT := tab_in 579 (by decide +kernel) rfl
set_option maxRecDepth 100000 in
theorem k_580 : Cond.code yX3_isPlan cX3_isPlan 3 (some .boolean) ∈ TT := tab_in 580 rfl rfl
theorem k_6 : Cond.initialized RX1 ∈ TT := tab_in 6 (by decide +kernel) rfl
theorem k_60 : Cond.fieldLink RX3 23 "StepWorks$Model" "highs" "[I" ∈ TT := tab_in 60 (by decide +kernel) rfl
theorem k_617 : Cond.methodLink RX8 187 yX3_costOf ∈ TT := tab_in 617 (by decide +kernel) rfl
theorem k_618 : Cond.instanceMethod yX3_costOf ∈ TT := tab_in 618 (by decide +kernel) rfl
theorem k_619 : Cond.selects RX3 yX3_costOf yX3_costOf ∈ TT := tab_in 619 (by decide +kernel) rfl
set_option maxRecDepth 100000 in
theorem k_620 : Cond.code yX3_costOf cX3_costOf 5 (some .long) ∈ TT := tab_in 620 rfl rfl
theorem k_621 : Cond.methodLink RX3 53 yX3_costOfNumber ∈ TT := tab_in 621 (by decide +kernel) rfl
theorem k_622 : Cond.instanceMethod yX3_costOfNumber ∈ TT := tab_in 622 (by decide +kernel) rfl
theorem k_623 : Cond.selects RX3 yX3_costOfNumber yX3_costOfNumber ∈ TT := tab_in 623 (by decide +kernel) rfl
set_option maxRecDepth 100000 in
theorem k_624 : Cond.code yX3_costOfNumber cX3_costOfNumber 3 (some .long) ∈ TT := tab_in 624 rfl rfl
theorem k_64 : Cond.fieldLink RX3 26 "StepWorks$Model" "prices" "[I" ∈ TT := tab_in 64 (by decide +kernel) rfl
theorem k_67 : Cond.fieldLink RX3 29 "StepWorks$Model" "bends" "[I" ∈ TT := tab_in 67 (by decide +kernel) rfl
theorem k_7 : Cond.initialized RX5 ∈ TT := tab_in 7 (by decide +kernel) rfl
theorem k_8 : Cond.initialized RX0 ∈ TT := tab_in 8 (by decide +kernel) rfl
theorem k_87 : Cond.arrayClass .int ∈ TT := tab_in 87 (by decide +kernel) rfl
theorem k_88 : Cond.classLink RX8 16 RX2 ∈ TT := tab_in 88 (by decide +kernel) rfl
theorem k_89 : Cond.instantiable RX2 7 ∈ TT := tab_in 89 (by decide +kernel) rfl
theorem k_9 : Cond.initialized RX4 ∈ TT := tab_in 9 (by decide +kernel) rfl
theorem k_90 : Cond.methodLink RX8 18 yX2_init ∈ TT := tab_in 90 (by decide +kernel) rfl
theorem k_91 : Cond.instanceMethod yX2_init ∈ TT := tab_in 91 (by decide +kernel) rfl
set_option maxRecDepth 100000 in
theorem k_92 : Cond.code yX2_init cX2_init 2 none ∈ TT := tab_in 92 rfl rfl
theorem k_93 : Cond.methodLink RX2 3 objectInit ∈ TT := tab_in 93 (by decide +kernel) rfl
theorem k_94 : Cond.classLink RX2 9 RX7 ∈ TT := tab_in 94 (by decide +kernel) rfl
theorem k_95 : Cond.instantiable RX7 2 ∈ TT := tab_in 95 (by decide +kernel) rfl
theorem k_97 : Cond.instanceMethod yX7_init ∈ TT := tab_in 97 (by decide +kernel) rfl
set_option maxRecDepth 100000 in
theorem k_98 : Cond.code yX7_init cX7_init 1 none ∈ TT := tab_in 98 rfl rfl
theorem k_99 : Cond.methodLink RX7 5 objectInit ∈ TT := tab_in 99 (by decide +kernel) rfl
theorem ks_1 : Cond.selects RX8 yX8_equationsChanged yX8_equationsChanged ∈ TT := sel_in 1 (by decide +kernel) rfl
theorem ci_RX2_42 : CI RX2 42 yX0_init cX0_init 3 2 := ⟨k_152, k_153, k_8, k_154, rfl, by decide +kernel⟩
theorem ci_RX8_18 : CI RX8 18 yX2_init cX2_init 2 1 := ⟨k_90, k_91, k_4, k_92, rfl, by decide +kernel⟩
theorem ci_RX8_27 : CI RX8 27 yX4_init cX4_init 2 1 := ⟨k_200, k_201, k_9, k_202, rfl, by decide +kernel⟩
theorem ci_RX8_34 : CI RX8 34 yX6_init cX6_init 1 0 := ⟨k_245, k_246, k_10, k_247, rfl, by decide +kernel⟩
theorem ci_RX8_9 : CI RX8 9 yX3_init cX3_init 1 0 := ⟨k_24, k_25, k_2, k_26, rfl, by decide +kernel⟩
theorem cn_RX2_11 : CN yX7_init cX7_init 1 0 := ⟨k_97, k_5, k_98, rfl, by decide +kernel⟩
theorem cn_RX2_20 : CN yX1_init cX1_init 1 0 := ⟨k_111, k_6, k_112, rfl, by decide +kernel⟩
theorem cn_RX2_27 : CN yX5_init cX5_init 1 0 := ⟨k_134, k_7, k_135, rfl, by decide +kernel⟩
theorem cs_RX3_43 : CSt RX3 43 yJ7_fill_53178 cJ7_fill_53178 4 none 2 := ⟨k_34, k_35, k_3, k_36, by decide +kernel⟩
theorem cs_RX6_21 : CSt RX6 21 yJ7_fill_53178 cJ7_fill_53178 4 none 2 := ⟨k_250, k_35, k_3, k_36, by decide +kernel⟩
theorem cv_RX3_32 : CV RX3 32 RX3 yX3_begin cX3_begin 2 none 1 := ⟨k_30, k_31, k_32, k_2, k_33, by decide +kernel⟩
theorem cv_RX3_53 : CV RX3 53 RX3 yX3_costOfNumber cX3_costOfNumber 3 (some .long) 2 := ⟨k_621, k_622, k_623, k_2, k_624, by decide +kernel⟩
theorem cv_RX8_170 : CV RX8 170 RX3 yX3_isStep cX3_isStep 4 (some .boolean) 1 := ⟨k_569, k_570, k_571, k_2, k_572, by decide +kernel⟩
theorem cv_RX8_173 : CV RX8 173 RX3 yX3_isPlan cX3_isPlan 3 (some .boolean) 1 := ⟨k_577, k_578, k_579, k_2, k_580, by decide +kernel⟩
theorem cv_RX8_187 : CV RX8 187 RX3 yX3_costOf cX3_costOf 5 (some .long) 1 := ⟨k_617, k_618, k_619, k_2, k_620, by decide +kernel⟩
theorem cv_RX8_67 : CV RX8 67 RX8 yX8_equationsChanged cX8_equationsChanged 1 none 0 := ⟨k_299, k_301, ks_1, k_1, k_302, by decide +kernel⟩
theorem cv_RX8_74 : CV RX8 74 RX3 yX3_addEquation cX3_addEquation 2 (some .int) 0 := ⟨k_307, k_308, k_309, k_2, k_310, by decide +kernel⟩
