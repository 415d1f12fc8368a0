theorem k_1006 : Cond.methodLink RL 68 yX9_step ∈ TT := tab_in 1006 (by decide +kernel) rfl
theorem k_1007 : Cond.instanceMethod yX9_step ∈ TT := tab_in 1007 (by decide +kernel) rfl
theorem k_1008 : Cond.selects RX9 yX9_step yX9_step ∈ TT := tab_in 1008 (by decide +kernel) rfl
set_option maxRecDepth 100000 in
theorem k_1009 : Cond.code yX9_step cX9_step 3 (some .int) ∈ TT := tab_in 1009 rfl rfl
theorem k_1015 : Cond.methodLink RL 72 yX9_kind ∈ TT := tab_in 1015 (by decide +kernel) rfl
theorem k_1016 : Cond.instanceMethod yX9_kind ∈ TT := tab_in 1016 (by decide +kernel) rfl
theorem k_1017 : Cond.selects RX9 yX9_kind yX9_kind ∈ TT := tab_in 1017 (by decide +kernel) rfl
set_option maxRecDepth 100000 in
theorem k_1018 : Cond.code yX9_kind cX9_kind 2 (some .int) ∈ TT := tab_in 1018 rfl rfl
theorem k_1023 : Cond.methodLink RL 76 yX9_back ∈ TT := tab_in 1023 (by decide +kernel) rfl
theorem k_1024 : Cond.instanceMethod yX9_back ∈ TT := tab_in 1024 (by decide +kernel) rfl
theorem k_1025 : Cond.selects RX9 yX9_back yX9_back ∈ TT := tab_in 1025 (by decide +kernel) rfl
set_option maxRecDepth 100000 in
theorem k_1026 : Cond.code yX9_back cX9_back 5 (some .int) ∈ TT := tab_in 1026 rfl rfl
theorem k_1027 : Cond.methodLink RL 80 yX9_hand ∈ TT := tab_in 1027 (by decide +kernel) rfl
theorem k_1028 : Cond.instanceMethod yX9_hand ∈ TT := tab_in 1028 (by decide +kernel) rfl
theorem k_1029 : Cond.selects RX9 yX9_hand yX9_hand ∈ TT := tab_in 1029 (by decide +kernel) rfl
set_option maxRecDepth 100000 in
theorem k_1030 : Cond.code yX9_hand cX9_hand 4 (some .int) ∈ TT := tab_in 1030 rfl rfl
theorem k_1031 : Cond.methodLink RL 84 yX9_has ∈ TT := tab_in 1031 (by decide +kernel) rfl
theorem k_1032 : Cond.instanceMethod yX9_has ∈ TT := tab_in 1032 (by decide +kernel) rfl
theorem k_1033 : Cond.selects RX9 yX9_has yX9_has ∈ TT := tab_in 1033 (by decide +kernel) rfl
set_option maxRecDepth 100000 in
theorem k_1034 : Cond.code yX9_has cX9_has 2 (some .int) ∈ TT := tab_in 1034 rfl rfl
theorem k_1035 : Cond.methodLink RL 88 yX9_what ∈ TT := tab_in 1035 (by decide +kernel) rfl
theorem k_1036 : Cond.instanceMethod yX9_what ∈ TT := tab_in 1036 (by decide +kernel) rfl
theorem k_1037 : Cond.selects RX9 yX9_what yX9_what ∈ TT := tab_in 1037 (by decide +kernel) rfl
set_option maxRecDepth 100000 in
theorem k_1038 : Cond.code yX9_what cX9_what 1 (some .int) ∈ TT := tab_in 1038 rfl rfl
theorem k_1051 : Cond.methodLink RL 92 yX9_fits ∈ TT := tab_in 1051 (by decide +kernel) rfl
theorem k_1052 : Cond.instanceMethod yX9_fits ∈ TT := tab_in 1052 (by decide +kernel) rfl
theorem k_1053 : Cond.selects RX9 yX9_fits yX9_fits ∈ TT := tab_in 1053 (by decide +kernel) rfl
set_option maxRecDepth 100000 in
theorem k_1054 : Cond.code yX9_fits cX9_fits 2 (some .int) ∈ TT := tab_in 1054 rfl rfl
theorem k_1063 : Cond.methodLink RL 96 yX9_split ∈ TT := tab_in 1063 (by decide +kernel) rfl
theorem k_1064 : Cond.instanceMethod yX9_split ∈ TT := tab_in 1064 (by decide +kernel) rfl
theorem k_1065 : Cond.selects RX9 yX9_split yX9_split ∈ TT := tab_in 1065 (by decide +kernel) rfl
set_option maxRecDepth 100000 in
theorem k_1066 : Cond.code yX9_split cX9_split 2 (some .int) ∈ TT := tab_in 1066 rfl rfl
theorem k_107 : Cond.arrayClass .long ∈ TT := tab_in 107 (by decide +kernel) rfl
theorem k_1071 : Cond.methodLink RL 100 yX9_add ∈ TT := tab_in 1071 (by decide +kernel) rfl
theorem k_1072 : Cond.instanceMethod yX9_add ∈ TT := tab_in 1072 (by decide +kernel) rfl
theorem k_1073 : Cond.selects RX9 yX9_add yX9_add ∈ TT := tab_in 1073 (by decide +kernel) rfl
set_option maxRecDepth 100000 in
theorem k_1074 : Cond.code yX9_add cX9_add 3 (some .int) ∈ TT := tab_in 1074 rfl rfl
theorem k_108 : Cond.classLink RX2 18 RX1 ∈ TT := tab_in 108 (by decide +kernel) rfl
theorem k_1081 : Cond.methodLink RL 105 yX9_cost ∈ TT := tab_in 1081 (by decide +kernel) rfl
theorem k_1089 : Cond.methodLink RL 109 yX9_better ∈ TT := tab_in 1089 (by decide +kernel) rfl
theorem k_109 : Cond.instantiable RX1 4 ∈ TT := tab_in 109 (by decide +kernel) rfl
theorem k_1090 : Cond.instanceMethod yX9_better ∈ TT := tab_in 1090 (by decide +kernel) rfl
theorem k_1091 : Cond.selects RX9 yX9_better yX9_better ∈ TT := tab_in 1091 (by decide +kernel) rfl
set_option maxRecDepth 100000 in
theorem k_1092 : Cond.code yX9_better cX9_better 1 (some .int) ∈ TT := tab_in 1092 rfl rfl
theorem k_1098 : Cond.methodLink RL 113 yX9_best ∈ TT := tab_in 1098 (by decide +kernel) rfl
theorem k_1099 : Cond.instanceMethod yX9_best ∈ TT := tab_in 1099 (by decide +kernel) rfl
theorem k_1100 : Cond.selects RX9 yX9_best yX9_best ∈ TT := tab_in 1100 (by decide +kernel) rfl
set_option maxRecDepth 100000 in
theorem k_1101 : Cond.code yX9_best cX9_best 2 (some .int) ∈ TT := tab_in 1101 rfl rfl
theorem k_1102 : Cond.methodLink RL 117 yX9_plans ∈ TT := tab_in 1102 (by decide +kernel) rfl
theorem k_1103 : Cond.instanceMethod yX9_plans ∈ TT := tab_in 1103 (by decide +kernel) rfl
theorem k_1104 : Cond.selects RX9 yX9_plans yX9_plans ∈ TT := tab_in 1104 (by decide +kernel) rfl
set_option maxRecDepth 100000 in
theorem k_1105 : Cond.code yX9_plans cX9_plans 1 (some .int) ∈ TT := tab_in 1105 rfl rfl
theorem k_111 : Cond.instanceMethod yX1_init ∈ TT := tab_in 111 (by decide +kernel) rfl
theorem k_1114 : Cond.methodLink RL 121 yX9_plan ∈ TT := tab_in 1114 (by decide +kernel) rfl
theorem k_1115 : Cond.instanceMethod yX9_plan ∈ TT := tab_in 1115 (by decide +kernel) rfl
theorem k_1116 : Cond.selects RX9 yX9_plan yX9_plan ∈ TT := tab_in 1116 (by decide +kernel) rfl
set_option maxRecDepth 100000 in
theorem k_1117 : Cond.code yX9_plan cX9_plan 3 (some .int) ∈ TT := tab_in 1117 rfl rfl
theorem k_1118 : Cond.methodLink RL 125 yX9_take ∈ TT := tab_in 1118 (by decide +kernel) rfl
theorem k_1119 : Cond.instanceMethod yX9_take ∈ TT := tab_in 1119 (by decide +kernel) rfl
set_option maxRecDepth 100000 in
theorem k_112 : Cond.code yX1_init cX1_init 1 none ∈ TT := tab_in 112 rfl rfl
theorem k_1120 : Cond.selects RX9 yX9_take yX9_take ∈ TT := tab_in 1120 (by decide +kernel) rfl
set_option maxRecDepth 100000 in
theorem k_1121 : Cond.code yX9_take cX9_take 3 (some .int) ∈ TT := tab_in 1121 rfl rfl
theorem k_1122 : Cond.methodLink RL 129 yX9_less ∈ TT := tab_in 1122 (by decide +kernel) rfl
theorem k_1123 : Cond.instanceMethod yX9_less ∈ TT := tab_in 1123 (by decide +kernel) rfl
theorem k_1124 : Cond.selects RX9 yX9_less yX9_less ∈ TT := tab_in 1124 (by decide +kernel) rfl
set_option maxRecDepth 100000 in
theorem k_1125 : Cond.code yX9_less cX9_less 2 (some .int) ∈ TT := tab_in 1125 rfl rfl
theorem k_1127 : Cond.methodLink RL 133 yX9_find ∈ TT := tab_in 1127 (by decide +kernel) rfl
theorem k_1128 : Cond.instanceMethod yX9_find ∈ TT := tab_in 1128 (by decide +kernel) rfl
theorem k_1129 : Cond.selects RX9 yX9_find yX9_find ∈ TT := tab_in 1129 (by decide +kernel) rfl
theorem k_113 : Cond.methodLink RX1 3 objectInit ∈ TT := tab_in 113 (by decide +kernel) rfl
set_option maxRecDepth 100000 in
theorem k_1130 : Cond.code yX9_find cX9_find 4 (some .int) ∈ TT := tab_in 1130 rfl rfl
theorem k_1131 : Cond.methodLink RL 137 yX9_span ∈ TT := tab_in 1131 (by decide +kernel) rfl
theorem k_1132 : Cond.instanceMethod yX9_span ∈ TT := tab_in 1132 (by decide +kernel) rfl
theorem k_1133 : Cond.selects RX9 yX9_span yX9_span ∈ TT := tab_in 1133 (by decide +kernel) rfl
set_option maxRecDepth 100000 in
theorem k_1134 : Cond.code yX9_span cX9_span 6 (some .int) ∈ TT := tab_in 1134 rfl rfl
theorem k_1135 : Cond.methodLink RL 141 yX9_extreme ∈ TT := tab_in 1135 (by decide +kernel) rfl
theorem k_1136 : Cond.instanceMethod yX9_extreme ∈ TT := tab_in 1136 (by decide +kernel) rfl
theorem k_1137 : Cond.selects RX9 yX9_extreme yX9_extreme ∈ TT := tab_in 1137 (by decide +kernel) rfl
set_option maxRecDepth 100000 in
theorem k_1138 : Cond.code yX9_extreme cX9_extreme 8 (some .int) ∈ TT := tab_in 1138 rfl rfl
theorem k_1139 : Cond.methodLink RL 145 yX9_near ∈ TT := tab_in 1139 (by decide +kernel) rfl
theorem k_114 : Cond.classLink RX1 9 "[[J" ∈ TT := tab_in 114 (by decide +kernel) rfl
theorem k_1140 : Cond.instanceMethod yX9_near ∈ TT := tab_in 1140 (by decide +kernel) rfl
theorem k_1141 : Cond.selects RX9 yX9_near yX9_near ∈ TT := tab_in 1141 (by decide +kernel) rfl
set_option maxRecDepth 100000 in
theorem k_1142 : Cond.code yX9_near cX9_near 5 (some .int) ∈ TT := tab_in 1142 rfl rfl
theorem k_1143 : Cond.methodLink RL 149 yX9_count ∈ TT := tab_in 1143 (by decide +kernel) rfl
theorem k_1144 : Cond.instanceMethod yX9_count ∈ TT := tab_in 1144 (by decide +kernel) rfl
theorem k_1145 : Cond.selects RX9 yX9_count yX9_count ∈ TT := tab_in 1145 (by decide +kernel) rfl
set_option maxRecDepth 100000 in
theorem k_1146 : Cond.code yX9_count cX9_count 4 (some .int) ∈ TT := tab_in 1146 rfl rfl
theorem k_1147 : Cond.constantLong RL 45 4294967295 ∈ TT := tab_in 1147 (by decide +kernel) rfl
theorem k_131 : Cond.classLink RX2 25 RX5 ∈ TT := tab_in 131 (by decide +kernel) rfl
theorem k_132 : Cond.instantiable RX5 4 ∈ TT := tab_in 132 (by decide +kernel) rfl
theorem k_134 : Cond.instanceMethod yX5_init ∈ TT := tab_in 134 (by decide +kernel) rfl
set_option maxRecDepth 100000 in
theorem k_135 : Cond.code yX5_init cX5_init 1 none ∈ TT := tab_in 135 rfl rfl
theorem k_136 : Cond.methodLink RX5 3 objectInit ∈ TT := tab_in 136 (by decide +kernel) rfl
theorem k_14 : Cond.classLink RL 7 RX8 ∈ TT := tab_in 14 (by decide +kernel) rfl
theorem k_15 : Cond.instantiable RX8 8 ∈ TT := tab_in 15 (by decide +kernel) rfl
theorem k_150 : Cond.classLink RX2 40 RX0 ∈ TT := tab_in 150 (by decide +kernel) rfl
theorem k_151 : Cond.instantiable RX0 6 ∈ TT := tab_in 151 (by decide +kernel) rfl
theorem k_152 : Cond.methodLink RX2 42 yX0_init ∈ TT := tab_in 152 (by decide +kernel) rfl
theorem k_153 : Cond.instanceMethod yX0_init ∈ TT := tab_in 153 (by decide +kernel) rfl
set_option maxRecDepth 100000 in
theorem k_154 : Cond.code yX0_init cX0_init 3 none ∈ TT := tab_in 154 rfl rfl
theorem k_155 : Cond.methodLink RX0 3 objectInit ∈ TT := tab_in 155 (by decide +kernel) rfl
theorem k_16 : Cond.methodLink RL 9 yX8_init ∈ TT := tab_in 16 (by decide +kernel) rfl
theorem k_17 : Cond.instanceMethod yX8_init ∈ TT := tab_in 17 (by decide +kernel) rfl
set_option maxRecDepth 100000 in
theorem k_18 : Cond.code yX8_init cX8_init 1 none ∈ TT := tab_in 18 rfl rfl
theorem k_19 : Cond.methodLink RX8 1 objectInit ∈ TT := tab_in 19 (by decide +kernel) rfl
theorem k_198 : Cond.classLink RX8 25 RX4 ∈ TT := tab_in 198 (by decide +kernel) rfl
theorem k_199 : Cond.instantiable RX4 12 ∈ TT := tab_in 199 (by decide +kernel) rfl
theorem k_20 : Cond.instanceMethod objectInit ∈ TT := tab_in 20 (by decide +kernel) rfl
theorem k_200 : Cond.methodLink RX8 27 yX4_init ∈ TT := tab_in 200 (by decide +kernel) rfl
theorem k_201 : Cond.instanceMethod yX4_init ∈ TT := tab_in 201 (by decide +kernel) rfl
set_option maxRecDepth 100000 in
theorem k_202 : Cond.code yX4_init cX4_init 2 none ∈ TT := tab_in 202 rfl rfl
theorem k_203 : Cond.methodLink RX4 5 objectInit ∈ TT := tab_in 203 (by decide +kernel) rfl
theorem k_204 : Cond.classLink RX4 24 "[[I" ∈ TT := tab_in 204 (by decide +kernel) rfl
set_option maxRecDepth 100000 in
theorem k_21 : Cond.code objectInit ⟨#[0xb1]⟩ 1 none ∈ TT := tab_in 21 rfl rfl
theorem k_22 : Cond.classLink RX8 7 RX3 ∈ TT := tab_in 22 (by decide +kernel) rfl
theorem k_23 : Cond.instantiable RX3 8 ∈ TT := tab_in 23 (by decide +kernel) rfl
theorem k_24 : Cond.methodLink RX8 9 yX3_init ∈ TT := tab_in 24 (by decide +kernel) rfl
theorem k_243 : Cond.classLink RX8 32 RX6 ∈ TT := tab_in 243 (by decide +kernel) rfl
theorem k_244 : Cond.instantiable RX6 3 ∈ TT := tab_in 244 (by decide +kernel) rfl
theorem k_245 : Cond.methodLink RX8 34 yX6_init ∈ TT := tab_in 245 (by decide +kernel) rfl
theorem k_246 : Cond.instanceMethod yX6_init ∈ TT := tab_in 246 (by decide +kernel) rfl
set_option maxRecDepth 100000 in
theorem k_247 : Cond.code yX6_init cX6_init 1 none ∈ TT := tab_in 247 rfl rfl
theorem k_248 : Cond.methodLink RX6 1 objectInit ∈ TT := tab_in 248 (by decide +kernel) rfl
theorem k_249 : Cond.classLink RX6 9 "[[J" ∈ TT := tab_in 249 (by decide +kernel) rfl
theorem k_25 : Cond.instanceMethod yX3_init ∈ TT := tab_in 25 (by decide +kernel) rfl
theorem k_250 : Cond.methodLink RX6 21 yJ7_fill_53178 ∈ TT := tab_in 250 (by decide +kernel) rfl
set_option maxRecDepth 100000 in
theorem k_26 : Cond.code yX3_init cX3_init 1 none ∈ TT := tab_in 26 rfl rfl
theorem k_27 : Cond.methodLink RX3 3 objectInit ∈ TT := tab_in 27 (by decide +kernel) rfl
theorem k_28 : Cond.classLink RX3 9 "[[I" ∈ TT := tab_in 28 (by decide +kernel) rfl
theorem k_289 : Cond.methodLink RL 13 yX8_works ∈ TT := tab_in 289 (by decide +kernel) rfl
theorem k_290 : Cond.instanceMethod yX8_works ∈ TT := tab_in 290 (by decide +kernel) rfl
theorem k_291 : Cond.selects RX8 yX8_works yX8_works ∈ TT := tab_in 291 (by decide +kernel) rfl
set_option maxRecDepth 100000 in
theorem k_292 : Cond.code yX8_works cX8_works 2 (some .int) ∈ TT := tab_in 292 rfl rfl
theorem k_30 : Cond.methodLink RX3 32 yX3_begin ∈ TT := tab_in 30 (by decide +kernel) rfl
theorem k_303 : Cond.methodLink RL 18 yX8_equation ∈ TT := tab_in 303 (by decide +kernel) rfl
theorem k_304 : Cond.instanceMethod yX8_equation ∈ TT := tab_in 304 (by decide +kernel) rfl
theorem k_305 : Cond.selects RX8 yX8_equation yX8_equation ∈ TT := tab_in 305 (by decide +kernel) rfl
set_option maxRecDepth 100000 in
theorem k_306 : Cond.code yX8_equation cX8_equation 1 (some .int) ∈ TT := tab_in 306 rfl rfl
theorem k_311 : Cond.methodLink RL 23 yX8_put ∈ TT := tab_in 311 (by decide +kernel) rfl
theorem k_312 : Cond.instanceMethod yX8_put ∈ TT := tab_in 312 (by decide +kernel) rfl
theorem k_313 : Cond.selects RX8 yX8_put yX8_put ∈ TT := tab_in 313 (by decide +kernel) rfl
set_option maxRecDepth 100000 in
theorem k_314 : Cond.code yX8_put cX8_put 5 (some .int) ∈ TT := tab_in 314 rfl rfl
theorem k_327 : Cond.methodLink RL 28 yX8_right ∈ TT := tab_in 327 (by decide +kernel) rfl
theorem k_328 : Cond.instanceMethod yX8_right ∈ TT := tab_in 328 (by decide +kernel) rfl
theorem k_329 : Cond.selects RX8 yX8_right yX8_right ∈ TT := tab_in 329 (by decide +kernel) rfl
set_option maxRecDepth 100000 in
theorem k_330 : Cond.code yX8_right cX8_right 4 (some .int) ∈ TT := tab_in 330 rfl rfl
theorem k_331 : Cond.methodLink RL 33 yX8_bound ∈ TT := tab_in 331 (by decide +kernel) rfl
theorem k_332 : Cond.instanceMethod yX8_bound ∈ TT := tab_in 332 (by decide +kernel) rfl
theorem k_333 : Cond.selects RX8 yX8_bound yX8_bound ∈ TT := tab_in 333 (by decide +kernel) rfl
set_option maxRecDepth 100000 in
theorem k_334 : Cond.code yX8_bound cX8_bound 4 (some .int) ∈ TT := tab_in 334 rfl rfl
theorem k_335 : Cond.methodLink RL 37 yX8_price ∈ TT := tab_in 335 (by decide +kernel) rfl
theorem k_336 : Cond.instanceMethod yX8_price ∈ TT := tab_in 336 (by decide +kernel) rfl
theorem k_337 : Cond.selects RX8 yX8_price yX8_price ∈ TT := tab_in 337 (by decide +kernel) rfl
set_option maxRecDepth 100000 in
theorem k_338 : Cond.code yX8_price cX8_price 4 (some .int) ∈ TT := tab_in 338 rfl rfl
theorem k_339 : Cond.methodLink RL 41 yX8_tray ∈ TT := tab_in 339 (by decide +kernel) rfl
theorem k_340 : Cond.instanceMethod yX8_tray ∈ TT := tab_in 340 (by decide +kernel) rfl
theorem k_341 : Cond.selects RX8 yX8_tray yX8_tray ∈ TT := tab_in 341 (by decide +kernel) rfl
set_option maxRecDepth 100000 in
theorem k_342 : Cond.code yX8_tray cX8_tray 4 (some .int) ∈ TT := tab_in 342 rfl rfl
theorem k_354 : Cond.methodLink RL 47 yX8_cell ∈ TT := tab_in 354 (by decide +kernel) rfl
theorem k_355 : Cond.instanceMethod yX8_cell ∈ TT := tab_in 355 (by decide +kernel) rfl
theorem k_356 : Cond.selects RX8 yX8_cell yX8_cell ∈ TT := tab_in 356 (by decide +kernel) rfl
set_option maxRecDepth 100000 in
theorem k_357 : Cond.code yX8_cell cX8_cell 5 (some .int) ∈ TT := tab_in 357 rfl rfl
theorem k_366 : Cond.methodLink RL 52 yX8_copy ∈ TT := tab_in 366 (by decide +kernel) rfl
theorem k_367 : Cond.instanceMethod yX8_copy ∈ TT := tab_in 367 (by decide +kernel) rfl
theorem k_368 : Cond.selects RX8 yX8_copy yX8_copy ∈ TT := tab_in 368 (by decide +kernel) rfl
set_option maxRecDepth 100000 in
theorem k_369 : Cond.code yX8_copy cX8_copy 5 (some .int) ∈ TT := tab_in 369 rfl rfl
theorem k_373 : Cond.methodLink RL 57 yX8_lay ∈ TT := tab_in 373 (by decide +kernel) rfl
theorem k_374 : Cond.instanceMethod yX8_lay ∈ TT := tab_in 374 (by decide +kernel) rfl
theorem k_375 : Cond.selects RX8 yX8_lay yX8_lay ∈ TT := tab_in 375 (by decide +kernel) rfl
set_option maxRecDepth 100000 in
theorem k_376 : Cond.code yX8_lay cX8_lay 5 (some .int) ∈ TT := tab_in 376 rfl rfl
theorem k_383 : Cond.methodLink RL 61 yX8_least ∈ TT := tab_in 383 (by decide +kernel) rfl
theorem k_384 : Cond.instanceMethod yX8_least ∈ TT := tab_in 384 (by decide +kernel) rfl
theorem k_385 : Cond.selects RX8 yX8_least yX8_least ∈ TT := tab_in 385 (by decide +kernel) rfl
set_option maxRecDepth 100000 in
theorem k_386 : Cond.code yX8_least cX8_least 1 (some .int) ∈ TT := tab_in 386 rfl rfl
theorem k_535 : Cond.methodLink RL 65 yX8_step ∈ TT := tab_in 535 (by decide +kernel) rfl
theorem k_536 : Cond.instanceMethod yX8_step ∈ TT := tab_in 536 (by decide +kernel) rfl
theorem k_537 : Cond.selects RX8 yX8_step yX8_step ∈ TT := tab_in 537 (by decide +kernel) rfl
set_option maxRecDepth 100000 in
theorem k_538 : Cond.code yX8_step cX8_step 3 (some .int) ∈ TT := tab_in 538 rfl rfl
theorem k_545 : Cond.methodLink RL 69 yX8_kind ∈ TT := tab_in 545 (by decide +kernel) rfl
theorem k_546 : Cond.instanceMethod yX8_kind ∈ TT := tab_in 546 (by decide +kernel) rfl
theorem k_547 : Cond.selects RX8 yX8_kind yX8_kind ∈ TT := tab_in 547 (by decide +kernel) rfl
set_option maxRecDepth 100000 in
theorem k_548 : Cond.code yX8_kind cX8_kind 2 (some .int) ∈ TT := tab_in 548 rfl rfl
theorem k_553 : Cond.methodLink RL 73 yX8_back ∈ TT := tab_in 553 (by decide +kernel) rfl
theorem k_554 : Cond.instanceMethod yX8_back ∈ TT := tab_in 554 (by decide +kernel) rfl
theorem k_555 : Cond.selects RX8 yX8_back yX8_back ∈ TT := tab_in 555 (by decide +kernel) rfl
set_option maxRecDepth 100000 in
theorem k_556 : Cond.code yX8_back cX8_back 2 (some .int) ∈ TT := tab_in 556 rfl rfl
theorem k_557 : Cond.methodLink RL 77 yX8_hand ∈ TT := tab_in 557 (by decide +kernel) rfl
theorem k_558 : Cond.instanceMethod yX8_hand ∈ TT := tab_in 558 (by decide +kernel) rfl
theorem k_559 : Cond.selects RX8 yX8_hand yX8_hand ∈ TT := tab_in 559 (by decide +kernel) rfl
set_option maxRecDepth 100000 in
theorem k_560 : Cond.code yX8_hand cX8_hand 4 (some .int) ∈ TT := tab_in 560 rfl rfl
theorem k_561 : Cond.methodLink RL 81 yX8_has ∈ TT := tab_in 561 (by decide +kernel) rfl
theorem k_562 : Cond.instanceMethod yX8_has ∈ TT := tab_in 562 (by decide +kernel) rfl
theorem k_563 : Cond.selects RX8 yX8_has yX8_has ∈ TT := tab_in 563 (by decide +kernel) rfl
set_option maxRecDepth 100000 in
theorem k_564 : Cond.code yX8_has cX8_has 2 (some .int) ∈ TT := tab_in 564 rfl rfl
theorem k_565 : Cond.methodLink RL 85 yX8_what ∈ TT := tab_in 565 (by decide +kernel) rfl
theorem k_566 : Cond.instanceMethod yX8_what ∈ TT := tab_in 566 (by decide +kernel) rfl
theorem k_567 : Cond.selects RX8 yX8_what yX8_what ∈ TT := tab_in 567 (by decide +kernel) rfl
set_option maxRecDepth 100000 in
theorem k_568 : Cond.code yX8_what cX8_what 1 (some .int) ∈ TT := tab_in 568 rfl rfl
theorem k_581 : Cond.methodLink RL 89 yX8_fits ∈ TT := tab_in 581 (by decide +kernel) rfl
theorem k_582 : Cond.instanceMethod yX8_fits ∈ TT := tab_in 582 (by decide +kernel) rfl
theorem k_583 : Cond.selects RX8 yX8_fits yX8_fits ∈ TT := tab_in 583 (by decide +kernel) rfl
set_option maxRecDepth 100000 in
theorem k_584 : Cond.code yX8_fits cX8_fits 2 (some .int) ∈ TT := tab_in 584 rfl rfl
theorem k_591 : Cond.methodLink RL 93 yX8_split ∈ TT := tab_in 591 (by decide +kernel) rfl
theorem k_592 : Cond.instanceMethod yX8_split ∈ TT := tab_in 592 (by decide +kernel) rfl
theorem k_593 : Cond.selects RX8 yX8_split yX8_split ∈ TT := tab_in 593 (by decide +kernel) rfl
set_option maxRecDepth 100000 in
theorem k_594 : Cond.code yX8_split cX8_split 2 (some .int) ∈ TT := tab_in 594 rfl rfl
theorem k_603 : Cond.methodLink RL 97 yX8_add ∈ TT := tab_in 603 (by decide +kernel) rfl
theorem k_604 : Cond.instanceMethod yX8_add ∈ TT := tab_in 604 (by decide +kernel) rfl
theorem k_605 : Cond.selects RX8 yX8_add yX8_add ∈ TT := tab_in 605 (by decide +kernel) rfl
set_option maxRecDepth 100000 in
theorem k_606 : Cond.code yX8_add cX8_add 4 (some .int) ∈ TT := tab_in 606 rfl rfl
theorem k_613 : Cond.methodLink RL 101 yX8_cost ∈ TT := tab_in 613 (by decide +kernel) rfl
theorem k_614 : Cond.instanceMethod yX8_cost ∈ TT := tab_in 614 (by decide +kernel) rfl
theorem k_615 : Cond.selects RX8 yX8_cost yX8_cost ∈ TT := tab_in 615 (by decide +kernel) rfl
set_option maxRecDepth 100000 in
theorem k_616 : Cond.code yX8_cost cX8_cost 1 (some .long) ∈ TT := tab_in 616 rfl rfl
theorem k_625 : Cond.methodLink RL 106 yX8_better ∈ TT := tab_in 625 (by decide +kernel) rfl
theorem k_626 : Cond.instanceMethod yX8_better ∈ TT := tab_in 626 (by decide +kernel) rfl
theorem k_627 : Cond.selects RX8 yX8_better yX8_better ∈ TT := tab_in 627 (by decide +kernel) rfl
set_option maxRecDepth 100000 in
theorem k_628 : Cond.code yX8_better cX8_better 1 (some .int) ∈ TT := tab_in 628 rfl rfl
theorem k_646 : Cond.methodLink RL 110 yX8_best ∈ TT := tab_in 646 (by decide +kernel) rfl
theorem k_647 : Cond.instanceMethod yX8_best ∈ TT := tab_in 647 (by decide +kernel) rfl
theorem k_648 : Cond.selects RX8 yX8_best yX8_best ∈ TT := tab_in 648 (by decide +kernel) rfl
set_option maxRecDepth 100000 in
theorem k_649 : Cond.code yX8_best cX8_best 3 (some .int) ∈ TT := tab_in 649 rfl rfl
theorem k_651 : Cond.methodLink RL 114 yX8_plans ∈ TT := tab_in 651 (by decide +kernel) rfl
theorem k_652 : Cond.instanceMethod yX8_plans ∈ TT := tab_in 652 (by decide +kernel) rfl
theorem k_653 : Cond.selects RX8 yX8_plans yX8_plans ∈ TT := tab_in 653 (by decide +kernel) rfl
set_option maxRecDepth 100000 in
theorem k_654 : Cond.code yX8_plans cX8_plans 1 (some .int) ∈ TT := tab_in 654 rfl rfl
theorem k_696 : Cond.methodLink RL 118 yX8_plan ∈ TT := tab_in 696 (by decide +kernel) rfl
theorem k_697 : Cond.instanceMethod yX8_plan ∈ TT := tab_in 697 (by decide +kernel) rfl
theorem k_698 : Cond.selects RX8 yX8_plan yX8_plan ∈ TT := tab_in 698 (by decide +kernel) rfl
set_option maxRecDepth 100000 in
theorem k_699 : Cond.code yX8_plan cX8_plan 3 (some .int) ∈ TT := tab_in 699 rfl rfl
theorem k_714 : Cond.methodLink RL 122 yX8_take ∈ TT := tab_in 714 (by decide +kernel) rfl
theorem k_715 : Cond.instanceMethod yX8_take ∈ TT := tab_in 715 (by decide +kernel) rfl
theorem k_716 : Cond.selects RX8 yX8_take yX8_take ∈ TT := tab_in 716 (by decide +kernel) rfl
set_option maxRecDepth 100000 in
theorem k_717 : Cond.code yX8_take cX8_take 2 (some .int) ∈ TT := tab_in 717 rfl rfl
theorem k_718 : Cond.methodLink RL 126 yX8_less ∈ TT := tab_in 718 (by decide +kernel) rfl
theorem k_719 : Cond.instanceMethod yX8_less ∈ TT := tab_in 719 (by decide +kernel) rfl
theorem k_720 : Cond.selects RX8 yX8_less yX8_less ∈ TT := tab_in 720 (by decide +kernel) rfl
set_option maxRecDepth 100000 in
theorem k_721 : Cond.code yX8_less cX8_less 3 (some .int) ∈ TT := tab_in 721 rfl rfl
theorem k_722 : Cond.methodLink RL 130 yX8_find ∈ TT := tab_in 722 (by decide +kernel) rfl
theorem k_723 : Cond.instanceMethod yX8_find ∈ TT := tab_in 723 (by decide +kernel) rfl
theorem k_724 : Cond.selects RX8 yX8_find yX8_find ∈ TT := tab_in 724 (by decide +kernel) rfl
set_option maxRecDepth 100000 in
theorem k_725 : Cond.code yX8_find cX8_find 1 (some .int) ∈ TT := tab_in 725 rfl rfl
theorem k_734 : Cond.methodLink RL 134 yX8_span ∈ TT := tab_in 734 (by decide +kernel) rfl
theorem k_735 : Cond.instanceMethod yX8_span ∈ TT := tab_in 735 (by decide +kernel) rfl
theorem k_736 : Cond.selects RX8 yX8_span yX8_span ∈ TT := tab_in 736 (by decide +kernel) rfl
set_option maxRecDepth 100000 in
theorem k_737 : Cond.code yX8_span cX8_span 3 (some .int) ∈ TT := tab_in 737 rfl rfl
theorem k_750 : Cond.methodLink RL 138 yX8_extreme ∈ TT := tab_in 750 (by decide +kernel) rfl
theorem k_751 : Cond.instanceMethod yX8_extreme ∈ TT := tab_in 751 (by decide +kernel) rfl
theorem k_752 : Cond.selects RX8 yX8_extreme yX8_extreme ∈ TT := tab_in 752 (by decide +kernel) rfl
set_option maxRecDepth 100000 in
theorem k_753 : Cond.code yX8_extreme cX8_extreme 2 (some .int) ∈ TT := tab_in 753 rfl rfl
theorem k_764 : Cond.methodLink RL 142 yX8_near ∈ TT := tab_in 764 (by decide +kernel) rfl
theorem k_765 : Cond.instanceMethod yX8_near ∈ TT := tab_in 765 (by decide +kernel) rfl
theorem k_766 : Cond.selects RX8 yX8_near yX8_near ∈ TT := tab_in 766 (by decide +kernel) rfl
set_option maxRecDepth 100000 in
theorem k_767 : Cond.code yX8_near cX8_near 5 (some .int) ∈ TT := tab_in 767 rfl rfl
theorem k_768 : Cond.methodLink RL 146 yX8_count ∈ TT := tab_in 768 (by decide +kernel) rfl
theorem k_769 : Cond.instanceMethod yX8_count ∈ TT := tab_in 769 (by decide +kernel) rfl
theorem k_770 : Cond.selects RX8 yX8_count yX8_count ∈ TT := tab_in 770 (by decide +kernel) rfl
set_option maxRecDepth 100000 in
theorem k_771 : Cond.code yX8_count cX8_count 2 (some .int) ∈ TT := tab_in 771 rfl rfl
theorem k_782 : Cond.classLink RL 10 RX9 ∈ TT := tab_in 782 (by decide +kernel) rfl
theorem k_783 : Cond.instantiable RX9 36 ∈ TT := tab_in 783 (by decide +kernel) rfl
theorem k_784 : Cond.methodLink RL 12 yX9_init ∈ TT := tab_in 784 (by decide +kernel) rfl
theorem k_785 : Cond.instanceMethod yX9_init ∈ TT := tab_in 785 (by decide +kernel) rfl
set_option maxRecDepth 100000 in
theorem k_786 : Cond.code yX9_init cX9_init 2 none ∈ TT := tab_in 786 rfl rfl
theorem k_787 : Cond.methodLink RX9 1 objectInit ∈ TT := tab_in 787 (by decide +kernel) rfl
theorem k_788 : Cond.constant RX9 51 400000 ∈ TT := tab_in 788 (by decide +kernel) rfl
theorem k_789 : Cond.constant RX9 55 100000 ∈ TT := tab_in 789 (by decide +kernel) rfl
theorem k_790 : Cond.constant RX9 95 777924 ∈ TT := tab_in 790 (by decide +kernel) rfl
theorem k_87 : Cond.arrayClass .int ∈ TT := tab_in 87 (by decide +kernel) rfl
theorem k_88 : Cond.classLink RX8 16 RX2 ∈ TT := tab_in 88 (by decide +kernel) rfl
theorem k_89 : Cond.instantiable RX2 7 ∈ TT := tab_in 89 (by decide +kernel) rfl
theorem k_90 : Cond.methodLink RX8 18 yX2_init ∈ TT := tab_in 90 (by decide +kernel) rfl
theorem k_904 : Cond.methodLink RL 17 yX9_works ∈ TT := tab_in 904 (by decide +kernel) rfl
theorem k_905 : Cond.instanceMethod yX9_works ∈ TT := tab_in 905 (by decide +kernel) rfl
theorem k_906 : Cond.selects RX9 yX9_works yX9_works ∈ TT := tab_in 906 (by decide +kernel) rfl
set_option maxRecDepth 100000 in
theorem k_907 : Cond.code yX9_works cX9_works 2 (some .int) ∈ TT := tab_in 907 rfl rfl
theorem k_91 : Cond.instanceMethod yX2_init ∈ TT := tab_in 91 (by decide +kernel) rfl
theorem k_912 : Cond.methodLink RL 22 yX9_equation ∈ TT := tab_in 912 (by decide +kernel) rfl
theorem k_913 : Cond.instanceMethod yX9_equation ∈ TT := tab_in 913 (by decide +kernel) rfl
theorem k_914 : Cond.selects RX9 yX9_equation yX9_equation ∈ TT := tab_in 914 (by decide +kernel) rfl
set_option maxRecDepth 100000 in
theorem k_915 : Cond.code yX9_equation cX9_equation 2 (some .int) ∈ TT := tab_in 915 rfl rfl
theorem k_916 : Cond.methodLink RL 27 yX9_put ∈ TT := tab_in 916 (by decide +kernel) rfl
theorem k_917 : Cond.instanceMethod yX9_put ∈ TT := tab_in 917 (by decide +kernel) rfl
theorem k_918 : Cond.selects RX9 yX9_put yX9_put ∈ TT := tab_in 918 (by decide +kernel) rfl
set_option maxRecDepth 100000 in
theorem k_919 : Cond.code yX9_put cX9_put 5 (some .int) ∈ TT := tab_in 919 rfl rfl
set_option maxRecDepth 100000 in
theorem k_92 : Cond.code yX2_init cX2_init 2 none ∈ TT := tab_in 92 rfl rfl
theorem k_923 : Cond.methodLink RL 32 yX9_right ∈ TT := tab_in 923 (by decide +kernel) rfl
theorem k_924 : Cond.instanceMethod yX9_right ∈ TT := tab_in 924 (by decide +kernel) rfl
theorem k_925 : Cond.selects RX9 yX9_right yX9_right ∈ TT := tab_in 925 (by decide +kernel) rfl
set_option maxRecDepth 100000 in
theorem k_926 : Cond.code yX9_right cX9_right 4 (some .int) ∈ TT := tab_in 926 rfl rfl
theorem k_927 : Cond.methodLink RL 36 yX9_bound ∈ TT := tab_in 927 (by decide +kernel) rfl
theorem k_928 : Cond.instanceMethod yX9_bound ∈ TT := tab_in 928 (by decide +kernel) rfl
theorem k_929 : Cond.selects RX9 yX9_bound yX9_bound ∈ TT := tab_in 929 (by decide +kernel) rfl
theorem k_93 : Cond.methodLink RX2 3 objectInit ∈ TT := tab_in 93 (by decide +kernel) rfl
set_option maxRecDepth 100000 in
theorem k_930 : Cond.code yX9_bound cX9_bound 4 (some .int) ∈ TT := tab_in 930 rfl rfl
theorem k_931 : Cond.methodLink RL 40 yX9_price ∈ TT := tab_in 931 (by decide +kernel) rfl
theorem k_932 : Cond.instanceMethod yX9_price ∈ TT := tab_in 932 (by decide +kernel) rfl
theorem k_933 : Cond.selects RX9 yX9_price yX9_price ∈ TT := tab_in 933 (by decide +kernel) rfl
set_option maxRecDepth 100000 in
theorem k_934 : Cond.code yX9_price cX9_price 4 (some .int) ∈ TT := tab_in 934 rfl rfl
theorem k_935 : Cond.methodLink RL 44 yX9_tray ∈ TT := tab_in 935 (by decide +kernel) rfl
theorem k_936 : Cond.instanceMethod yX9_tray ∈ TT := tab_in 936 (by decide +kernel) rfl
theorem k_937 : Cond.selects RX9 yX9_tray yX9_tray ∈ TT := tab_in 937 (by decide +kernel) rfl
set_option maxRecDepth 100000 in
theorem k_938 : Cond.code yX9_tray cX9_tray 5 (some .int) ∈ TT := tab_in 938 rfl rfl
theorem k_939 : Cond.methodLink RL 51 yX9_cell ∈ TT := tab_in 939 (by decide +kernel) rfl
theorem k_94 : Cond.classLink RX2 9 RX7 ∈ TT := tab_in 94 (by decide +kernel) rfl
theorem k_940 : Cond.instanceMethod yX9_cell ∈ TT := tab_in 940 (by decide +kernel) rfl
theorem k_941 : Cond.selects RX9 yX9_cell yX9_cell ∈ TT := tab_in 941 (by decide +kernel) rfl
set_option maxRecDepth 100000 in
theorem k_942 : Cond.code yX9_cell cX9_cell 6 (some .int) ∈ TT := tab_in 942 rfl rfl
theorem k_943 : Cond.methodLink RL 56 yX9_copy ∈ TT := tab_in 943 (by decide +kernel) rfl
theorem k_944 : Cond.instanceMethod yX9_copy ∈ TT := tab_in 944 (by decide +kernel) rfl
theorem k_945 : Cond.selects RX9 yX9_copy yX9_copy ∈ TT := tab_in 945 (by decide +kernel) rfl
set_option maxRecDepth 100000 in
theorem k_946 : Cond.code yX9_copy cX9_copy 6 (some .int) ∈ TT := tab_in 946 rfl rfl
theorem k_947 : Cond.methodLink RL 60 yX9_lay ∈ TT := tab_in 947 (by decide +kernel) rfl
theorem k_948 : Cond.instanceMethod yX9_lay ∈ TT := tab_in 948 (by decide +kernel) rfl
theorem k_949 : Cond.selects RX9 yX9_lay yX9_lay ∈ TT := tab_in 949 (by decide +kernel) rfl
theorem k_95 : Cond.instantiable RX7 2 ∈ TT := tab_in 95 (by decide +kernel) rfl
set_option maxRecDepth 100000 in
theorem k_950 : Cond.code yX9_lay cX9_lay 9 (some .int) ∈ TT := tab_in 950 rfl rfl
theorem k_953 : Cond.methodLink RL 64 yX9_least ∈ TT := tab_in 953 (by decide +kernel) rfl
theorem k_954 : Cond.instanceMethod yX9_least ∈ TT := tab_in 954 (by decide +kernel) rfl
theorem k_955 : Cond.selects RX9 yX9_least yX9_least ∈ TT := tab_in 955 (by decide +kernel) rfl
set_option maxRecDepth 100000 in
theorem k_956 : Cond.code yX9_least cX9_least 1 (some .int) ∈ TT := tab_in 956 rfl rfl
theorem k_97 : Cond.instanceMethod yX7_init ∈ TT := tab_in 97 (by decide +kernel) rfl
set_option maxRecDepth 100000 in
theorem k_98 : Cond.code yX7_init cX7_init 1 none ∈ TT := tab_in 98 rfl rfl
theorem k_99 : Cond.methodLink RX7 5 objectInit ∈ TT := tab_in 99 (by decide +kernel) rfl
theorem ci_RL_12 : CI RL 12 yX9_init cX9_init 2 0 := ⟨k_784, k_785, k_11, k_786, rfl, by decide +kernel⟩
theorem ci_RL_9 : CI RL 9 yX8_init cX8_init 1 0 := ⟨k_16, k_17, k_1, k_18, rfl, by decide +kernel⟩
theorem ci_RX2_42 : CI RX2 42 yX0_init cX0_init 3 2 := ⟨k_152, k_153, k_8, k_154, rfl, by decide +kernel⟩
theorem ci_RX8_18 : CI RX8 18 yX2_init cX2_init 2 1 := ⟨k_90, k_91, k_4, k_92, rfl, by decide +kernel⟩
theorem ci_RX8_27 : CI RX8 27 yX4_init cX4_init 2 1 := ⟨k_200, k_201, k_9, k_202, rfl, by decide +kernel⟩
theorem ci_RX8_34 : CI RX8 34 yX6_init cX6_init 1 0 := ⟨k_245, k_246, k_10, k_247, rfl, by decide +kernel⟩
theorem ci_RX8_9 : CI RX8 9 yX3_init cX3_init 1 0 := ⟨k_24, k_25, k_2, k_26, rfl, by decide +kernel⟩
theorem cn_RX2_11 : CN yX7_init cX7_init 1 0 := ⟨k_97, k_5, k_98, rfl, by decide +kernel⟩
theorem cn_RX2_20 : CN yX1_init cX1_init 1 0 := ⟨k_111, k_6, k_112, rfl, by decide +kernel⟩
theorem cn_RX2_27 : CN yX5_init cX5_init 1 0 := ⟨k_134, k_7, k_135, rfl, by decide +kernel⟩
theorem cs_RX6_21 : CSt RX6 21 yJ7_fill_53178 cJ7_fill_53178 4 none 2 := ⟨k_250, k_35, k_3, k_36, by decide +kernel⟩
theorem cv_RL_100 : CV RL 100 RX9 yX9_add cX9_add 3 (some .int) 2 := ⟨k_1071, k_1072, k_1073, k_11, k_1074, by decide +kernel⟩
theorem cv_RL_101 : CV RL 101 RX8 yX8_cost cX8_cost 1 (some .long) 0 := ⟨k_613, k_614, k_615, k_1, k_616, by decide +kernel⟩
theorem cv_RL_105 : CV RL 105 RX9 yX9_cost cX9_cost 1 (some .long) 0 := ⟨k_1081, k_1082, k_1083, k_11, k_1084, by decide +kernel⟩
theorem cv_RL_106 : CV RL 106 RX8 yX8_better cX8_better 1 (some .int) 0 := ⟨k_625, k_626, k_627, k_1, k_628, by decide +kernel⟩
theorem cv_RL_109 : CV RL 109 RX9 yX9_better cX9_better 1 (some .int) 0 := ⟨k_1089, k_1090, k_1091, k_11, k_1092, by decide +kernel⟩
theorem cv_RL_110 : CV RL 110 RX8 yX8_best cX8_best 3 (some .int) 0 := ⟨k_646, k_647, k_648, k_1, k_649, by decide +kernel⟩
theorem cv_RL_113 : CV RL 113 RX9 yX9_best cX9_best 2 (some .int) 0 := ⟨k_1098, k_1099, k_1100, k_11, k_1101, by decide +kernel⟩
theorem cv_RL_114 : CV RL 114 RX8 yX8_plans cX8_plans 1 (some .int) 0 := ⟨k_651, k_652, k_653, k_1, k_654, by decide +kernel⟩
theorem cv_RL_117 : CV RL 117 RX9 yX9_plans cX9_plans 1 (some .int) 0 := ⟨k_1102, k_1103, k_1104, k_11, k_1105, by decide +kernel⟩
theorem cv_RL_118 : CV RL 118 RX8 yX8_plan cX8_plan 3 (some .int) 2 := ⟨k_696, k_697, k_698, k_1, k_699, by decide +kernel⟩
theorem cv_RL_121 : CV RL 121 RX9 yX9_plan cX9_plan 3 (some .int) 2 := ⟨k_1114, k_1115, k_1116, k_11, k_1117, by decide +kernel⟩
theorem cv_RL_122 : CV RL 122 RX8 yX8_take cX8_take 2 (some .int) 1 := ⟨k_714, k_715, k_716, k_1, k_717, by decide +kernel⟩
theorem cv_RL_125 : CV RL 125 RX9 yX9_take cX9_take 3 (some .int) 1 := ⟨k_1118, k_1119, k_1120, k_11, k_1121, by decide +kernel⟩
theorem cv_RL_126 : CV RL 126 RX8 yX8_less cX8_less 3 (some .int) 1 := ⟨k_718, k_719, k_720, k_1, k_721, by decide +kernel⟩
theorem cv_RL_129 : CV RL 129 RX9 yX9_less cX9_less 2 (some .int) 1 := ⟨k_1122, k_1123, k_1124, k_11, k_1125, by decide +kernel⟩
theorem cv_RL_13 : CV RL 13 RX8 yX8_works cX8_works 2 (some .int) 1 := ⟨k_289, k_290, k_291, k_1, k_292, by decide +kernel⟩
theorem cv_RL_130 : CV RL 130 RX8 yX8_find cX8_find 1 (some .int) 0 := ⟨k_722, k_723, k_724, k_1, k_725, by decide +kernel⟩
theorem cv_RL_133 : CV RL 133 RX9 yX9_find cX9_find 4 (some .int) 0 := ⟨k_1127, k_1128, k_1129, k_11, k_1130, by decide +kernel⟩
theorem cv_RL_134 : CV RL 134 RX8 yX8_span cX8_span 3 (some .int) 2 := ⟨k_734, k_735, k_736, k_1, k_737, by decide +kernel⟩
theorem cv_RL_137 : CV RL 137 RX9 yX9_span cX9_span 6 (some .int) 2 := ⟨k_1131, k_1132, k_1133, k_11, k_1134, by decide +kernel⟩
theorem cv_RL_138 : CV RL 138 RX8 yX8_extreme cX8_extreme 2 (some .int) 1 := ⟨k_750, k_751, k_752, k_1, k_753, by decide +kernel⟩
theorem cv_RL_141 : CV RL 141 RX9 yX9_extreme cX9_extreme 8 (some .int) 1 := ⟨k_1135, k_1136, k_1137, k_11, k_1138, by decide +kernel⟩
theorem cv_RL_142 : CV RL 142 RX8 yX8_near cX8_near 5 (some .int) 1 := ⟨k_764, k_765, k_766, k_1, k_767, by decide +kernel⟩
theorem cv_RL_145 : CV RL 145 RX9 yX9_near cX9_near 5 (some .int) 1 := ⟨k_1139, k_1140, k_1141, k_11, k_1142, by decide +kernel⟩
theorem cv_RL_146 : CV RL 146 RX8 yX8_count cX8_count 2 (some .int) 1 := ⟨k_768, k_769, k_770, k_1, k_771, by decide +kernel⟩
theorem cv_RL_149 : CV RL 149 RX9 yX9_count cX9_count 4 (some .int) 1 := ⟨k_1143, k_1144, k_1145, k_11, k_1146, by decide +kernel⟩
theorem cv_RL_17 : CV RL 17 RX9 yX9_works cX9_works 2 (some .int) 1 := ⟨k_904, k_905, k_906, k_11, k_907, by decide +kernel⟩
theorem cv_RL_18 : CV RL 18 RX8 yX8_equation cX8_equation 1 (some .int) 0 := ⟨k_303, k_304, k_305, k_1, k_306, by decide +kernel⟩
theorem cv_RL_22 : CV RL 22 RX9 yX9_equation cX9_equation 2 (some .int) 0 := ⟨k_912, k_913, k_914, k_11, k_915, by decide +kernel⟩
theorem cv_RL_23 : CV RL 23 RX8 yX8_put cX8_put 5 (some .int) 3 := ⟨k_311, k_312, k_313, k_1, k_314, by decide +kernel⟩
theorem cv_RL_27 : CV RL 27 RX9 yX9_put cX9_put 5 (some .int) 3 := ⟨k_916, k_917, k_918, k_11, k_919, by decide +kernel⟩
theorem cv_RL_28 : CV RL 28 RX8 yX8_right cX8_right 4 (some .int) 2 := ⟨k_327, k_328, k_329, k_1, k_330, by decide +kernel⟩
theorem cv_RL_32 : CV RL 32 RX9 yX9_right cX9_right 4 (some .int) 2 := ⟨k_923, k_924, k_925, k_11, k_926, by decide +kernel⟩
theorem cv_RL_33 : CV RL 33 RX8 yX8_bound cX8_bound 4 (some .int) 3 := ⟨k_331, k_332, k_333, k_1, k_334, by decide +kernel⟩
theorem cv_RL_36 : CV RL 36 RX9 yX9_bound cX9_bound 4 (some .int) 3 := ⟨k_927, k_928, k_929, k_11, k_930, by decide +kernel⟩
theorem cv_RL_37 : CV RL 37 RX8 yX8_price cX8_price 4 (some .int) 3 := ⟨k_335, k_336, k_337, k_1, k_338, by decide +kernel⟩
theorem cv_RL_40 : CV RL 40 RX9 yX9_price cX9_price 4 (some .int) 3 := ⟨k_931, k_932, k_933, k_11, k_934, by decide +kernel⟩
theorem cv_RL_41 : CV RL 41 RX8 yX8_tray cX8_tray 4 (some .int) 3 := ⟨k_339, k_340, k_341, k_1, k_342, by decide +kernel⟩
theorem cv_RL_44 : CV RL 44 RX9 yX9_tray cX9_tray 5 (some .int) 3 := ⟨k_935, k_936, k_937, k_11, k_938, by decide +kernel⟩
theorem cv_RL_47 : CV RL 47 RX8 yX8_cell cX8_cell 5 (some .int) 3 := ⟨k_354, k_355, k_356, k_1, k_357, by decide +kernel⟩
theorem cv_RL_51 : CV RL 51 RX9 yX9_cell cX9_cell 6 (some .int) 3 := ⟨k_939, k_940, k_941, k_11, k_942, by decide +kernel⟩
theorem cv_RL_52 : CV RL 52 RX8 yX8_copy cX8_copy 5 (some .int) 4 := ⟨k_366, k_367, k_368, k_1, k_369, by decide +kernel⟩
theorem cv_RL_56 : CV RL 56 RX9 yX9_copy cX9_copy 6 (some .int) 4 := ⟨k_943, k_944, k_945, k_11, k_946, by decide +kernel⟩
theorem cv_RL_57 : CV RL 57 RX8 yX8_lay cX8_lay 5 (some .int) 3 := ⟨k_373, k_374, k_375, k_1, k_376, by decide +kernel⟩
theorem cv_RL_60 : CV RL 60 RX9 yX9_lay cX9_lay 9 (some .int) 3 := ⟨k_947, k_948, k_949, k_11, k_950, by decide +kernel⟩
theorem cv_RL_61 : CV RL 61 RX8 yX8_least cX8_least 1 (some .int) 0 := ⟨k_383, k_384, k_385, k_1, k_386, by decide +kernel⟩
theorem cv_RL_64 : CV RL 64 RX9 yX9_least cX9_least 1 (some .int) 0 := ⟨k_953, k_954, k_955, k_11, k_956, by decide +kernel⟩
theorem cv_RL_65 : CV RL 65 RX8 yX8_step cX8_step 3 (some .int) 2 := ⟨k_535, k_536, k_537, k_1, k_538, by decide +kernel⟩
theorem cv_RL_68 : CV RL 68 RX9 yX9_step cX9_step 3 (some .int) 2 := ⟨k_1006, k_1007, k_1008, k_11, k_1009, by decide +kernel⟩
theorem cv_RL_69 : CV RL 69 RX8 yX8_kind cX8_kind 2 (some .int) 1 := ⟨k_545, k_546, k_547, k_1, k_548, by decide +kernel⟩
theorem cv_RL_72 : CV RL 72 RX9 yX9_kind cX9_kind 2 (some .int) 1 := ⟨k_1015, k_1016, k_1017, k_11, k_1018, by decide +kernel⟩
theorem cv_RL_73 : CV RL 73 RX8 yX8_back cX8_back 2 (some .int) 1 := ⟨k_553, k_554, k_555, k_1, k_556, by decide +kernel⟩
theorem cv_RL_76 : CV RL 76 RX9 yX9_back cX9_back 5 (some .int) 1 := ⟨k_1023, k_1024, k_1025, k_11, k_1026, by decide +kernel⟩
theorem cv_RL_77 : CV RL 77 RX8 yX8_hand cX8_hand 4 (some .int) 2 := ⟨k_557, k_558, k_559, k_1, k_560, by decide +kernel⟩
theorem cv_RL_80 : CV RL 80 RX9 yX9_hand cX9_hand 4 (some .int) 2 := ⟨k_1027, k_1028, k_1029, k_11, k_1030, by decide +kernel⟩
theorem cv_RL_81 : CV RL 81 RX8 yX8_has cX8_has 2 (some .int) 1 := ⟨k_561, k_562, k_563, k_1, k_564, by decide +kernel⟩
theorem cv_RL_84 : CV RL 84 RX9 yX9_has cX9_has 2 (some .int) 1 := ⟨k_1031, k_1032, k_1033, k_11, k_1034, by decide +kernel⟩
theorem cv_RL_85 : CV RL 85 RX8 yX8_what cX8_what 1 (some .int) 0 := ⟨k_565, k_566, k_567, k_1, k_568, by decide +kernel⟩
theorem cv_RL_88 : CV RL 88 RX9 yX9_what cX9_what 1 (some .int) 0 := ⟨k_1035, k_1036, k_1037, k_11, k_1038, by decide +kernel⟩
theorem cv_RL_89 : CV RL 89 RX8 yX8_fits cX8_fits 2 (some .int) 1 := ⟨k_581, k_582, k_583, k_1, k_584, by decide +kernel⟩
theorem cv_RL_92 : CV RL 92 RX9 yX9_fits cX9_fits 2 (some .int) 1 := ⟨k_1051, k_1052, k_1053, k_11, k_1054, by decide +kernel⟩
theorem cv_RL_93 : CV RL 93 RX8 yX8_split cX8_split 2 (some .int) 1 := ⟨k_591, k_592, k_593, k_1, k_594, by decide +kernel⟩
theorem cv_RL_96 : CV RL 96 RX9 yX9_split cX9_split 2 (some .int) 1 := ⟨k_1063, k_1064, k_1065, k_11, k_1066, by decide +kernel⟩
theorem cv_RL_97 : CV RL 97 RX8 yX8_add cX8_add 4 (some .int) 2 := ⟨k_603, k_604, k_605, k_1, k_606, by decide +kernel⟩
theorem cv_RX3_32 : CV RX3 32 RX3 yX3_begin cX3_begin 2 none 1 := ⟨k_30, k_31, k_32, k_2, k_33, by decide +kernel⟩
