theorem k_1010 : Cond.methodLink RX9 183 yX9_at ∈ TT := tab_in 1010 (by decide +kernel) rfl
theorem k_1012 : Cond.instanceMethod yX9_at ∈ TT := tab_in 1012 (by decide +kernel) rfl
set_option maxRecDepth 100000 in
theorem k_1013 : Cond.code yX9_at cX9_at 3 (some .int) ∈ TT := tab_in 1013 rfl rfl
theorem k_1014 : Cond.constant RX9 187 (-99999) ∈ TT := tab_in 1014 (by decide +kernel) rfl
theorem k_1039 : Cond.methodLink RX9 195 yX9_isStep ∈ TT := tab_in 1039 (by decide +kernel) rfl
theorem k_1041 : Cond.instanceMethod yX9_isStep ∈ TT := tab_in 1041 (by decide +kernel) rfl
set_option maxRecDepth 100000 in
theorem k_1042 : Cond.code yX9_isStep cX9_isStep 3 (some .boolean) ∈ TT := tab_in 1042 rfl rfl
theorem k_1043 : Cond.methodLink RX9 191 yX9_sum ∈ TT := tab_in 1043 (by decide +kernel) rfl
theorem k_1045 : Cond.instanceMethod yX9_sum ∈ TT := tab_in 1045 (by decide +kernel) rfl
set_option maxRecDepth 100000 in
theorem k_1046 : Cond.code yX9_sum cX9_sum 6 (some .int) ∈ TT := tab_in 1046 rfl rfl
theorem k_1047 : Cond.methodLink RX9 199 yX9_isPlan ∈ TT := tab_in 1047 (by decide +kernel) rfl
theorem k_1049 : Cond.instanceMethod yX9_isPlan ∈ TT := tab_in 1049 (by decide +kernel) rfl
set_option maxRecDepth 100000 in
theorem k_1050 : Cond.code yX9_isPlan cX9_isPlan 5 (some .boolean) ∈ TT := tab_in 1050 rfl rfl
theorem k_1085 : Cond.methodLink RX9 220 yX9_costOf ∈ TT := tab_in 1085 (by decide +kernel) rfl
theorem k_1087 : Cond.instanceMethod yX9_costOf ∈ TT := tab_in 1087 (by decide +kernel) rfl
set_option maxRecDepth 100000 in
theorem k_1088 : Cond.code yX9_costOf cX9_costOf 6 (some .long) ∈ TT := tab_in 1088 rfl rfl
theorem k_11 : Cond.initialized RX9 ∈ TT := tab_in 11 (by decide +kernel) rfl
theorem k_791 : Cond.methodLink RX9 99 yX9_begins ∈ TT := tab_in 791 (by decide +kernel) rfl
theorem k_793 : Cond.instanceMethod yX9_begins ∈ TT := tab_in 793 (by decide +kernel) rfl
set_option maxRecDepth 100000 in
theorem k_794 : Cond.code yX9_begins cX9_begins 2 none ∈ TT := tab_in 794 rfl rfl
theorem k_795 : Cond.fieldLink RX9 9 "StepWorksModel" "equation" "[I" ∈ TT := tab_in 795 (by decide +kernel) rfl
theorem k_796 : Cond.fieldLink RX9 13 "StepWorksModel" "side" "[I" ∈ TT := tab_in 796 (by decide +kernel) rfl
theorem k_797 : Cond.fieldLink RX9 16 "StepWorksModel" "low" "[I" ∈ TT := tab_in 797 (by decide +kernel) rfl
theorem k_798 : Cond.fieldLink RX9 19 "StepWorksModel" "high" "[I" ∈ TT := tab_in 798 (by decide +kernel) rfl
theorem k_799 : Cond.fieldLink RX9 22 "StepWorksModel" "price" "[I" ∈ TT := tab_in 799 (by decide +kernel) rfl
theorem k_800 : Cond.fieldLink RX9 25 "StepWorksModel" "bend" "[I" ∈ TT := tab_in 800 (by decide +kernel) rfl
theorem k_801 : Cond.fieldLink RX9 28 "StepWorksModel" "hand" "[I" ∈ TT := tab_in 801 (by decide +kernel) rfl
theorem k_802 : Cond.fieldLink RX9 31 "StepWorksModel" "refusals" "[I" ∈ TT := tab_in 802 (by decide +kernel) rfl
theorem k_803 : Cond.fieldLink RX9 34 "StepWorksModel" "traySort" "[I" ∈ TT := tab_in 803 (by decide +kernel) rfl
theorem k_804 : Cond.fieldLink RX9 37 "StepWorksModel" "traySize" "[I" ∈ TT := tab_in 804 (by decide +kernel) rfl
theorem k_805 : Cond.fieldLink RX9 40 "StepWorksModel" "cells" "[J" ∈ TT := tab_in 805 (by decide +kernel) rfl
theorem k_807 : Cond.fieldLink RX9 47 "StepWorksModel" "size" "I" ∈ TT := tab_in 807 (by decide +kernel) rfl
theorem k_808 : Cond.fieldLink RX9 102 "StepWorksModel" "equations" "I" ∈ TT := tab_in 808 (by decide +kernel) rfl
theorem k_809 : Cond.fieldLink RX9 105 "StepWorksModel" "areSteps" "Z" ∈ TT := tab_in 809 (by decide +kernel) rfl
theorem k_814 : Cond.fieldLink RX9 65 "StepWorksModel" "steps" "[I" ∈ TT := tab_in 814 (by decide +kernel) rfl
theorem k_815 : Cond.fieldLink RX9 68 "StepWorksModel" "sorted" "[I" ∈ TT := tab_in 815 (by decide +kernel) rfl
theorem k_817 : Cond.fieldLink RX9 163 "StepWorksModel" "many" "I" ∈ TT := tab_in 817 (by decide +kernel) rfl
theorem k_826 : Cond.fieldLink RX9 89 "StepWorksModel" "left" "[I" ∈ TT := tab_in 826 (by decide +kernel) rfl
theorem k_828 : Cond.fieldLink RX9 109 "StepWorksModel" "arePlans" "Z" ∈ TT := tab_in 828 (by decide +kernel) rfl
theorem k_908 : Cond.methodLink RX9 112 yX9_refuse ∈ TT := tab_in 908 (by decide +kernel) rfl
theorem k_910 : Cond.instanceMethod yX9_refuse ∈ TT := tab_in 910 (by decide +kernel) rfl
set_option maxRecDepth 100000 in
theorem k_911 : Cond.code yX9_refuse cX9_refuse 2 (some .int) ∈ TT := tab_in 911 rfl rfl
theorem k_920 : Cond.methodLink RX9 116 yX9_isIn ∈ TT := tab_in 920 (by decide +kernel) rfl
theorem k_921 : Cond.static yX9_isIn ∈ TT := tab_in 921 (by decide +kernel) rfl
set_option maxRecDepth 100000 in
theorem k_922 : Cond.code yX9_isIn cX9_isIn 2 (some .boolean) ∈ TT := tab_in 922 rfl rfl
theorem k_975 : Cond.methodLink RX9 124 yX9_a ∈ TT := tab_in 975 (by decide +kernel) rfl
theorem k_977 : Cond.instanceMethod yX9_a ∈ TT := tab_in 977 (by decide +kernel) rfl
set_option maxRecDepth 100000 in
theorem k_978 : Cond.code yX9_a cX9_a 3 (some .long) ∈ TT := tab_in 978 rfl rfl
theorem ks_35 : Cond.selects RX9 yX9_begins yX9_begins ∈ TT := sel_in 35 (by decide +kernel) rfl
theorem ks_36 : Cond.selects RX9 yX9_refuse yX9_refuse ∈ TT := sel_in 36 (by decide +kernel) rfl
theorem ks_40 : Cond.selects RX9 yX9_a yX9_a ∈ TT := sel_in 40 (by decide +kernel) rfl
theorem ks_47 : Cond.selects RX9 yX9_at yX9_at ∈ TT := sel_in 47 (by decide +kernel) rfl
theorem ks_49 : Cond.selects RX9 yX9_isStep yX9_isStep ∈ TT := sel_in 49 (by decide +kernel) rfl
theorem ks_50 : Cond.selects RX9 yX9_sum yX9_sum ∈ TT := sel_in 50 (by decide +kernel) rfl
theorem ks_51 : Cond.selects RX9 yX9_isPlan yX9_isPlan ∈ TT := sel_in 51 (by decide +kernel) rfl
theorem ks_56 : Cond.selects RX9 yX9_costOf yX9_costOf ∈ TT := sel_in 56 (by decide +kernel) rfl
theorem cs_RX9_116 : CSt RX9 116 yX9_isIn cX9_isIn 2 (some .boolean) 2 := ⟨k_920, k_921, k_11, k_922, by decide +kernel⟩
theorem cv_RX9_112 : CV RX9 112 RX9 yX9_refuse cX9_refuse 2 (some .int) 1 := ⟨k_908, k_910, ks_36, k_11, k_911, by decide +kernel⟩
theorem cv_RX9_124 : CV RX9 124 RX9 yX9_a cX9_a 3 (some .long) 2 := ⟨k_975, k_977, ks_40, k_11, k_978, by decide +kernel⟩
theorem cv_RX9_183 : CV RX9 183 RX9 yX9_at cX9_at 3 (some .int) 2 := ⟨k_1010, k_1012, ks_47, k_11, k_1013, by decide +kernel⟩
theorem cv_RX9_191 : CV RX9 191 RX9 yX9_sum cX9_sum 6 (some .int) 3 := ⟨k_1043, k_1045, ks_50, k_11, k_1046, by decide +kernel⟩
theorem cv_RX9_195 : CV RX9 195 RX9 yX9_isStep cX9_isStep 3 (some .boolean) 0 := ⟨k_1039, k_1041, ks_49, k_11, k_1042, by decide +kernel⟩
theorem cv_RX9_199 : CV RX9 199 RX9 yX9_isPlan cX9_isPlan 5 (some .boolean) 2 := ⟨k_1047, k_1049, ks_51, k_11, k_1050, by decide +kernel⟩
theorem cv_RX9_220 : CV RX9 220 RX9 yX9_costOf cX9_costOf 6 (some .long) 2 := ⟨k_1085, k_1087, ks_56, k_11, k_1088, by decide +kernel⟩
theorem cv_RX9_99 : CV RX9 99 RX9 yX9_begins cX9_begins 2 none 0 := ⟨k_791, k_793, ks_35, k_11, k_794, by decide +kernel⟩
