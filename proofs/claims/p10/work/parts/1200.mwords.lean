theorem k_1000 : Cond.instanceMethod yX9_sorts ∈ TT := tab_in 1000 (by decide +kernel) rfl
set_option maxRecDepth 100000 in
theorem k_1001 : Cond.code yX9_sorts cX9_sorts 3 none ∈ TT := tab_in 1001 rfl rfl
theorem k_1002 : Cond.methodLink RX9 177 yX9_isBefore ∈ TT := tab_in 1002 (by decide +kernel) rfl
theorem k_1004 : Cond.instanceMethod yX9_isBefore ∈ TT := tab_in 1004 (by decide +kernel) rfl
set_option maxRecDepth 100000 in
theorem k_1005 : Cond.code yX9_isBefore cX9_isBefore 4 (some .boolean) ∈ TT := tab_in 1005 rfl rfl
theorem k_1010 : Cond.methodLink RX9 183 yX9_at ∈ TT := tab_in 1010 (by decide +kernel) rfl
theorem k_1012 : Cond.instanceMethod yX9_at ∈ TT := tab_in 1012 (by decide +kernel) rfl
set_option maxRecDepth 100000 in
theorem k_1013 : Cond.code yX9_at cX9_at 3 (some .int) ∈ TT := tab_in 1013 rfl rfl
theorem k_1014 : Cond.constant RX9 187 (-99999) ∈ TT := tab_in 1014 (by decide +kernel) rfl
theorem k_1019 : Cond.methodLink RX9 188 yX9_kindOf ∈ TT := tab_in 1019 (by decide +kernel) rfl
theorem k_1021 : Cond.instanceMethod yX9_kindOf ∈ TT := tab_in 1021 (by decide +kernel) rfl
set_option maxRecDepth 100000 in
theorem k_1022 : Cond.code yX9_kindOf cX9_kindOf 7 (some .int) ∈ TT := tab_in 1022 rfl rfl
theorem k_1039 : Cond.methodLink RX9 195 yX9_isStep ∈ TT := tab_in 1039 (by decide +kernel) rfl
theorem k_1041 : Cond.instanceMethod yX9_isStep ∈ TT := tab_in 1041 (by decide +kernel) rfl
set_option maxRecDepth 100000 in
theorem k_1042 : Cond.code yX9_isStep cX9_isStep 3 (some .boolean) ∈ TT := tab_in 1042 rfl rfl
theorem k_1043 : Cond.methodLink RX9 191 yX9_sum ∈ TT := tab_in 1043 (by decide +kernel) rfl
theorem k_1045 : Cond.instanceMethod yX9_sum ∈ TT := tab_in 1045 (by decide +kernel) rfl
set_option maxRecDepth 100000 in
theorem k_1046 : Cond.code yX9_sum cX9_sum 6 (some .int) ∈ TT := tab_in 1046 rfl rfl
theorem k_1047 : Cond.methodLink RX9 199 yX9_isPlan ∈ TT := tab_in 1047 (by decide +kernel) rfl
theorem k_1049 : Cond.instanceMethod yX9_isPlan ∈ TT := tab_in 1049 (by decide +kernel) rfl
set_option maxRecDepth 100000 in
theorem k_1050 : Cond.code yX9_isPlan cX9_isPlan 5 (some .boolean) ∈ TT := tab_in 1050 rfl rfl
theorem k_1055 : Cond.methodLink RX9 203 yX9_leaves ∈ TT := tab_in 1055 (by decide +kernel) rfl
theorem k_1057 : Cond.instanceMethod yX9_leaves ∈ TT := tab_in 1057 (by decide +kernel) rfl
set_option maxRecDepth 100000 in
theorem k_1058 : Cond.code yX9_leaves cX9_leaves 2 none ∈ TT := tab_in 1058 rfl rfl
theorem k_1059 : Cond.methodLink RX9 206 yX9_fitsLeft ∈ TT := tab_in 1059 (by decide +kernel) rfl
theorem k_1061 : Cond.instanceMethod yX9_fitsLeft ∈ TT := tab_in 1061 (by decide +kernel) rfl
set_option maxRecDepth 100000 in
theorem k_1062 : Cond.code yX9_fitsLeft cX9_fitsLeft 3 (some .boolean) ∈ TT := tab_in 1062 rfl rfl
theorem k_1067 : Cond.methodLink RX9 209 yX9_amount ∈ TT := tab_in 1067 (by decide +kernel) rfl
theorem k_1069 : Cond.instanceMethod yX9_amount ∈ TT := tab_in 1069 (by decide +kernel) rfl
set_option maxRecDepth 100000 in
theorem k_1070 : Cond.code yX9_amount cX9_amount 6 (some .int) ∈ TT := tab_in 1070 rfl rfl
theorem k_1075 : Cond.methodLink RX9 216 yX9_adds ∈ TT := tab_in 1075 (by decide +kernel) rfl
theorem k_1077 : Cond.instanceMethod yX9_adds ∈ TT := tab_in 1077 (by decide +kernel) rfl
set_option maxRecDepth 100000 in
theorem k_1078 : Cond.code yX9_adds cX9_adds 10 (some .int) ∈ TT := tab_in 1078 rfl rfl
theorem k_1079 : Cond.constantLong RX9 212 (-10000) ∈ TT := tab_in 1079 (by decide +kernel) rfl
theorem k_1080 : Cond.constantLong RX9 214 10000 ∈ TT := tab_in 1080 (by decide +kernel) rfl
theorem k_1082 : Cond.instanceMethod yX9_cost ∈ TT := tab_in 1082 (by decide +kernel) rfl
theorem k_1083 : Cond.selects RX9 yX9_cost yX9_cost ∈ TT := tab_in 1083 (by decide +kernel) rfl
set_option maxRecDepth 100000 in
theorem k_1084 : Cond.code yX9_cost cX9_cost 1 (some .long) ∈ TT := tab_in 1084 rfl rfl
theorem k_1085 : Cond.methodLink RX9 220 yX9_costOf ∈ TT := tab_in 1085 (by decide +kernel) rfl
theorem k_1087 : Cond.instanceMethod yX9_costOf ∈ TT := tab_in 1087 (by decide +kernel) rfl
set_option maxRecDepth 100000 in
theorem k_1088 : Cond.code yX9_costOf cX9_costOf 6 (some .long) ∈ TT := tab_in 1088 rfl rfl
theorem k_1093 : Cond.methodLink RX9 228 yX9_betters ∈ TT := tab_in 1093 (by decide +kernel) rfl
theorem k_1095 : Cond.instanceMethod yX9_betters ∈ TT := tab_in 1095 (by decide +kernel) rfl
set_option maxRecDepth 100000 in
theorem k_1096 : Cond.code yX9_betters cX9_betters 8 (some .int) ∈ TT := tab_in 1096 rfl rfl
theorem k_1097 : Cond.methodLink RX9 224 yX9_cost ∈ TT := tab_in 1097 (by decide +kernel) rfl
theorem k_11 : Cond.initialized RX9 ∈ TT := tab_in 11 (by decide +kernel) rfl
theorem k_1106 : Cond.methodLink RX9 238 yX9_gather ∈ TT := tab_in 1106 (by decide +kernel) rfl
theorem k_1108 : Cond.instanceMethod yX9_gather ∈ TT := tab_in 1108 (by decide +kernel) rfl
set_option maxRecDepth 100000 in
theorem k_1109 : Cond.code yX9_gather cX9_gather 1 none ∈ TT := tab_in 1109 rfl rfl
theorem k_1110 : Cond.methodLink RX9 235 yX9_gathers ∈ TT := tab_in 1110 (by decide +kernel) rfl
theorem k_1112 : Cond.instanceMethod yX9_gathers ∈ TT := tab_in 1112 (by decide +kernel) rfl
set_option maxRecDepth 100000 in
theorem k_1113 : Cond.code yX9_gathers cX9_gathers 3 none ∈ TT := tab_in 1113 rfl rfl
theorem k_1126 : Cond.constantLong RX9 241 (-1) ∈ TT := tab_in 1126 (by decide +kernel) rfl
theorem k_791 : Cond.methodLink RX9 99 yX9_begins ∈ TT := tab_in 791 (by decide +kernel) rfl
theorem k_793 : Cond.instanceMethod yX9_begins ∈ TT := tab_in 793 (by decide +kernel) rfl
set_option maxRecDepth 100000 in
theorem k_794 : Cond.code yX9_begins cX9_begins 2 none ∈ TT := tab_in 794 rfl rfl
theorem k_795 : Cond.fieldLink RX9 9 "StepWorksModel" "equation" "[I" ∈ TT := tab_in 795 (by decide +kernel) rfl
theorem k_796 : Cond.fieldLink RX9 13 "StepWorksModel" "side" "[I" ∈ TT := tab_in 796 (by decide +kernel) rfl
theorem k_797 : Cond.fieldLink RX9 16 "StepWorksModel" "low" "[I" ∈ TT := tab_in 797 (by decide +kernel) rfl
theorem k_798 : Cond.fieldLink RX9 19 "StepWorksModel" "high" "[I" ∈ TT := tab_in 798 (by decide +kernel) rfl
theorem k_799 : Cond.fieldLink RX9 22 "StepWorksModel" "price" "[I" ∈ TT := tab_in 799 (by decide +kernel) rfl
theorem k_800 : Cond.fieldLink RX9 25 "StepWorksModel" "bend" "[I" ∈ TT := tab_in 800 (by decide +kernel) rfl
theorem k_801 : Cond.fieldLink RX9 28 "StepWorksModel" "hand" "[I" ∈ TT := tab_in 801 (by decide +kernel) rfl
theorem k_802 : Cond.fieldLink RX9 31 "StepWorksModel" "refusals" "[I" ∈ TT := tab_in 802 (by decide +kernel) rfl
theorem k_803 : Cond.fieldLink RX9 34 "StepWorksModel" "traySort" "[I" ∈ TT := tab_in 803 (by decide +kernel) rfl
theorem k_804 : Cond.fieldLink RX9 37 "StepWorksModel" "traySize" "[I" ∈ TT := tab_in 804 (by decide +kernel) rfl
theorem k_805 : Cond.fieldLink RX9 40 "StepWorksModel" "cells" "[J" ∈ TT := tab_in 805 (by decide +kernel) rfl
theorem k_806 : Cond.fieldLink RX9 44 "StepWorksModel" "moved" "[J" ∈ TT := tab_in 806 (by decide +kernel) rfl
theorem k_807 : Cond.fieldLink RX9 47 "StepWorksModel" "size" "I" ∈ TT := tab_in 807 (by decide +kernel) rfl
theorem k_808 : Cond.fieldLink RX9 102 "StepWorksModel" "equations" "I" ∈ TT := tab_in 808 (by decide +kernel) rfl
theorem k_809 : Cond.fieldLink RX9 105 "StepWorksModel" "areSteps" "Z" ∈ TT := tab_in 809 (by decide +kernel) rfl
theorem k_810 : Cond.fieldLink RX9 52 "StepWorksModel" "found" "[I" ∈ TT := tab_in 810 (by decide +kernel) rfl
theorem k_811 : Cond.fieldLink RX9 56 "StepWorksModel" "norm" "[I" ∈ TT := tab_in 811 (by decide +kernel) rfl
theorem k_812 : Cond.fieldLink RX9 59 "StepWorksModel" "from" "[I" ∈ TT := tab_in 812 (by decide +kernel) rfl
theorem k_813 : Cond.fieldLink RX9 62 "StepWorksModel" "byNorm" "[I" ∈ TT := tab_in 813 (by decide +kernel) rfl
theorem k_814 : Cond.fieldLink RX9 65 "StepWorksModel" "steps" "[I" ∈ TT := tab_in 814 (by decide +kernel) rfl
theorem k_815 : Cond.fieldLink RX9 68 "StepWorksModel" "sorted" "[I" ∈ TT := tab_in 815 (by decide +kernel) rfl
theorem k_816 : Cond.fieldLink RX9 153 "StepWorksModel" "foundMany" "I" ∈ TT := tab_in 816 (by decide +kernel) rfl
theorem k_817 : Cond.fieldLink RX9 163 "StepWorksModel" "many" "I" ∈ TT := tab_in 817 (by decide +kernel) rfl
theorem k_818 : Cond.fieldLink RX9 71 "StepWorksModel" "worked" "[I" ∈ TT := tab_in 818 (by decide +kernel) rfl
theorem k_819 : Cond.fieldLink RX9 74 "StepWorksModel" "by" "[I" ∈ TT := tab_in 819 (by decide +kernel) rfl
theorem k_820 : Cond.fieldLink RX9 77 "StepWorksModel" "free" "[I" ∈ TT := tab_in 820 (by decide +kernel) rfl
theorem k_821 : Cond.fieldLink RX9 80 "StepWorksModel" "now" "[I" ∈ TT := tab_in 821 (by decide +kernel) rfl
theorem k_822 : Cond.fieldLink RX9 142 "StepWorksModel" "rank" "I" ∈ TT := tab_in 822 (by decide +kernel) rfl
theorem k_823 : Cond.fieldLink RX9 139 "StepWorksModel" "freeMany" "I" ∈ TT := tab_in 823 (by decide +kernel) rfl
theorem k_824 : Cond.fieldLink RX9 83 "StepWorksModel" "square" "[J" ∈ TT := tab_in 824 (by decide +kernel) rfl
theorem k_825 : Cond.fieldLink RX9 86 "StepWorksModel" "column" "[J" ∈ TT := tab_in 825 (by decide +kernel) rfl
theorem k_826 : Cond.fieldLink RX9 89 "StepWorksModel" "left" "[I" ∈ TT := tab_in 826 (by decide +kernel) rfl
theorem k_827 : Cond.fieldLink RX9 92 "StepWorksModel" "trial" "[I" ∈ TT := tab_in 827 (by decide +kernel) rfl
theorem k_828 : Cond.fieldLink RX9 109 "StepWorksModel" "arePlans" "Z" ∈ TT := tab_in 828 (by decide +kernel) rfl
theorem k_829 : Cond.fieldLink RX9 96 "StepWorksModel" "plans" "[I" ∈ TT := tab_in 829 (by decide +kernel) rfl
theorem k_830 : Cond.fieldLink RX9 232 "StepWorksModel" "planMany" "I" ∈ TT := tab_in 830 (by decide +kernel) rfl
theorem k_908 : Cond.methodLink RX9 112 yX9_refuse ∈ TT := tab_in 908 (by decide +kernel) rfl
theorem k_910 : Cond.instanceMethod yX9_refuse ∈ TT := tab_in 910 (by decide +kernel) rfl
set_option maxRecDepth 100000 in
theorem k_911 : Cond.code yX9_refuse cX9_refuse 2 (some .int) ∈ TT := tab_in 911 rfl rfl
theorem k_920 : Cond.methodLink RX9 116 yX9_isIn ∈ TT := tab_in 920 (by decide +kernel) rfl
theorem k_921 : Cond.static yX9_isIn ∈ TT := tab_in 921 (by decide +kernel) rfl
set_option maxRecDepth 100000 in
theorem k_922 : Cond.code yX9_isIn cX9_isIn 2 (some .boolean) ∈ TT := tab_in 922 rfl rfl
theorem k_951 : Cond.constantLong RX9 120 (-6) ∈ TT := tab_in 951 (by decide +kernel) rfl
theorem k_952 : Cond.constantLong RX9 122 6 ∈ TT := tab_in 952 (by decide +kernel) rfl
theorem k_957 : Cond.methodLink RX9 180 yX9_findSteps ∈ TT := tab_in 957 (by decide +kernel) rfl
theorem k_959 : Cond.instanceMethod yX9_findSteps ∈ TT := tab_in 959 (by decide +kernel) rfl
set_option maxRecDepth 100000 in
theorem k_960 : Cond.code yX9_findSteps cX9_findSteps 3 none ∈ TT := tab_in 960 rfl rfl
theorem k_961 : Cond.methodLink RX9 160 yX9_ranks ∈ TT := tab_in 961 (by decide +kernel) rfl
theorem k_963 : Cond.instanceMethod yX9_ranks ∈ TT := tab_in 963 (by decide +kernel) rfl
set_option maxRecDepth 100000 in
theorem k_964 : Cond.code yX9_ranks cX9_ranks 5 (some .boolean) ∈ TT := tab_in 964 rfl rfl
theorem k_965 : Cond.methodLink RX9 128 yX9_bits ∈ TT := tab_in 965 (by decide +kernel) rfl
theorem k_966 : Cond.static yX9_bits ∈ TT := tab_in 966 (by decide +kernel) rfl
set_option maxRecDepth 100000 in
theorem k_967 : Cond.code yX9_bits cX9_bits 1 (some .int) ∈ TT := tab_in 967 rfl rfl
theorem k_968 : Cond.methodLink RX9 131 yX9_takes ∈ TT := tab_in 968 (by decide +kernel) rfl
theorem k_969 : Cond.static yX9_takes ∈ TT := tab_in 969 (by decide +kernel) rfl
set_option maxRecDepth 100000 in
theorem k_970 : Cond.code yX9_takes cX9_takes 4 none ∈ TT := tab_in 970 rfl rfl
theorem k_971 : Cond.methodLink RX9 135 yX9_minor ∈ TT := tab_in 971 (by decide +kernel) rfl
theorem k_973 : Cond.instanceMethod yX9_minor ∈ TT := tab_in 973 (by decide +kernel) rfl
set_option maxRecDepth 100000 in
theorem k_974 : Cond.code yX9_minor cX9_minor 8 (some .long) ∈ TT := tab_in 974 rfl rfl
theorem k_975 : Cond.methodLink RX9 124 yX9_a ∈ TT := tab_in 975 (by decide +kernel) rfl
theorem k_977 : Cond.instanceMethod yX9_a ∈ TT := tab_in 977 (by decide +kernel) rfl
set_option maxRecDepth 100000 in
theorem k_978 : Cond.code yX9_a cX9_a 3 (some .long) ∈ TT := tab_in 978 rfl rfl
theorem k_979 : Cond.methodLink RX9 156 yX9_goes ∈ TT := tab_in 979 (by decide +kernel) rfl
theorem k_981 : Cond.instanceMethod yX9_goes ∈ TT := tab_in 981 (by decide +kernel) rfl
set_option maxRecDepth 100000 in
theorem k_982 : Cond.code yX9_goes cX9_goes 6 none ∈ TT := tab_in 982 rfl rfl
theorem k_983 : Cond.methodLink RX9 149 yX9_makes ∈ TT := tab_in 983 (by decide +kernel) rfl
theorem k_985 : Cond.instanceMethod yX9_makes ∈ TT := tab_in 985 (by decide +kernel) rfl
set_option maxRecDepth 100000 in
theorem k_986 : Cond.code yX9_makes cX9_makes 7 (some .boolean) ∈ TT := tab_in 986 rfl rfl
theorem k_987 : Cond.methodLink RX9 145 yX9_putIn ∈ TT := tab_in 987 (by decide +kernel) rfl
theorem k_989 : Cond.instanceMethod yX9_putIn ∈ TT := tab_in 989 (by decide +kernel) rfl
set_option maxRecDepth 100000 in
theorem k_990 : Cond.code yX9_putIn cX9_putIn 6 (some .long) ∈ TT := tab_in 990 rfl rfl
theorem k_991 : Cond.methodLink RX9 166 yX9_leastOf ∈ TT := tab_in 991 (by decide +kernel) rfl
theorem k_993 : Cond.instanceMethod yX9_leastOf ∈ TT := tab_in 993 (by decide +kernel) rfl
set_option maxRecDepth 100000 in
theorem k_994 : Cond.code yX9_leastOf cX9_leastOf 3 none ∈ TT := tab_in 994 rfl rfl
theorem k_995 : Cond.methodLink RX9 173 yX9_fitsIn ∈ TT := tab_in 995 (by decide +kernel) rfl
theorem k_996 : Cond.static yX9_fitsIn ∈ TT := tab_in 996 (by decide +kernel) rfl
set_option maxRecDepth 100000 in
theorem k_997 : Cond.code yX9_fitsIn cX9_fitsIn 7 (some .boolean) ∈ TT := tab_in 997 rfl rfl
theorem k_998 : Cond.methodLink RX9 170 yX9_sorts ∈ TT := tab_in 998 (by decide +kernel) rfl
theorem ks_35 : Cond.selects RX9 yX9_begins yX9_begins ∈ TT := sel_in 35 (by decide +kernel) rfl
theorem ks_36 : Cond.selects RX9 yX9_refuse yX9_refuse ∈ TT := sel_in 36 (by decide +kernel) rfl
theorem ks_37 : Cond.selects RX9 yX9_findSteps yX9_findSteps ∈ TT := sel_in 37 (by decide +kernel) rfl
theorem ks_38 : Cond.selects RX9 yX9_ranks yX9_ranks ∈ TT := sel_in 38 (by decide +kernel) rfl
theorem ks_39 : Cond.selects RX9 yX9_minor yX9_minor ∈ TT := sel_in 39 (by decide +kernel) rfl
theorem ks_40 : Cond.selects RX9 yX9_a yX9_a ∈ TT := sel_in 40 (by decide +kernel) rfl
theorem ks_41 : Cond.selects RX9 yX9_goes yX9_goes ∈ TT := sel_in 41 (by decide +kernel) rfl
theorem ks_42 : Cond.selects RX9 yX9_makes yX9_makes ∈ TT := sel_in 42 (by decide +kernel) rfl
theorem ks_43 : Cond.selects RX9 yX9_putIn yX9_putIn ∈ TT := sel_in 43 (by decide +kernel) rfl
theorem ks_44 : Cond.selects RX9 yX9_leastOf yX9_leastOf ∈ TT := sel_in 44 (by decide +kernel) rfl
theorem ks_45 : Cond.selects RX9 yX9_sorts yX9_sorts ∈ TT := sel_in 45 (by decide +kernel) rfl
theorem ks_46 : Cond.selects RX9 yX9_isBefore yX9_isBefore ∈ TT := sel_in 46 (by decide +kernel) rfl
theorem ks_47 : Cond.selects RX9 yX9_at yX9_at ∈ TT := sel_in 47 (by decide +kernel) rfl
theorem ks_48 : Cond.selects RX9 yX9_kindOf yX9_kindOf ∈ TT := sel_in 48 (by decide +kernel) rfl
theorem ks_49 : Cond.selects RX9 yX9_isStep yX9_isStep ∈ TT := sel_in 49 (by decide +kernel) rfl
theorem ks_50 : Cond.selects RX9 yX9_sum yX9_sum ∈ TT := sel_in 50 (by decide +kernel) rfl
theorem ks_51 : Cond.selects RX9 yX9_isPlan yX9_isPlan ∈ TT := sel_in 51 (by decide +kernel) rfl
theorem ks_52 : Cond.selects RX9 yX9_leaves yX9_leaves ∈ TT := sel_in 52 (by decide +kernel) rfl
theorem ks_53 : Cond.selects RX9 yX9_fitsLeft yX9_fitsLeft ∈ TT := sel_in 53 (by decide +kernel) rfl
theorem ks_54 : Cond.selects RX9 yX9_amount yX9_amount ∈ TT := sel_in 54 (by decide +kernel) rfl
theorem ks_55 : Cond.selects RX9 yX9_adds yX9_adds ∈ TT := sel_in 55 (by decide +kernel) rfl
theorem ks_56 : Cond.selects RX9 yX9_costOf yX9_costOf ∈ TT := sel_in 56 (by decide +kernel) rfl
theorem ks_57 : Cond.selects RX9 yX9_betters yX9_betters ∈ TT := sel_in 57 (by decide +kernel) rfl
theorem ks_58 : Cond.selects RX9 yX9_gather yX9_gather ∈ TT := sel_in 58 (by decide +kernel) rfl
theorem ks_59 : Cond.selects RX9 yX9_gathers yX9_gathers ∈ TT := sel_in 59 (by decide +kernel) rfl
theorem cs_RX9_116 : CSt RX9 116 yX9_isIn cX9_isIn 2 (some .boolean) 2 := ⟨k_920, k_921, k_11, k_922, by decide +kernel⟩
theorem cs_RX9_128 : CSt RX9 128 yX9_bits cX9_bits 1 (some .int) 1 := ⟨k_965, k_966, k_11, k_967, by decide +kernel⟩
theorem cs_RX9_131 : CSt RX9 131 yX9_takes cX9_takes 4 none 2 := ⟨k_968, k_969, k_11, k_970, by decide +kernel⟩
theorem cs_RX9_173 : CSt RX9 173 yX9_fitsIn cX9_fitsIn 7 (some .boolean) 4 := ⟨k_995, k_996, k_11, k_997, by decide +kernel⟩
theorem cv_RX9_112 : CV RX9 112 RX9 yX9_refuse cX9_refuse 2 (some .int) 1 := ⟨k_908, k_910, ks_36, k_11, k_911, by decide +kernel⟩
theorem cv_RX9_124 : CV RX9 124 RX9 yX9_a cX9_a 3 (some .long) 2 := ⟨k_975, k_977, ks_40, k_11, k_978, by decide +kernel⟩
theorem cv_RX9_135 : CV RX9 135 RX9 yX9_minor cX9_minor 8 (some .long) 7 := ⟨k_971, k_973, ks_39, k_11, k_974, by decide +kernel⟩
theorem cv_RX9_145 : CV RX9 145 RX9 yX9_putIn cX9_putIn 6 (some .long) 2 := ⟨k_987, k_989, ks_43, k_11, k_990, by decide +kernel⟩
theorem cv_RX9_149 : CV RX9 149 RX9 yX9_makes cX9_makes 7 (some .boolean) 1 := ⟨k_983, k_985, ks_42, k_11, k_986, by decide +kernel⟩
theorem cv_RX9_156 : CV RX9 156 RX9 yX9_goes cX9_goes 6 none 2 := ⟨k_979, k_981, ks_41, k_11, k_982, by decide +kernel⟩
theorem cv_RX9_160 : CV RX9 160 RX9 yX9_ranks cX9_ranks 5 (some .boolean) 1 := ⟨k_961, k_963, ks_38, k_11, k_964, by decide +kernel⟩
theorem cv_RX9_166 : CV RX9 166 RX9 yX9_leastOf cX9_leastOf 3 none 1 := ⟨k_991, k_993, ks_44, k_11, k_994, by decide +kernel⟩
theorem cv_RX9_170 : CV RX9 170 RX9 yX9_sorts cX9_sorts 3 none 0 := ⟨k_998, k_1000, ks_45, k_11, k_1001, by decide +kernel⟩
theorem cv_RX9_177 : CV RX9 177 RX9 yX9_isBefore cX9_isBefore 4 (some .boolean) 2 := ⟨k_1002, k_1004, ks_46, k_11, k_1005, by decide +kernel⟩
theorem cv_RX9_180 : CV RX9 180 RX9 yX9_findSteps cX9_findSteps 3 none 0 := ⟨k_957, k_959, ks_37, k_11, k_960, by decide +kernel⟩
theorem cv_RX9_183 : CV RX9 183 RX9 yX9_at cX9_at 3 (some .int) 2 := ⟨k_1010, k_1012, ks_47, k_11, k_1013, by decide +kernel⟩
theorem cv_RX9_188 : CV RX9 188 RX9 yX9_kindOf cX9_kindOf 7 (some .int) 1 := ⟨k_1019, k_1021, ks_48, k_11, k_1022, by decide +kernel⟩
theorem cv_RX9_191 : CV RX9 191 RX9 yX9_sum cX9_sum 6 (some .int) 3 := ⟨k_1043, k_1045, ks_50, k_11, k_1046, by decide +kernel⟩
theorem cv_RX9_195 : CV RX9 195 RX9 yX9_isStep cX9_isStep 3 (some .boolean) 0 := ⟨k_1039, k_1041, ks_49, k_11, k_1042, by decide +kernel⟩
theorem cv_RX9_199 : CV RX9 199 RX9 yX9_isPlan cX9_isPlan 5 (some .boolean) 2 := ⟨k_1047, k_1049, ks_51, k_11, k_1050, by decide +kernel⟩
theorem cv_RX9_203 : CV RX9 203 RX9 yX9_leaves cX9_leaves 2 none 0 := ⟨k_1055, k_1057, ks_52, k_11, k_1058, by decide +kernel⟩
theorem cv_RX9_206 : CV RX9 206 RX9 yX9_fitsLeft cX9_fitsLeft 3 (some .boolean) 1 := ⟨k_1059, k_1061, ks_53, k_11, k_1062, by decide +kernel⟩
theorem cv_RX9_209 : CV RX9 209 RX9 yX9_amount cX9_amount 6 (some .int) 1 := ⟨k_1067, k_1069, ks_54, k_11, k_1070, by decide +kernel⟩
theorem cv_RX9_216 : CV RX9 216 RX9 yX9_adds cX9_adds 10 (some .int) 3 := ⟨k_1075, k_1077, ks_55, k_11, k_1078, by decide +kernel⟩
theorem cv_RX9_220 : CV RX9 220 RX9 yX9_costOf cX9_costOf 6 (some .long) 2 := ⟨k_1085, k_1087, ks_56, k_11, k_1088, by decide +kernel⟩
theorem cv_RX9_224 : CV RX9 224 RX9 yX9_cost cX9_cost 1 (some .long) 0 := ⟨k_1097, k_1082, k_1083, k_11, k_1084, by decide +kernel⟩
theorem cv_RX9_228 : CV RX9 228 RX9 yX9_betters cX9_betters 8 (some .int) 0 := ⟨k_1093, k_1095, ks_57, k_11, k_1096, by decide +kernel⟩
theorem cv_RX9_235 : CV RX9 235 RX9 yX9_gathers cX9_gathers 3 none 1 := ⟨k_1110, k_1112, ks_59, k_11, k_1113, by decide +kernel⟩
theorem cv_RX9_238 : CV RX9 238 RX9 yX9_gather cX9_gather 1 none 0 := ⟨k_1106, k_1108, ks_58, k_11, k_1109, by decide +kernel⟩
theorem cv_RX9_99 : CV RX9 99 RX9 yX9_begins cX9_begins 2 none 0 := ⟨k_791, k_793, ks_35, k_11, k_794, by decide +kernel⟩
