theorem k_1000 : Cond.instanceMethod yX9_sorts ∈ TT := tab_in 1000 (by decide +kernel) rfl
set_option maxRecDepth 100000 in
theorem k_1001 : Cond.code yX9_sorts cX9_sorts 3 none ∈ TT := tab_in 1001 rfl rfl
theorem k_1002 : Cond.methodLink RX9 177 yX9_isBefore ∈ TT := tab_in 1002 (by decide +kernel) rfl
theorem k_1004 : Cond.instanceMethod yX9_isBefore ∈ TT := tab_in 1004 (by decide +kernel) rfl
set_option maxRecDepth 100000 in
theorem k_1005 : Cond.code yX9_isBefore cX9_isBefore 4 (some .boolean) ∈ TT := tab_in 1005 rfl rfl
theorem k_11 : Cond.initialized RX9 ∈ TT := tab_in 11 (by decide +kernel) rfl
theorem k_795 : Cond.fieldLink RX9 9 "StepWorksModel" "equation" "[I" ∈ TT := tab_in 795 (by decide +kernel) rfl
theorem k_807 : Cond.fieldLink RX9 47 "StepWorksModel" "size" "I" ∈ TT := tab_in 807 (by decide +kernel) rfl
theorem k_808 : Cond.fieldLink RX9 102 "StepWorksModel" "equations" "I" ∈ TT := tab_in 808 (by decide +kernel) rfl
theorem k_809 : Cond.fieldLink RX9 105 "StepWorksModel" "areSteps" "Z" ∈ TT := tab_in 809 (by decide +kernel) rfl
theorem k_810 : Cond.fieldLink RX9 52 "StepWorksModel" "found" "[I" ∈ TT := tab_in 810 (by decide +kernel) rfl
theorem k_811 : Cond.fieldLink RX9 56 "StepWorksModel" "norm" "[I" ∈ TT := tab_in 811 (by decide +kernel) rfl
theorem k_812 : Cond.fieldLink RX9 59 "StepWorksModel" "from" "[I" ∈ TT := tab_in 812 (by decide +kernel) rfl
theorem k_813 : Cond.fieldLink RX9 62 "StepWorksModel" "byNorm" "[I" ∈ TT := tab_in 813 (by decide +kernel) rfl
theorem k_814 : Cond.fieldLink RX9 65 "StepWorksModel" "steps" "[I" ∈ TT := tab_in 814 (by decide +kernel) rfl
theorem k_815 : Cond.fieldLink RX9 68 "StepWorksModel" "sorted" "[I" ∈ TT := tab_in 815 (by decide +kernel) rfl
theorem k_816 : Cond.fieldLink RX9 153 "StepWorksModel" "foundMany" "I" ∈ TT := tab_in 816 (by decide +kernel) rfl
theorem k_817 : Cond.fieldLink RX9 163 "StepWorksModel" "many" "I" ∈ TT := tab_in 817 (by decide +kernel) rfl
theorem k_818 : Cond.fieldLink RX9 71 "StepWorksModel" "worked" "[I" ∈ TT := tab_in 818 (by decide +kernel) rfl
theorem k_819 : Cond.fieldLink RX9 74 "StepWorksModel" "by" "[I" ∈ TT := tab_in 819 (by decide +kernel) rfl
theorem k_820 : Cond.fieldLink RX9 77 "StepWorksModel" "free" "[I" ∈ TT := tab_in 820 (by decide +kernel) rfl
theorem k_821 : Cond.fieldLink RX9 80 "StepWorksModel" "now" "[I" ∈ TT := tab_in 821 (by decide +kernel) rfl
theorem k_822 : Cond.fieldLink RX9 142 "StepWorksModel" "rank" "I" ∈ TT := tab_in 822 (by decide +kernel) rfl
theorem k_823 : Cond.fieldLink RX9 139 "StepWorksModel" "freeMany" "I" ∈ TT := tab_in 823 (by decide +kernel) rfl
theorem k_824 : Cond.fieldLink RX9 83 "StepWorksModel" "square" "[J" ∈ TT := tab_in 824 (by decide +kernel) rfl
theorem k_825 : Cond.fieldLink RX9 86 "StepWorksModel" "column" "[J" ∈ TT := tab_in 825 (by decide +kernel) rfl
theorem k_961 : Cond.methodLink RX9 160 yX9_ranks ∈ TT := tab_in 961 (by decide +kernel) rfl
theorem k_963 : Cond.instanceMethod yX9_ranks ∈ TT := tab_in 963 (by decide +kernel) rfl
set_option maxRecDepth 100000 in
theorem k_964 : Cond.code yX9_ranks cX9_ranks 5 (some .boolean) ∈ TT := tab_in 964 rfl rfl
theorem k_965 : Cond.methodLink RX9 128 yX9_bits ∈ TT := tab_in 965 (by decide +kernel) rfl
theorem k_966 : Cond.static yX9_bits ∈ TT := tab_in 966 (by decide +kernel) rfl
set_option maxRecDepth 100000 in
theorem k_967 : Cond.code yX9_bits cX9_bits 1 (some .int) ∈ TT := tab_in 967 rfl rfl
theorem k_968 : Cond.methodLink RX9 131 yX9_takes ∈ TT := tab_in 968 (by decide +kernel) rfl
theorem k_969 : Cond.static yX9_takes ∈ TT := tab_in 969 (by decide +kernel) rfl
set_option maxRecDepth 100000 in
theorem k_970 : Cond.code yX9_takes cX9_takes 4 none ∈ TT := tab_in 970 rfl rfl
theorem k_971 : Cond.methodLink RX9 135 yX9_minor ∈ TT := tab_in 971 (by decide +kernel) rfl
theorem k_973 : Cond.instanceMethod yX9_minor ∈ TT := tab_in 973 (by decide +kernel) rfl
set_option maxRecDepth 100000 in
theorem k_974 : Cond.code yX9_minor cX9_minor 8 (some .long) ∈ TT := tab_in 974 rfl rfl
theorem k_975 : Cond.methodLink RX9 124 yX9_a ∈ TT := tab_in 975 (by decide +kernel) rfl
theorem k_977 : Cond.instanceMethod yX9_a ∈ TT := tab_in 977 (by decide +kernel) rfl
set_option maxRecDepth 100000 in
theorem k_978 : Cond.code yX9_a cX9_a 3 (some .long) ∈ TT := tab_in 978 rfl rfl
theorem k_979 : Cond.methodLink RX9 156 yX9_goes ∈ TT := tab_in 979 (by decide +kernel) rfl
theorem k_981 : Cond.instanceMethod yX9_goes ∈ TT := tab_in 981 (by decide +kernel) rfl
set_option maxRecDepth 100000 in
theorem k_982 : Cond.code yX9_goes cX9_goes 6 none ∈ TT := tab_in 982 rfl rfl
theorem k_983 : Cond.methodLink RX9 149 yX9_makes ∈ TT := tab_in 983 (by decide +kernel) rfl
theorem k_985 : Cond.instanceMethod yX9_makes ∈ TT := tab_in 985 (by decide +kernel) rfl
set_option maxRecDepth 100000 in
theorem k_986 : Cond.code yX9_makes cX9_makes 7 (some .boolean) ∈ TT := tab_in 986 rfl rfl
theorem k_987 : Cond.methodLink RX9 145 yX9_putIn ∈ TT := tab_in 987 (by decide +kernel) rfl
theorem k_989 : Cond.instanceMethod yX9_putIn ∈ TT := tab_in 989 (by decide +kernel) rfl
set_option maxRecDepth 100000 in
theorem k_990 : Cond.code yX9_putIn cX9_putIn 6 (some .long) ∈ TT := tab_in 990 rfl rfl
theorem k_991 : Cond.methodLink RX9 166 yX9_leastOf ∈ TT := tab_in 991 (by decide +kernel) rfl
theorem k_993 : Cond.instanceMethod yX9_leastOf ∈ TT := tab_in 993 (by decide +kernel) rfl
set_option maxRecDepth 100000 in
theorem k_994 : Cond.code yX9_leastOf cX9_leastOf 3 none ∈ TT := tab_in 994 rfl rfl
theorem k_995 : Cond.methodLink RX9 173 yX9_fitsIn ∈ TT := tab_in 995 (by decide +kernel) rfl
theorem k_996 : Cond.static yX9_fitsIn ∈ TT := tab_in 996 (by decide +kernel) rfl
set_option maxRecDepth 100000 in
theorem k_997 : Cond.code yX9_fitsIn cX9_fitsIn 7 (some .boolean) ∈ TT := tab_in 997 rfl rfl
theorem k_998 : Cond.methodLink RX9 170 yX9_sorts ∈ TT := tab_in 998 (by decide +kernel) rfl
theorem ks_38 : Cond.selects RX9 yX9_ranks yX9_ranks ∈ TT := sel_in 38 (by decide +kernel) rfl
theorem ks_39 : Cond.selects RX9 yX9_minor yX9_minor ∈ TT := sel_in 39 (by decide +kernel) rfl
theorem ks_40 : Cond.selects RX9 yX9_a yX9_a ∈ TT := sel_in 40 (by decide +kernel) rfl
theorem ks_41 : Cond.selects RX9 yX9_goes yX9_goes ∈ TT := sel_in 41 (by decide +kernel) rfl
theorem ks_42 : Cond.selects RX9 yX9_makes yX9_makes ∈ TT := sel_in 42 (by decide +kernel) rfl
theorem ks_43 : Cond.selects RX9 yX9_putIn yX9_putIn ∈ TT := sel_in 43 (by decide +kernel) rfl
theorem ks_44 : Cond.selects RX9 yX9_leastOf yX9_leastOf ∈ TT := sel_in 44 (by decide +kernel) rfl
theorem ks_45 : Cond.selects RX9 yX9_sorts yX9_sorts ∈ TT := sel_in 45 (by decide +kernel) rfl
theorem ks_46 : Cond.selects RX9 yX9_isBefore yX9_isBefore ∈ TT := sel_in 46 (by decide +kernel) rfl
theorem cs_RX9_128 : CSt RX9 128 yX9_bits cX9_bits 1 (some .int) 1 := ⟨k_965, k_966, k_11, k_967, by decide +kernel⟩
theorem cs_RX9_131 : CSt RX9 131 yX9_takes cX9_takes 4 none 2 := ⟨k_968, k_969, k_11, k_970, by decide +kernel⟩
theorem cs_RX9_173 : CSt RX9 173 yX9_fitsIn cX9_fitsIn 7 (some .boolean) 4 := ⟨k_995, k_996, k_11, k_997, by decide +kernel⟩
theorem cv_RX9_124 : CV RX9 124 RX9 yX9_a cX9_a 3 (some .long) 2 := ⟨k_975, k_977, ks_40, k_11, k_978, by decide +kernel⟩
theorem cv_RX9_135 : CV RX9 135 RX9 yX9_minor cX9_minor 8 (some .long) 7 := ⟨k_971, k_973, ks_39, k_11, k_974, by decide +kernel⟩
theorem cv_RX9_145 : CV RX9 145 RX9 yX9_putIn cX9_putIn 6 (some .long) 2 := ⟨k_987, k_989, ks_43, k_11, k_990, by decide +kernel⟩
theorem cv_RX9_149 : CV RX9 149 RX9 yX9_makes cX9_makes 7 (some .boolean) 1 := ⟨k_983, k_985, ks_42, k_11, k_986, by decide +kernel⟩
theorem cv_RX9_156 : CV RX9 156 RX9 yX9_goes cX9_goes 6 none 2 := ⟨k_979, k_981, ks_41, k_11, k_982, by decide +kernel⟩
theorem cv_RX9_160 : CV RX9 160 RX9 yX9_ranks cX9_ranks 5 (some .boolean) 1 := ⟨k_961, k_963, ks_38, k_11, k_964, by decide +kernel⟩
theorem cv_RX9_166 : CV RX9 166 RX9 yX9_leastOf cX9_leastOf 3 none 1 := ⟨k_991, k_993, ks_44, k_11, k_994, by decide +kernel⟩
theorem cv_RX9_170 : CV RX9 170 RX9 yX9_sorts cX9_sorts 3 none 0 := ⟨k_998, k_1000, ks_45, k_11, k_1001, by decide +kernel⟩
theorem cv_RX9_177 : CV RX9 177 RX9 yX9_isBefore cX9_isBefore 4 (some .boolean) 2 := ⟨k_1002, k_1004, ks_46, k_11, k_1005, by decide +kernel⟩
