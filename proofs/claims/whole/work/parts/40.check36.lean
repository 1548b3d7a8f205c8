set_option maxRecDepth 100000 in
set_option maxHeartbeats 4000000 in
theorem kjK_147 : mv_mkB kjW_147 kjCl kjKd kjP kjStn kjM_147 = true := mv_mkB_of kjH_147 (mv_all_split (l := kjT_147) 40 kjK_147_0 (mv_all_split (l := (kjT_147.drop 40)) 40 kjK_147_40 (show ((kjT_147.drop 40).drop 40).all _ = true by rw [List.drop_drop]; exact kjK_147_80)))
def kjW_148 : List Jvm.Cond := [(Jvm.Cond.code ({ cls := "KindJudgeModel", name := "isKind", desc := "(I)Z" } : Jvm.MethodName) prog_11_method_49_code (2 : Nat) (Option.some Jvm.ClassFile.FieldType.boolean)), (Jvm.Cond.initialized "KindJudgeModel"), (Jvm.Cond.fieldLink "KindJudgeModel" (97 : Nat) "KindJudgeModel" "classes" "I"), (Jvm.Cond.methodLink "KindJudgeModel" (93 : Nat) ({ cls := "KindJudgeModel", name := "within", desc := "(III)Z" } : Jvm.MethodName)), (Jvm.Cond.static ({ cls := "KindJudgeModel", name := "within", desc := "(III)Z" } : Jvm.MethodName))]
set_option maxRecDepth 100000 in
set_option maxHeartbeats 4000000 in
theorem kjS_148 : ∀ w ∈ kjW_148, w ∈ lw_tbl := mv_sub_of [1135, 74, 842, 967, 968] (by decide +kernel)
set_option maxRecDepth 100000 in
set_option maxHeartbeats 4000000 in
theorem kjK_148 : mv_mkB kjW_148 kjCl kjKd kjP kjStn kjM_148 = true := by decide +kernel
def kjW_149 : List Jvm.Cond := [(Jvm.Cond.code ({ cls := "KindJudgeModel", name := "fits", desc := "(II)I" } : Jvm.MethodName) prog_11_method_50_code (3 : Nat) (Option.some Jvm.ClassFile.FieldType.int)), (Jvm.Cond.initialized "KindJudgeModel"), (Jvm.Cond.fieldLink "KindJudgeModel" (74 : Nat) "KindJudgeModel" "thrown" "I"), (Jvm.Cond.fieldLink "KindJudgeModel" (184 : Nat) "KindJudgeModel" "isFile" "Z"), (Jvm.Cond.methodLink "KindJudgeModel" (253 : Nat) ({ cls := "KindJudgeModel", name := "isKind", desc := "(I)Z" } : Jvm.MethodName)), (Jvm.Cond.instanceMethod ({ cls := "KindJudgeModel", name := "isKind", desc := "(I)Z" } : Jvm.MethodName)), (Jvm.Cond.selects "KindJudgeModel" ({ cls := "KindJudgeModel", name := "isKind", desc := "(I)Z" } : Jvm.MethodName) ({ cls := "KindJudgeModel", name := "isKind", desc := "(I)Z" } : Jvm.MethodName)), (Jvm.Cond.methodLink "KindJudgeModel" (232 : Nat) ({ cls := "KindJudgeModel", name := "isFit", desc := "(II)Z" } : Jvm.MethodName)), (Jvm.Cond.instanceMethod ({ cls := "KindJudgeModel", name := "isFit", desc := "(II)Z" } : Jvm.MethodName)), (Jvm.Cond.selects "KindJudgeModel" ({ cls := "KindJudgeModel", name := "isFit", desc := "(II)Z" } : Jvm.MethodName) ({ cls := "KindJudgeModel", name := "isFit", desc := "(II)Z" } : Jvm.MethodName))]
set_option maxRecDepth 100000 in
set_option maxHeartbeats 4000000 in
theorem kjS_149 : ∀ w ∈ kjW_149, w ∈ lw_tbl := mv_sub_of [1131, 74, 830, 838, 1132, 1134, 63, 1072, 1074, 54] (by decide +kernel)
set_option maxRecDepth 100000 in
set_option maxHeartbeats 4000000 in
theorem kjK_149 : mv_mkB kjW_149 kjCl kjKd kjP kjStn kjM_149 = true := by decide +kernel
def kjW_150 : List Jvm.Cond := [(Jvm.Cond.code ({ cls := "KindJudgeModel", name := "meet", desc := "(II)I" } : Jvm.MethodName) prog_11_method_51_code (3 : Nat) (Option.some Jvm.ClassFile.FieldType.int)), (Jvm.Cond.initialized "KindJudgeModel"), (Jvm.Cond.fieldLink "KindJudgeModel" (74 : Nat) "KindJudgeModel" "thrown" "I"), (Jvm.Cond.fieldLink "KindJudgeModel" (184 : Nat) "KindJudgeModel" "isFile" "Z"), (Jvm.Cond.methodLink "KindJudgeModel" (253 : Nat) ({ cls := "KindJudgeModel", name := "isKind", desc := "(I)Z" } : Jvm.MethodName)), (Jvm.Cond.instanceMethod ({ cls := "KindJudgeModel", name := "isKind", desc := "(I)Z" } : Jvm.MethodName)), (Jvm.Cond.selects "KindJudgeModel" ({ cls := "KindJudgeModel", name := "isKind", desc := "(I)Z" } : Jvm.MethodName) ({ cls := "KindJudgeModel", name := "isKind", desc := "(I)Z" } : Jvm.MethodName)), (Jvm.Cond.methodLink "KindJudgeModel" (199 : Nat) ({ cls := "KindJudgeModel", name := "joined", desc := "(II)I" } : Jvm.MethodName)), (Jvm.Cond.instanceMethod ({ cls := "KindJudgeModel", name := "joined", desc := "(II)I" } : Jvm.MethodName)), (Jvm.Cond.selects "KindJudgeModel" ({ cls := "KindJudgeModel", name := "joined", desc := "(II)I" } : Jvm.MethodName) ({ cls := "KindJudgeModel", name := "joined", desc := "(II)I" } : Jvm.MethodName))]
set_option maxRecDepth 100000 in
set_option maxHeartbeats 4000000 in
theorem kjS_150 : ∀ w ∈ kjW_150, w ∈ lw_tbl := mv_sub_of [1139, 74, 830, 838, 1132, 1134, 63, 1037, 1039, 46] (by decide +kernel)
set_option maxRecDepth 100000 in
set_option maxHeartbeats 4000000 in
theorem kjK_150 : mv_mkB kjW_150 kjCl kjKd kjP kjStn kjM_150 = true := by decide +kernel
def kjW_151 : List Jvm.Cond := [(Jvm.Cond.code ({ cls := "KindJudgeModel", name := "method", desc := "(II)I" } : Jvm.MethodName) prog_11_method_52_code (3 : Nat) (Option.some Jvm.ClassFile.FieldType.int)), (Jvm.Cond.initialized "KindJudgeModel"), (Jvm.Cond.fieldLink "KindJudgeModel" (74 : Nat) "KindJudgeModel" "thrown" "I"), (Jvm.Cond.fieldLink "KindJudgeModel" (184 : Nat) "KindJudgeModel" "isFile" "Z"), (Jvm.Cond.fieldLink "KindJudgeModel" (97 : Nat) "KindJudgeModel" "classes" "I"), (Jvm.Cond.methodLink "KindJudgeModel" (93 : Nat) ({ cls := "KindJudgeModel", name := "within", desc := "(III)Z" } : Jvm.MethodName)), (Jvm.Cond.static ({ cls := "KindJudgeModel", name := "within", desc := "(III)Z" } : Jvm.MethodName)), (Jvm.Cond.fieldLink "KindJudgeModel" (124 : Nat) "KindJudgeModel" "selectors" "I"), (Jvm.Cond.methodLink "KindJudgeModel" (235 : Nat) ({ cls := "KindJudgeModel", name := "resolve", desc := "(II)I" } : Jvm.MethodName)), (Jvm.Cond.instanceMethod ({ cls := "KindJudgeModel", name := "resolve", desc := "(II)I" } : Jvm.MethodName)), (Jvm.Cond.selects "KindJudgeModel" ({ cls := "KindJudgeModel", name := "resolve", desc := "(II)I" } : Jvm.MethodName) ({ cls := "KindJudgeModel", name := "resolve", desc := "(II)I" } : Jvm.MethodName))]
set_option maxRecDepth 100000 in
set_option maxHeartbeats 4000000 in
theorem kjS_151 : ∀ w ∈ kjW_151, w ∈ lw_tbl := mv_sub_of [1143, 74, 830, 838, 842, 967, 968, 846, 1076, 1078, 55] (by decide +kernel)
set_option maxRecDepth 100000 in
set_option maxHeartbeats 4000000 in
theorem kjK_151 : mv_mkB kjW_151 kjCl kjKd kjP kjStn kjM_151 = true := by decide +kernel
def kjW_152 : List Jvm.Cond := [(Jvm.Cond.code ({ cls := "KindJudgeModel", name := "type", desc := "(II)I" } : Jvm.MethodName) prog_11_method_53_code (3 : Nat) (Option.some Jvm.ClassFile.FieldType.int)), (Jvm.Cond.initialized "KindJudgeModel"), (Jvm.Cond.fieldLink "KindJudgeModel" (74 : Nat) "KindJudgeModel" "thrown" "I"), (Jvm.Cond.fieldLink "KindJudgeModel" (184 : Nat) "KindJudgeModel" "isFile" "Z"), (Jvm.Cond.fieldLink "KindJudgeModel" (97 : Nat) "KindJudgeModel" "classes" "I"), (Jvm.Cond.methodLink "KindJudgeModel" (93 : Nat) ({ cls := "KindJudgeModel", name := "within", desc := "(III)Z" } : Jvm.MethodName)), (Jvm.Cond.static ({ cls := "KindJudgeModel", name := "within", desc := "(III)Z" } : Jvm.MethodName)), (Jvm.Cond.fieldLink "KindJudgeModel" (19 : Nat) "KindJudgeModel" "above" "[I"), (Jvm.Cond.fieldLink "KindJudgeModel" (22 : Nat) "KindJudgeModel" "fields" "[I"), (Jvm.Cond.fieldLink "KindJudgeModel" (25 : Nat) "KindJudgeModel" "fieldType" "[I")]
set_option maxRecDepth 100000 in
set_option maxHeartbeats 4000000 in
theorem kjS_152 : ∀ w ∈ kjW_152, w ∈ lw_tbl := mv_sub_of [1147, 74, 830, 838, 842, 967, 968, 843, 844, 845] (by decide +kernel)
set_option maxRecDepth 100000 in
set_option maxHeartbeats 4000000 in
theorem kjK_152 : mv_mkB kjW_152 kjCl kjKd kjP kjStn kjM_152 = true := by decide +kernel
def kjW_153 : List Jvm.Cond := [(Jvm.Cond.code ({ cls := "KindJudgeModel", name := "total", desc := "(I)I" } : Jvm.MethodName) prog_11_method_54_code (2 : Nat) (Option.some Jvm.ClassFile.FieldType.int)), (Jvm.Cond.initialized "KindJudgeModel"), (Jvm.Cond.fieldLink "KindJudgeModel" (74 : Nat) "KindJudgeModel" "thrown" "I"), (Jvm.Cond.fieldLink "KindJudgeModel" (184 : Nat) "KindJudgeModel" "isFile" "Z"), (Jvm.Cond.fieldLink "KindJudgeModel" (114 : Nat) "KindJudgeModel" "methods" "I"), (Jvm.Cond.fieldLink "KindJudgeModel" (97 : Nat) "KindJudgeModel" "classes" "I"), (Jvm.Cond.fieldLink "KindJudgeModel" (124 : Nat) "KindJudgeModel" "selectors" "I"), (Jvm.Cond.fieldLink "KindJudgeModel" (78 : Nat) "KindJudgeModel" "together" "I"), (Jvm.Cond.fieldLink "KindJudgeModel" (187 : Nat) "KindJudgeModel" "goods" "I")]
set_option maxRecDepth 100000 in
set_option maxHeartbeats 4000000 in
theorem kjS_153 : ∀ w ∈ kjW_153, w ∈ lw_tbl := mv_sub_of [1151, 74, 830, 838, 850, 842, 846, 832, 831] (by decide +kernel)
set_option maxRecDepth 100000 in
set_option maxHeartbeats 4000000 in
theorem kjK_153 : mv_mkB kjW_153 kjCl kjKd kjP kjStn kjM_153 = true := by decide +kernel
