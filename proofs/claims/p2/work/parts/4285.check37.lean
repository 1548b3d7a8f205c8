set_option maxRecDepth 100000 in
set_option maxHeartbeats 4000000 in
theorem kjK_146_40 : ((kjT_146.drop 40).take 20).all (mv_rowB kjW_146 kjCl kjKd kjP kjStn kjM_146) = true := by decide +kernel
set_option maxRecDepth 100000 in
set_option maxHeartbeats 4000000 in
theorem kjK_146_60 : ((kjT_146.drop 60).take 20).all (mv_rowB kjW_146 kjCl kjKd kjP kjStn kjM_146) = true := by decide +kernel
set_option maxRecDepth 100000 in
set_option maxHeartbeats 4000000 in
theorem kjK_146_80 : ((kjT_146.drop 80).take 20).all (mv_rowB kjW_146 kjCl kjKd kjP kjStn kjM_146) = true := by decide +kernel
set_option maxRecDepth 100000 in
set_option maxHeartbeats 4000000 in
theorem kjK_146_100 : (kjT_146.drop 100).all (mv_rowB kjW_146 kjCl kjKd kjP kjStn kjM_146) = true := by decide +kernel
set_option maxRecDepth 100000 in
set_option maxHeartbeats 4000000 in
theorem kjK_146 : mv_mkB kjW_146 kjCl kjKd kjP kjStn kjM_146 = true := mv_mkB_of kjH_146 (mv_all_split (l := kjT_146) 20 kjK_146_0 (mv_all_split (l := (kjT_146.drop 20)) 20 kjK_146_20 (show ((kjT_146.drop 20).drop 20).all _ = true by rw [List.drop_drop]; exact (mv_all_split (l := (kjT_146.drop 40)) 20 kjK_146_40 (show ((kjT_146.drop 40).drop 20).all _ = true by rw [List.drop_drop]; exact (mv_all_split (l := (kjT_146.drop 60)) 20 kjK_146_60 (show ((kjT_146.drop 60).drop 20).all _ = true by rw [List.drop_drop]; exact (mv_all_split (l := (kjT_146.drop 80)) 20 kjK_146_80 (show ((kjT_146.drop 80).drop 20).all _ = true by rw [List.drop_drop]; exact kjK_146_100)))))))))
def kjW_147 : List Jvm.Cond := [(Jvm.Cond.code ({ cls := "KindJudgeModel", name := "isKind", desc := "(I)Z" } : Jvm.MethodName) prog_11_method_49_code (2 : Nat) (Option.some Jvm.ClassFile.FieldType.boolean)), (Jvm.Cond.initialized "KindJudgeModel"), (Jvm.Cond.fieldLink "KindJudgeModel" (97 : Nat) "KindJudgeModel" "classes" "I"), (Jvm.Cond.methodLink "KindJudgeModel" (93 : Nat) ({ cls := "KindJudgeModel", name := "within", desc := "(III)Z" } : Jvm.MethodName)), (Jvm.Cond.static ({ cls := "KindJudgeModel", name := "within", desc := "(III)Z" } : Jvm.MethodName))]
set_option maxRecDepth 100000 in
set_option maxHeartbeats 4000000 in
theorem kjS_147 : ∀ w ∈ kjW_147, w ∈ lw_tbl := mv_sub_of [1131, 74, 842, 963, 964] (by decide +kernel)
set_option maxRecDepth 100000 in
set_option maxHeartbeats 4000000 in
theorem kjK_147 : mv_mkB kjW_147 kjCl kjKd kjP kjStn kjM_147 = true := by decide +kernel
def kjW_148 : List Jvm.Cond := [(Jvm.Cond.code ({ cls := "KindJudgeModel", name := "fits", desc := "(II)I" } : Jvm.MethodName) prog_11_method_50_code (3 : Nat) (Option.some Jvm.ClassFile.FieldType.int)), (Jvm.Cond.initialized "KindJudgeModel"), (Jvm.Cond.fieldLink "KindJudgeModel" (74 : Nat) "KindJudgeModel" "thrown" "I"), (Jvm.Cond.fieldLink "KindJudgeModel" (184 : Nat) "KindJudgeModel" "isFile" "Z"), (Jvm.Cond.methodLink "KindJudgeModel" (253 : Nat) ({ cls := "KindJudgeModel", name := "isKind", desc := "(I)Z" } : Jvm.MethodName)), (Jvm.Cond.instanceMethod ({ cls := "KindJudgeModel", name := "isKind", desc := "(I)Z" } : Jvm.MethodName)), (Jvm.Cond.selects "KindJudgeModel" ({ cls := "KindJudgeModel", name := "isKind", desc := "(I)Z" } : Jvm.MethodName) ({ cls := "KindJudgeModel", name := "isKind", desc := "(I)Z" } : Jvm.MethodName)), (Jvm.Cond.methodLink "KindJudgeModel" (232 : Nat) ({ cls := "KindJudgeModel", name := "isFit", desc := "(II)Z" } : Jvm.MethodName)), (Jvm.Cond.instanceMethod ({ cls := "KindJudgeModel", name := "isFit", desc := "(II)Z" } : Jvm.MethodName)), (Jvm.Cond.selects "KindJudgeModel" ({ cls := "KindJudgeModel", name := "isFit", desc := "(II)Z" } : Jvm.MethodName) ({ cls := "KindJudgeModel", name := "isFit", desc := "(II)Z" } : Jvm.MethodName))]
set_option maxRecDepth 100000 in
set_option maxHeartbeats 4000000 in
theorem kjS_148 : ∀ w ∈ kjW_148, w ∈ lw_tbl := mv_sub_of [1127, 74, 830, 838, 1128, 1130, 63, 1068, 1070, 54] (by decide +kernel)
set_option maxRecDepth 100000 in
set_option maxHeartbeats 4000000 in
theorem kjK_148 : mv_mkB kjW_148 kjCl kjKd kjP kjStn kjM_148 = true := by decide +kernel
def kjW_149 : List Jvm.Cond := [(Jvm.Cond.code ({ cls := "KindJudgeModel", name := "meet", desc := "(II)I" } : Jvm.MethodName) prog_11_method_51_code (3 : Nat) (Option.some Jvm.ClassFile.FieldType.int)), (Jvm.Cond.initialized "KindJudgeModel"), (Jvm.Cond.fieldLink "KindJudgeModel" (74 : Nat) "KindJudgeModel" "thrown" "I"), (Jvm.Cond.fieldLink "KindJudgeModel" (184 : Nat) "KindJudgeModel" "isFile" "Z"), (Jvm.Cond.methodLink "KindJudgeModel" (253 : Nat) ({ cls := "KindJudgeModel", name := "isKind", desc := "(I)Z" } : Jvm.MethodName)), (Jvm.Cond.instanceMethod ({ cls := "KindJudgeModel", name := "isKind", desc := "(I)Z" } : Jvm.MethodName)), (Jvm.Cond.selects "KindJudgeModel" ({ cls := "KindJudgeModel", name := "isKind", desc := "(I)Z" } : Jvm.MethodName) ({ cls := "KindJudgeModel", name := "isKind", desc := "(I)Z" } : Jvm.MethodName)), (Jvm.Cond.methodLink "KindJudgeModel" (199 : Nat) ({ cls := "KindJudgeModel", name := "joined", desc := "(II)I" } : Jvm.MethodName)), (Jvm.Cond.instanceMethod ({ cls := "KindJudgeModel", name := "joined", desc := "(II)I" } : Jvm.MethodName)), (Jvm.Cond.selects "KindJudgeModel" ({ cls := "KindJudgeModel", name := "joined", desc := "(II)I" } : Jvm.MethodName) ({ cls := "KindJudgeModel", name := "joined", desc := "(II)I" } : Jvm.MethodName))]
set_option maxRecDepth 100000 in
set_option maxHeartbeats 4000000 in
theorem kjS_149 : ∀ w ∈ kjW_149, w ∈ lw_tbl := mv_sub_of [1135, 74, 830, 838, 1128, 1130, 63, 1033, 1035, 46] (by decide +kernel)
set_option maxRecDepth 100000 in
set_option maxHeartbeats 4000000 in
theorem kjK_149 : mv_mkB kjW_149 kjCl kjKd kjP kjStn kjM_149 = true := by decide +kernel
def kjW_150 : List Jvm.Cond := [(Jvm.Cond.code ({ cls := "KindJudgeModel", name := "method", desc := "(II)I" } : Jvm.MethodName) prog_11_method_52_code (3 : Nat) (Option.some Jvm.ClassFile.FieldType.int)), (Jvm.Cond.initialized "KindJudgeModel"), (Jvm.Cond.fieldLink "KindJudgeModel" (74 : Nat) "KindJudgeModel" "thrown" "I"), (Jvm.Cond.fieldLink "KindJudgeModel" (184 : Nat) "KindJudgeModel" "isFile" "Z"), (Jvm.Cond.fieldLink "KindJudgeModel" (97 : Nat) "KindJudgeModel" "classes" "I"), (Jvm.Cond.methodLink "KindJudgeModel" (93 : Nat) ({ cls := "KindJudgeModel", name := "within", desc := "(III)Z" } : Jvm.MethodName)), (Jvm.Cond.static ({ cls := "KindJudgeModel", name := "within", desc := "(III)Z" } : Jvm.MethodName)), (Jvm.Cond.fieldLink "KindJudgeModel" (124 : Nat) "KindJudgeModel" "selectors" "I"), (Jvm.Cond.methodLink "KindJudgeModel" (235 : Nat) ({ cls := "KindJudgeModel", name := "resolve", desc := "(II)I" } : Jvm.MethodName)), (Jvm.Cond.instanceMethod ({ cls := "KindJudgeModel", name := "resolve", desc := "(II)I" } : Jvm.MethodName)), (Jvm.Cond.selects "KindJudgeModel" ({ cls := "KindJudgeModel", name := "resolve", desc := "(II)I" } : Jvm.MethodName) ({ cls := "KindJudgeModel", name := "resolve", desc := "(II)I" } : Jvm.MethodName))]
set_option maxRecDepth 100000 in
set_option maxHeartbeats 4000000 in
theorem kjS_150 : ∀ w ∈ kjW_150, w ∈ lw_tbl := mv_sub_of [1139, 74, 830, 838, 842, 963, 964, 846, 1072, 1074, 55] (by decide +kernel)
set_option maxRecDepth 100000 in
set_option maxHeartbeats 4000000 in
theorem kjK_150 : mv_mkB kjW_150 kjCl kjKd kjP kjStn kjM_150 = true := by decide +kernel
def kjW_151 : List Jvm.Cond := [(Jvm.Cond.code ({ cls := "KindJudgeModel", name := "type", desc := "(II)I" } : Jvm.MethodName) prog_11_method_53_code (3 : Nat) (Option.some Jvm.ClassFile.FieldType.int)), (Jvm.Cond.initialized "KindJudgeModel"), (Jvm.Cond.fieldLink "KindJudgeModel" (74 : Nat) "KindJudgeModel" "thrown" "I"), (Jvm.Cond.fieldLink "KindJudgeModel" (184 : Nat) "KindJudgeModel" "isFile" "Z"), (Jvm.Cond.fieldLink "KindJudgeModel" (97 : Nat) "KindJudgeModel" "classes" "I"), (Jvm.Cond.methodLink "KindJudgeModel" (93 : Nat) ({ cls := "KindJudgeModel", name := "within", desc := "(III)Z" } : Jvm.MethodName)), (Jvm.Cond.static ({ cls := "KindJudgeModel", name := "within", desc := "(III)Z" } : Jvm.MethodName)), (Jvm.Cond.fieldLink "KindJudgeModel" (19 : Nat) "KindJudgeModel" "above" "[I"), (Jvm.Cond.fieldLink "KindJudgeModel" (22 : Nat) "KindJudgeModel" "fields" "[I"), (Jvm.Cond.fieldLink "KindJudgeModel" (25 : Nat) "KindJudgeModel" "fieldType" "[I")]
set_option maxRecDepth 100000 in
set_option maxHeartbeats 4000000 in
theorem kjS_151 : ∀ w ∈ kjW_151, w ∈ lw_tbl := mv_sub_of [1143, 74, 830, 838, 842, 963, 964, 843, 844, 845] (by decide +kernel)
set_option maxRecDepth 100000 in
set_option maxHeartbeats 4000000 in
theorem kjK_151 : mv_mkB kjW_151 kjCl kjKd kjP kjStn kjM_151 = true := by decide +kernel
