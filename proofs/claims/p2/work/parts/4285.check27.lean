def kjW_137 : List Jvm.Cond := [(Jvm.Cond.code ({ cls := "KindJudgeModel", name := "isWrong", desc := "(II)Z" } : Jvm.MethodName) prog_11_method_39_code (11 : Nat) (Option.some Jvm.ClassFile.FieldType.boolean)), (Jvm.Cond.initialized "KindJudgeModel"), (Jvm.Cond.fieldLink "KindJudgeModel" (65 : Nat) "KindJudgeModel" "height" "[I"), (Jvm.Cond.methodLink "KindJudgeModel" (209 : Nat) ({ cls := "KindJudgeModel", name := "behind", desc := "(II)V" } : Jvm.MethodName)), (Jvm.Cond.instanceMethod ({ cls := "KindJudgeModel", name := "behind", desc := "(II)V" } : Jvm.MethodName)), (Jvm.Cond.selects "KindJudgeModel" ({ cls := "KindJudgeModel", name := "behind", desc := "(II)V" } : Jvm.MethodName) ({ cls := "KindJudgeModel", name := "behind", desc := "(II)V" } : Jvm.MethodName)), (Jvm.Cond.fieldLink "KindJudgeModel" (212 : Nat) "KindJudgeModel" "breaks" "Z"), (Jvm.Cond.fieldLink "KindJudgeModel" (196 : Nat) "KindJudgeModel" "nextHeight" "I"), (Jvm.Cond.fieldLink "KindJudgeModel" (49 : Nat) "KindJudgeModel" "most" "[I"), (Jvm.Cond.methodLink "KindJudgeModel" (137 : Nat) ({ cls := "KindJudgeModel", name := "byteAt", desc := "(II)I" } : Jvm.MethodName)), (Jvm.Cond.instanceMethod ({ cls := "KindJudgeModel", name := "byteAt", desc := "(II)I" } : Jvm.MethodName)), (Jvm.Cond.selects "KindJudgeModel" ({ cls := "KindJudgeModel", name := "byteAt", desc := "(II)I" } : Jvm.MethodName) ({ cls := "KindJudgeModel", name := "byteAt", desc := "(II)I" } : Jvm.MethodName)), (Jvm.Cond.fieldLink "KindJudgeModel" (52 : Nat) "KindJudgeModel" "size" "[I"), (Jvm.Cond.fieldLink "KindJudgeModel" (68 : Nat) "KindJudgeModel" "kinds" "[I"), (Jvm.Cond.methodLink "KindJudgeModel" (228 : Nat) ({ cls := "KindJudgeModel", name := "isThing", desc := "(I)Z" } : Jvm.MethodName)), (Jvm.Cond.static ({ cls := "KindJudgeModel", name := "isThing", desc := "(I)Z" } : Jvm.MethodName)), (Jvm.Cond.methodLink "KindJudgeModel" (232 : Nat) ({ cls := "KindJudgeModel", name := "isFit", desc := "(II)Z" } : Jvm.MethodName)), (Jvm.Cond.instanceMethod ({ cls := "KindJudgeModel", name := "isFit", desc := "(II)Z" } : Jvm.MethodName)), (Jvm.Cond.selects "KindJudgeModel" ({ cls := "KindJudgeModel", name := "isFit", desc := "(II)Z" } : Jvm.MethodName) ({ cls := "KindJudgeModel", name := "isFit", desc := "(II)Z" } : Jvm.MethodName)), (Jvm.Cond.fieldLink "KindJudgeModel" (25 : Nat) "KindJudgeModel" "fieldType" "[I"), (Jvm.Cond.fieldLink "KindJudgeModel" (37 : Nat) "KindJudgeModel" "params" "[I"), (Jvm.Cond.fieldLink "KindJudgeModel" (40 : Nat) "KindJudgeModel" "paramType" "[I"), (Jvm.Cond.fieldLink "KindJudgeModel" (28 : Nat) "KindJudgeModel" "selParams" "[I"), (Jvm.Cond.fieldLink "KindJudgeModel" (31 : Nat) "KindJudgeModel" "selType" "[I"), (Jvm.Cond.methodLink "KindJudgeModel" (235 : Nat) ({ cls := "KindJudgeModel", name := "resolve", desc := "(II)I" } : Jvm.MethodName)), (Jvm.Cond.instanceMethod ({ cls := "KindJudgeModel", name := "resolve", desc := "(II)I" } : Jvm.MethodName)), (Jvm.Cond.selects "KindJudgeModel" ({ cls := "KindJudgeModel", name := "resolve", desc := "(II)I" } : Jvm.MethodName) ({ cls := "KindJudgeModel", name := "resolve", desc := "(II)I" } : Jvm.MethodName)), (Jvm.Cond.fieldLink "KindJudgeModel" (43 : Nat) "KindJudgeModel" "returns" "[I")]
set_option maxRecDepth 100000 in
set_option maxHeartbeats 4000000 in
theorem kjS_137 : ∀ w ∈ kjW_137, w ∈ lw_tbl := mv_sub_of [1064, 74, 860, 1041, 1043, 48, 864, 863, 855, 1010, 1012, 41, 856, 861, 1065, 1066, 1068, 1070, 54, 845, 851, 852, 847, 848, 1072, 1074, 55, 853] (by decide +kernel)
set_option maxRecDepth 100000 in
set_option maxHeartbeats 4000000 in
theorem kjH_137 : mv_hdB kjW_137 kjM_137 = true := by decide +kernel
set_option maxRecDepth 100000 in
set_option maxHeartbeats 4000000 in
theorem kjK_137_0 : (kjT_137.take 20).all (mv_rowB kjW_137 kjCl kjKd kjP kjStn kjM_137) = true := by decide +kernel
set_option maxRecDepth 100000 in
set_option maxHeartbeats 4000000 in
theorem kjK_137_20 : ((kjT_137.drop 20).take 20).all (mv_rowB kjW_137 kjCl kjKd kjP kjStn kjM_137) = true := by decide +kernel
set_option maxRecDepth 100000 in
set_option maxHeartbeats 4000000 in
theorem kjK_137_40 : ((kjT_137.drop 40).take 20).all (mv_rowB kjW_137 kjCl kjKd kjP kjStn kjM_137) = true := by decide +kernel
set_option maxRecDepth 100000 in
set_option maxHeartbeats 4000000 in
theorem kjK_137_60 : ((kjT_137.drop 60).take 20).all (mv_rowB kjW_137 kjCl kjKd kjP kjStn kjM_137) = true := by decide +kernel
set_option maxRecDepth 100000 in
set_option maxHeartbeats 4000000 in
theorem kjK_137_80 : ((kjT_137.drop 80).take 20).all (mv_rowB kjW_137 kjCl kjKd kjP kjStn kjM_137) = true := by decide +kernel
set_option maxRecDepth 100000 in
set_option maxHeartbeats 4000000 in
theorem kjK_137_100 : ((kjT_137.drop 100).take 20).all (mv_rowB kjW_137 kjCl kjKd kjP kjStn kjM_137) = true := by decide +kernel
