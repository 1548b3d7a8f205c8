set_option maxRecDepth 100000 in
set_option maxHeartbeats 4000000 in
theorem kjK_135_160 : (kjT_135.drop 160).all (mv_rowB kjW_135 kjCl kjKd kjP kjStn kjM_135) = true := by decide +kernel
set_option maxRecDepth 100000 in
set_option maxHeartbeats 4000000 in
theorem kjK_135 : mv_mkB kjW_135 kjCl kjKd kjP kjStn kjM_135 = true := mv_mkB_of kjH_135 (mv_all_split (l := kjT_135) 40 kjK_135_0 (mv_all_split (l := (kjT_135.drop 40)) 40 kjK_135_40 (show ((kjT_135.drop 40).drop 40).all _ = true by rw [List.drop_drop]; exact (mv_all_split (l := (kjT_135.drop 80)) 40 kjK_135_80 (show ((kjT_135.drop 80).drop 40).all _ = true by rw [List.drop_drop]; exact (mv_all_split (l := (kjT_135.drop 120)) 40 kjK_135_120 (show ((kjT_135.drop 120).drop 40).all _ = true by rw [List.drop_drop]; exact kjK_135_160)))))))
def kjW_136 : List Jvm.Cond := [(Jvm.Cond.code ({ cls := "KindJudgeModel", name := "isFit", desc := "(II)Z" } : Jvm.MethodName) prog_11_method_37_code (3 : Nat) (Option.some Jvm.ClassFile.FieldType.boolean)), (Jvm.Cond.initialized "KindJudgeModel"), (Jvm.Cond.methodLink "KindJudgeModel" (107 : Nat) ({ cls := "KindJudgeModel", name := "isBelow", desc := "(II)Z" } : Jvm.MethodName)), (Jvm.Cond.instanceMethod ({ cls := "KindJudgeModel", name := "isBelow", desc := "(II)Z" } : Jvm.MethodName)), (Jvm.Cond.selects "KindJudgeModel" ({ cls := "KindJudgeModel", name := "isBelow", desc := "(II)Z" } : Jvm.MethodName) ({ cls := "KindJudgeModel", name := "isBelow", desc := "(II)Z" } : Jvm.MethodName))]
set_option maxRecDepth 100000 in
set_option maxHeartbeats 4000000 in
theorem kjS_136 : ∀ w ∈ kjW_136, w ∈ lw_tbl := mv_sub_of [1075, 74, 998, 1000, 37] (by decide +kernel)
set_option maxRecDepth 100000 in
set_option maxHeartbeats 4000000 in
theorem kjK_136 : mv_mkB kjW_136 kjCl kjKd kjP kjStn kjM_136 = true := by decide +kernel
def kjW_137 : List Jvm.Cond := [(Jvm.Cond.code ({ cls := "KindJudgeModel", name := "isThing", desc := "(I)Z" } : Jvm.MethodName) prog_11_method_38_code (1 : Nat) (Option.some Jvm.ClassFile.FieldType.boolean)), (Jvm.Cond.initialized "KindJudgeModel")]
set_option maxRecDepth 100000 in
set_option maxHeartbeats 4000000 in
theorem kjS_137 : ∀ w ∈ kjW_137, w ∈ lw_tbl := mv_sub_of [1071, 74] (by decide +kernel)
set_option maxRecDepth 100000 in
set_option maxHeartbeats 4000000 in
theorem kjK_137 : mv_mkB kjW_137 kjCl kjKd kjP kjStn kjM_137 = true := by decide +kernel
def kjW_138 : List Jvm.Cond := [(Jvm.Cond.code ({ cls := "KindJudgeModel", name := "isWrong", desc := "(II)Z" } : Jvm.MethodName) prog_11_method_39_code (11 : Nat) (Option.some Jvm.ClassFile.FieldType.boolean)), (Jvm.Cond.initialized "KindJudgeModel"), (Jvm.Cond.fieldLink "KindJudgeModel" (65 : Nat) "KindJudgeModel" "height" "[I"), (Jvm.Cond.methodLink "KindJudgeModel" (209 : Nat) ({ cls := "KindJudgeModel", name := "behind", desc := "(II)V" } : Jvm.MethodName)), (Jvm.Cond.instanceMethod ({ cls := "KindJudgeModel", name := "behind", desc := "(II)V" } : Jvm.MethodName)), (Jvm.Cond.selects "KindJudgeModel" ({ cls := "KindJudgeModel", name := "behind", desc := "(II)V" } : Jvm.MethodName) ({ cls := "KindJudgeModel", name := "behind", desc := "(II)V" } : Jvm.MethodName)), (Jvm.Cond.fieldLink "KindJudgeModel" (212 : Nat) "KindJudgeModel" "breaks" "Z"), (Jvm.Cond.fieldLink "KindJudgeModel" (196 : Nat) "KindJudgeModel" "nextHeight" "I"), (Jvm.Cond.fieldLink "KindJudgeModel" (49 : Nat) "KindJudgeModel" "most" "[I"), (Jvm.Cond.methodLink "KindJudgeModel" (137 : Nat) ({ cls := "KindJudgeModel", name := "byteAt", desc := "(II)I" } : Jvm.MethodName)), (Jvm.Cond.instanceMethod ({ cls := "KindJudgeModel", name := "byteAt", desc := "(II)I" } : Jvm.MethodName)), (Jvm.Cond.selects "KindJudgeModel" ({ cls := "KindJudgeModel", name := "byteAt", desc := "(II)I" } : Jvm.MethodName) ({ cls := "KindJudgeModel", name := "byteAt", desc := "(II)I" } : Jvm.MethodName)), (Jvm.Cond.fieldLink "KindJudgeModel" (52 : Nat) "KindJudgeModel" "size" "[I"), (Jvm.Cond.fieldLink "KindJudgeModel" (68 : Nat) "KindJudgeModel" "kinds" "[I"), (Jvm.Cond.methodLink "KindJudgeModel" (228 : Nat) ({ cls := "KindJudgeModel", name := "isThing", desc := "(I)Z" } : Jvm.MethodName)), (Jvm.Cond.static ({ cls := "KindJudgeModel", name := "isThing", desc := "(I)Z" } : Jvm.MethodName)), (Jvm.Cond.methodLink "KindJudgeModel" (232 : Nat) ({ cls := "KindJudgeModel", name := "isFit", desc := "(II)Z" } : Jvm.MethodName)), (Jvm.Cond.instanceMethod ({ cls := "KindJudgeModel", name := "isFit", desc := "(II)Z" } : Jvm.MethodName)), (Jvm.Cond.selects "KindJudgeModel" ({ cls := "KindJudgeModel", name := "isFit", desc := "(II)Z" } : Jvm.MethodName) ({ cls := "KindJudgeModel", name := "isFit", desc := "(II)Z" } : Jvm.MethodName)), (Jvm.Cond.fieldLink "KindJudgeModel" (25 : Nat) "KindJudgeModel" "fieldType" "[I"), (Jvm.Cond.fieldLink "KindJudgeModel" (37 : Nat) "KindJudgeModel" "params" "[I"), (Jvm.Cond.fieldLink "KindJudgeModel" (40 : Nat) "KindJudgeModel" "paramType" "[I"), (Jvm.Cond.fieldLink "KindJudgeModel" (28 : Nat) "KindJudgeModel" "selParams" "[I"), (Jvm.Cond.fieldLink "KindJudgeModel" (31 : Nat) "KindJudgeModel" "selType" "[I"), (Jvm.Cond.methodLink "KindJudgeModel" (235 : Nat) ({ cls := "KindJudgeModel", name := "resolve", desc := "(II)I" } : Jvm.MethodName)), (Jvm.Cond.instanceMethod ({ cls := "KindJudgeModel", name := "resolve", desc := "(II)I" } : Jvm.MethodName)), (Jvm.Cond.selects "KindJudgeModel" ({ cls := "KindJudgeModel", name := "resolve", desc := "(II)I" } : Jvm.MethodName) ({ cls := "KindJudgeModel", name := "resolve", desc := "(II)I" } : Jvm.MethodName)), (Jvm.Cond.fieldLink "KindJudgeModel" (43 : Nat) "KindJudgeModel" "returns" "[I")]
set_option maxRecDepth 100000 in
set_option maxHeartbeats 4000000 in
theorem kjS_138 : ∀ w ∈ kjW_138, w ∈ lw_tbl := mv_sub_of [1068, 74, 860, 1045, 1047, 48, 864, 863, 855, 1014, 1016, 41, 856, 861, 1069, 1070, 1072, 1074, 54, 845, 851, 852, 847, 848, 1076, 1078, 55, 853] (by decide +kernel)
set_option maxRecDepth 100000 in
set_option maxHeartbeats 4000000 in
theorem kjH_138 : mv_hdB kjW_138 kjM_138 = true := by decide +kernel
set_option maxRecDepth 100000 in
set_option maxHeartbeats 4000000 in
theorem kjK_138_0 : (kjT_138.take 40).all (mv_rowB kjW_138 kjCl kjKd kjP kjStn kjM_138) = true := by decide +kernel
set_option maxRecDepth 100000 in
set_option maxHeartbeats 4000000 in
theorem kjK_138_40 : ((kjT_138.drop 40).take 40).all (mv_rowB kjW_138 kjCl kjKd kjP kjStn kjM_138) = true := by decide +kernel
