def kjW_134 : List Jvm.Cond := [(Jvm.Cond.code ({ cls := "KindJudgeModel", name := "behind", desc := "(II)V" } : Jvm.MethodName) prog_11_method_36_code (8 : Nat) (Option.none : Option Jvm.ClassFile.FieldType)), (Jvm.Cond.initialized "KindJudgeModel"), (Jvm.Cond.methodLink "KindJudgeModel" (137 : Nat) ({ cls := "KindJudgeModel", name := "byteAt", desc := "(II)I" } : Jvm.MethodName)), (Jvm.Cond.instanceMethod ({ cls := "KindJudgeModel", name := "byteAt", desc := "(II)I" } : Jvm.MethodName)), (Jvm.Cond.selects "KindJudgeModel" ({ cls := "KindJudgeModel", name := "byteAt", desc := "(II)I" } : Jvm.MethodName) ({ cls := "KindJudgeModel", name := "byteAt", desc := "(II)I" } : Jvm.MethodName)), (Jvm.Cond.fieldLink "KindJudgeModel" (52 : Nat) "KindJudgeModel" "size" "[I"), (Jvm.Cond.fieldLink "KindJudgeModel" (71 : Nat) "KindJudgeModel" "next" "[I"), (Jvm.Cond.fieldLink "KindJudgeModel" (68 : Nat) "KindJudgeModel" "kinds" "[I"), (Jvm.Cond.fieldLink "KindJudgeModel" (65 : Nat) "KindJudgeModel" "height" "[I"), (Jvm.Cond.fieldLink "KindJudgeModel" (196 : Nat) "KindJudgeModel" "nextHeight" "I"), (Jvm.Cond.fieldLink "KindJudgeModel" (212 : Nat) "KindJudgeModel" "breaks" "Z"), (Jvm.Cond.methodLink "KindJudgeModel" (219 : Nat) ({ cls := "KindJudgeModel", name := "takes", desc := "(II)I" } : Jvm.MethodName)), (Jvm.Cond.instanceMethod ({ cls := "KindJudgeModel", name := "takes", desc := "(II)I" } : Jvm.MethodName)), (Jvm.Cond.selects "KindJudgeModel" ({ cls := "KindJudgeModel", name := "takes", desc := "(II)I" } : Jvm.MethodName) ({ cls := "KindJudgeModel", name := "takes", desc := "(II)I" } : Jvm.MethodName)), (Jvm.Cond.methodLink "KindJudgeModel" (222 : Nat) ({ cls := "KindJudgeModel", name := "drop", desc := "(I)V" } : Jvm.MethodName)), (Jvm.Cond.instanceMethod ({ cls := "KindJudgeModel", name := "drop", desc := "(I)V" } : Jvm.MethodName)), (Jvm.Cond.selects "KindJudgeModel" ({ cls := "KindJudgeModel", name := "drop", desc := "(I)V" } : Jvm.MethodName) ({ cls := "KindJudgeModel", name := "drop", desc := "(I)V" } : Jvm.MethodName)), (Jvm.Cond.methodLink "KindJudgeModel" (225 : Nat) ({ cls := "KindJudgeModel", name := "pushKind", desc := "(I)V" } : Jvm.MethodName)), (Jvm.Cond.instanceMethod ({ cls := "KindJudgeModel", name := "pushKind", desc := "(I)V" } : Jvm.MethodName)), (Jvm.Cond.selects "KindJudgeModel" ({ cls := "KindJudgeModel", name := "pushKind", desc := "(I)V" } : Jvm.MethodName) ({ cls := "KindJudgeModel", name := "pushKind", desc := "(I)V" } : Jvm.MethodName)), (Jvm.Cond.fieldLink "KindJudgeModel" (25 : Nat) "KindJudgeModel" "fieldType" "[I"), (Jvm.Cond.fieldLink "KindJudgeModel" (43 : Nat) "KindJudgeModel" "returns" "[I"), (Jvm.Cond.fieldLink "KindJudgeModel" (34 : Nat) "KindJudgeModel" "selReturn" "[I")]
set_option maxRecDepth 100000 in
set_option maxHeartbeats 4000000 in
theorem kjS_134 : ∀ w ∈ kjW_134, w ∈ lw_tbl := mv_sub_of [1044, 74, 1010, 1012, 41, 856, 862, 861, 860, 863, 864, 1045, 1047, 49, 1049, 1051, 50, 1057, 1059, 52, 845, 853, 849] (by decide +kernel)
set_option maxRecDepth 100000 in
set_option maxHeartbeats 4000000 in
theorem kjH_134 : mv_hdB kjW_134 kjM_134 = true := by decide +kernel
set_option maxRecDepth 100000 in
set_option maxHeartbeats 4000000 in
theorem kjK_134_0 : (kjT_134.take 20).all (mv_rowB kjW_134 kjCl kjKd kjP kjStn kjM_134) = true := by decide +kernel
set_option maxRecDepth 100000 in
set_option maxHeartbeats 4000000 in
theorem kjK_134_20 : ((kjT_134.drop 20).take 20).all (mv_rowB kjW_134 kjCl kjKd kjP kjStn kjM_134) = true := by decide +kernel
set_option maxRecDepth 100000 in
set_option maxHeartbeats 4000000 in
theorem kjK_134_40 : ((kjT_134.drop 40).take 20).all (mv_rowB kjW_134 kjCl kjKd kjP kjStn kjM_134) = true := by decide +kernel
set_option maxRecDepth 100000 in
set_option maxHeartbeats 4000000 in
theorem kjK_134_60 : ((kjT_134.drop 60).take 20).all (mv_rowB kjW_134 kjCl kjKd kjP kjStn kjM_134) = true := by decide +kernel
set_option maxRecDepth 100000 in
set_option maxHeartbeats 4000000 in
theorem kjK_134_80 : ((kjT_134.drop 80).take 20).all (mv_rowB kjW_134 kjCl kjKd kjP kjStn kjM_134) = true := by decide +kernel
set_option maxRecDepth 100000 in
set_option maxHeartbeats 4000000 in
theorem kjK_134_100 : ((kjT_134.drop 100).take 20).all (mv_rowB kjW_134 kjCl kjKd kjP kjStn kjM_134) = true := by decide +kernel
