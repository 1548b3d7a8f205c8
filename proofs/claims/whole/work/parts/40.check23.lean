def kjW_132 : List Jvm.Cond := [(Jvm.Cond.code ({ cls := "KindJudgeModel", name := "pushKind", desc := "(I)V" } : Jvm.MethodName) prog_11_method_33_code (2 : Nat) (Option.none : Option Jvm.ClassFile.FieldType)), (Jvm.Cond.initialized "KindJudgeModel"), (Jvm.Cond.fieldLink "KindJudgeModel" (196 : Nat) "KindJudgeModel" "nextHeight" "I"), (Jvm.Cond.fieldLink "KindJudgeModel" (71 : Nat) "KindJudgeModel" "next" "[I")]
set_option maxRecDepth 100000 in
set_option maxHeartbeats 4000000 in
theorem kjS_132 : ∀ w ∈ kjW_132, w ∈ lw_tbl := mv_sub_of [1064, 74, 863, 862] (by decide +kernel)
set_option maxRecDepth 100000 in
set_option maxHeartbeats 4000000 in
theorem kjK_132 : mv_mkB kjW_132 kjCl kjKd kjP kjStn kjM_132 = true := by decide +kernel
def kjW_133 : List Jvm.Cond := [(Jvm.Cond.code ({ cls := "KindJudgeModel", name := "drop", desc := "(I)V" } : Jvm.MethodName) prog_11_method_34_code (3 : Nat) (Option.none : Option Jvm.ClassFile.FieldType)), (Jvm.Cond.initialized "KindJudgeModel"), (Jvm.Cond.methodLink "KindJudgeModel" (215 : Nat) ({ cls := "KindJudgeModel", name := "popKind", desc := "()I" } : Jvm.MethodName)), (Jvm.Cond.instanceMethod ({ cls := "KindJudgeModel", name := "popKind", desc := "()I" } : Jvm.MethodName)), (Jvm.Cond.selects "KindJudgeModel" ({ cls := "KindJudgeModel", name := "popKind", desc := "()I" } : Jvm.MethodName) ({ cls := "KindJudgeModel", name := "popKind", desc := "()I" } : Jvm.MethodName))]
set_option maxRecDepth 100000 in
set_option maxHeartbeats 4000000 in
theorem kjS_133 : ∀ w ∈ kjW_133, w ∈ lw_tbl := mv_sub_of [1056, 74, 1057, 1059, 51] (by decide +kernel)
set_option maxRecDepth 100000 in
set_option maxHeartbeats 4000000 in
theorem kjK_133 : mv_mkB kjW_133 kjCl kjKd kjP kjStn kjM_133 = true := by decide +kernel
def kjW_134 : List Jvm.Cond := [(Jvm.Cond.code ({ cls := "KindJudgeModel", name := "takes", desc := "(II)I" } : Jvm.MethodName) prog_11_method_35_code (4 : Nat) (Option.some Jvm.ClassFile.FieldType.int)), (Jvm.Cond.initialized "KindJudgeModel"), (Jvm.Cond.methodLink "KindJudgeModel" (137 : Nat) ({ cls := "KindJudgeModel", name := "byteAt", desc := "(II)I" } : Jvm.MethodName)), (Jvm.Cond.instanceMethod ({ cls := "KindJudgeModel", name := "byteAt", desc := "(II)I" } : Jvm.MethodName)), (Jvm.Cond.selects "KindJudgeModel" ({ cls := "KindJudgeModel", name := "byteAt", desc := "(II)I" } : Jvm.MethodName) ({ cls := "KindJudgeModel", name := "byteAt", desc := "(II)I" } : Jvm.MethodName)), (Jvm.Cond.fieldLink "KindJudgeModel" (37 : Nat) "KindJudgeModel" "params" "[I"), (Jvm.Cond.fieldLink "KindJudgeModel" (28 : Nat) "KindJudgeModel" "selParams" "[I")]
set_option maxRecDepth 100000 in
set_option maxHeartbeats 4000000 in
theorem kjS_134 : ∀ w ∈ kjW_134, w ∈ lw_tbl := mv_sub_of [1052, 74, 1014, 1016, 41, 851, 847] (by decide +kernel)
set_option maxRecDepth 100000 in
set_option maxHeartbeats 4000000 in
theorem kjK_134 : mv_mkB kjW_134 kjCl kjKd kjP kjStn kjM_134 = true := by decide +kernel
def kjW_135 : List Jvm.Cond := [(Jvm.Cond.code ({ cls := "KindJudgeModel", name := "behind", desc := "(II)V" } : Jvm.MethodName) prog_11_method_36_code (8 : Nat) (Option.none : Option Jvm.ClassFile.FieldType)), (Jvm.Cond.initialized "KindJudgeModel"), (Jvm.Cond.methodLink "KindJudgeModel" (137 : Nat) ({ cls := "KindJudgeModel", name := "byteAt", desc := "(II)I" } : Jvm.MethodName)), (Jvm.Cond.instanceMethod ({ cls := "KindJudgeModel", name := "byteAt", desc := "(II)I" } : Jvm.MethodName)), (Jvm.Cond.selects "KindJudgeModel" ({ cls := "KindJudgeModel", name := "byteAt", desc := "(II)I" } : Jvm.MethodName) ({ cls := "KindJudgeModel", name := "byteAt", desc := "(II)I" } : Jvm.MethodName)), (Jvm.Cond.fieldLink "KindJudgeModel" (52 : Nat) "KindJudgeModel" "size" "[I"), (Jvm.Cond.fieldLink "KindJudgeModel" (71 : Nat) "KindJudgeModel" "next" "[I"), (Jvm.Cond.fieldLink "KindJudgeModel" (68 : Nat) "KindJudgeModel" "kinds" "[I"), (Jvm.Cond.fieldLink "KindJudgeModel" (65 : Nat) "KindJudgeModel" "height" "[I"), (Jvm.Cond.fieldLink "KindJudgeModel" (196 : Nat) "KindJudgeModel" "nextHeight" "I"), (Jvm.Cond.fieldLink "KindJudgeModel" (212 : Nat) "KindJudgeModel" "breaks" "Z"), (Jvm.Cond.methodLink "KindJudgeModel" (219 : Nat) ({ cls := "KindJudgeModel", name := "takes", desc := "(II)I" } : Jvm.MethodName)), (Jvm.Cond.instanceMethod ({ cls := "KindJudgeModel", name := "takes", desc := "(II)I" } : Jvm.MethodName)), (Jvm.Cond.selects "KindJudgeModel" ({ cls := "KindJudgeModel", name := "takes", desc := "(II)I" } : Jvm.MethodName) ({ cls := "KindJudgeModel", name := "takes", desc := "(II)I" } : Jvm.MethodName)), (Jvm.Cond.methodLink "KindJudgeModel" (222 : Nat) ({ cls := "KindJudgeModel", name := "drop", desc := "(I)V" } : Jvm.MethodName)), (Jvm.Cond.instanceMethod ({ cls := "KindJudgeModel", name := "drop", desc := "(I)V" } : Jvm.MethodName)), (Jvm.Cond.selects "KindJudgeModel" ({ cls := "KindJudgeModel", name := "drop", desc := "(I)V" } : Jvm.MethodName) ({ cls := "KindJudgeModel", name := "drop", desc := "(I)V" } : Jvm.MethodName)), (Jvm.Cond.methodLink "KindJudgeModel" (225 : Nat) ({ cls := "KindJudgeModel", name := "pushKind", desc := "(I)V" } : Jvm.MethodName)), (Jvm.Cond.instanceMethod ({ cls := "KindJudgeModel", name := "pushKind", desc := "(I)V" } : Jvm.MethodName)), (Jvm.Cond.selects "KindJudgeModel" ({ cls := "KindJudgeModel", name := "pushKind", desc := "(I)V" } : Jvm.MethodName) ({ cls := "KindJudgeModel", name := "pushKind", desc := "(I)V" } : Jvm.MethodName)), (Jvm.Cond.fieldLink "KindJudgeModel" (25 : Nat) "KindJudgeModel" "fieldType" "[I"), (Jvm.Cond.fieldLink "KindJudgeModel" (43 : Nat) "KindJudgeModel" "returns" "[I"), (Jvm.Cond.fieldLink "KindJudgeModel" (34 : Nat) "KindJudgeModel" "selReturn" "[I")]
set_option maxRecDepth 100000 in
set_option maxHeartbeats 4000000 in
theorem kjS_135 : ∀ w ∈ kjW_135, w ∈ lw_tbl := mv_sub_of [1048, 74, 1014, 1016, 41, 856, 862, 861, 860, 863, 864, 1049, 1051, 49, 1053, 1055, 50, 1061, 1063, 52, 845, 853, 849] (by decide +kernel)
set_option maxRecDepth 100000 in
set_option maxHeartbeats 4000000 in
theorem kjH_135 : mv_hdB kjW_135 kjM_135 = true := by decide +kernel
set_option maxRecDepth 100000 in
set_option maxHeartbeats 4000000 in
theorem kjK_135_0 : (kjT_135.take 40).all (mv_rowB kjW_135 kjCl kjKd kjP kjStn kjM_135) = true := by decide +kernel
set_option maxRecDepth 100000 in
set_option maxHeartbeats 4000000 in
theorem kjK_135_40 : ((kjT_135.drop 40).take 40).all (mv_rowB kjW_135 kjCl kjKd kjP kjStn kjM_135) = true := by decide +kernel
