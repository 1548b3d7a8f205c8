set_option maxRecDepth 100000 in
set_option maxHeartbeats 4000000 in
theorem kjK_127 : mv_mkB kjW_127 kjCl kjKd kjP kjStn kjM_127 = true := mv_mkB_of kjH_127 (mv_all_split (l := kjT_127) 40 kjK_127_0 kjK_127_40)
def kjW_128 : List Jvm.Cond := [(Jvm.Cond.code ({ cls := "KindJudgeModel", name := "merge", desc := "(IIZ)Z" } : Jvm.MethodName) prog_11_method_29_code (8 : Nat) (Option.some Jvm.ClassFile.FieldType.boolean)), (Jvm.Cond.initialized "KindJudgeModel"), (Jvm.Cond.fieldLink "KindJudgeModel" (65 : Nat) "KindJudgeModel" "height" "[I"), (Jvm.Cond.fieldLink "KindJudgeModel" (196 : Nat) "KindJudgeModel" "nextHeight" "I"), (Jvm.Cond.fieldLink "KindJudgeModel" (71 : Nat) "KindJudgeModel" "next" "[I"), (Jvm.Cond.fieldLink "KindJudgeModel" (68 : Nat) "KindJudgeModel" "kinds" "[I"), (Jvm.Cond.methodLink "KindJudgeModel" (199 : Nat) ({ cls := "KindJudgeModel", name := "joined", desc := "(II)I" } : Jvm.MethodName)), (Jvm.Cond.instanceMethod ({ cls := "KindJudgeModel", name := "joined", desc := "(II)I" } : Jvm.MethodName)), (Jvm.Cond.selects "KindJudgeModel" ({ cls := "KindJudgeModel", name := "joined", desc := "(II)I" } : Jvm.MethodName) ({ cls := "KindJudgeModel", name := "joined", desc := "(II)I" } : Jvm.MethodName))]
set_option maxRecDepth 100000 in
set_option maxHeartbeats 4000000 in
theorem kjS_128 : ∀ w ∈ kjW_128, w ∈ lw_tbl := mv_sub_of [1036, 74, 860, 863, 862, 861, 1037, 1039, 46] (by decide +kernel)
set_option maxRecDepth 100000 in
set_option maxHeartbeats 4000000 in
theorem kjH_128 : mv_hdB kjW_128 kjM_128 = true := by decide +kernel
set_option maxRecDepth 100000 in
set_option maxHeartbeats 4000000 in
theorem kjK_128_0 : (kjT_128.take 40).all (mv_rowB kjW_128 kjCl kjKd kjP kjStn kjM_128) = true := by decide +kernel
set_option maxRecDepth 100000 in
set_option maxHeartbeats 4000000 in
theorem kjK_128_40 : ((kjT_128.drop 40).take 40).all (mv_rowB kjW_128 kjCl kjKd kjP kjStn kjM_128) = true := by decide +kernel
set_option maxRecDepth 100000 in
set_option maxHeartbeats 4000000 in
theorem kjK_128_80 : (kjT_128.drop 80).all (mv_rowB kjW_128 kjCl kjKd kjP kjStn kjM_128) = true := by decide +kernel
set_option maxRecDepth 100000 in
set_option maxHeartbeats 4000000 in
theorem kjK_128 : mv_mkB kjW_128 kjCl kjKd kjP kjStn kjM_128 = true := mv_mkB_of kjH_128 (mv_all_split (l := kjT_128) 40 kjK_128_0 (mv_all_split (l := (kjT_128.drop 40)) 40 kjK_128_40 (show ((kjT_128.drop 40).drop 40).all _ = true by rw [List.drop_drop]; exact kjK_128_80)))
def kjW_129 : List Jvm.Cond := [(Jvm.Cond.code ({ cls := "KindJudgeModel", name := "flow", desc := "(I)V" } : Jvm.MethodName) prog_11_method_30_code (5 : Nat) (Option.none : Option Jvm.ClassFile.FieldType)), (Jvm.Cond.initialized "KindJudgeModel"), (Jvm.Cond.fieldLink "KindJudgeModel" (65 : Nat) "KindJudgeModel" "height" "[I"), (Jvm.Cond.fieldLink "KindJudgeModel" (71 : Nat) "KindJudgeModel" "next" "[I"), (Jvm.Cond.fieldLink "KindJudgeModel" (37 : Nat) "KindJudgeModel" "params" "[I"), (Jvm.Cond.fieldLink "KindJudgeModel" (40 : Nat) "KindJudgeModel" "paramType" "[I"), (Jvm.Cond.fieldLink "KindJudgeModel" (196 : Nat) "KindJudgeModel" "nextHeight" "I"), (Jvm.Cond.methodLink "KindJudgeModel" (202 : Nat) ({ cls := "KindJudgeModel", name := "merge", desc := "(IIZ)Z" } : Jvm.MethodName)), (Jvm.Cond.instanceMethod ({ cls := "KindJudgeModel", name := "merge", desc := "(IIZ)Z" } : Jvm.MethodName)), (Jvm.Cond.selects "KindJudgeModel" ({ cls := "KindJudgeModel", name := "merge", desc := "(IIZ)Z" } : Jvm.MethodName) ({ cls := "KindJudgeModel", name := "merge", desc := "(IIZ)Z" } : Jvm.MethodName)), (Jvm.Cond.fieldLink "KindJudgeModel" (52 : Nat) "KindJudgeModel" "size" "[I"), (Jvm.Cond.methodLink "KindJudgeModel" (206 : Nat) ({ cls := "KindJudgeModel", name := "goOn", desc := "(II)Z" } : Jvm.MethodName)), (Jvm.Cond.instanceMethod ({ cls := "KindJudgeModel", name := "goOn", desc := "(II)Z" } : Jvm.MethodName)), (Jvm.Cond.selects "KindJudgeModel" ({ cls := "KindJudgeModel", name := "goOn", desc := "(II)Z" } : Jvm.MethodName) ({ cls := "KindJudgeModel", name := "goOn", desc := "(II)Z" } : Jvm.MethodName))]
set_option maxRecDepth 100000 in
set_option maxHeartbeats 4000000 in
theorem kjS_129 : ∀ w ∈ kjW_129, w ∈ lw_tbl := mv_sub_of [1032, 74, 860, 862, 851, 852, 863, 1033, 1035, 45, 856, 1041, 1043, 47] (by decide +kernel)
set_option maxRecDepth 100000 in
set_option maxHeartbeats 4000000 in
theorem kjH_129 : mv_hdB kjW_129 kjM_129 = true := by decide +kernel
set_option maxRecDepth 100000 in
set_option maxHeartbeats 4000000 in
theorem kjK_129_0 : (kjT_129.take 40).all (mv_rowB kjW_129 kjCl kjKd kjP kjStn kjM_129) = true := by decide +kernel
set_option maxRecDepth 100000 in
set_option maxHeartbeats 4000000 in
theorem kjK_129_40 : ((kjT_129.drop 40).take 40).all (mv_rowB kjW_129 kjCl kjKd kjP kjStn kjM_129) = true := by decide +kernel
