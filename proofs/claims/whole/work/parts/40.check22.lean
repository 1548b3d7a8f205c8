set_option maxRecDepth 100000 in
set_option maxHeartbeats 4000000 in
theorem kjK_129_80 : (kjT_129.drop 80).all (mv_rowB kjW_129 kjCl kjKd kjP kjStn kjM_129) = true := by decide +kernel
set_option maxRecDepth 100000 in
set_option maxHeartbeats 4000000 in
theorem kjK_129 : mv_mkB kjW_129 kjCl kjKd kjP kjStn kjM_129 = true := mv_mkB_of kjH_129 (mv_all_split (l := kjT_129) 40 kjK_129_0 (mv_all_split (l := (kjT_129.drop 40)) 40 kjK_129_40 (show ((kjT_129.drop 40).drop 40).all _ = true by rw [List.drop_drop]; exact kjK_129_80)))
def kjW_130 : List Jvm.Cond := [(Jvm.Cond.code ({ cls := "KindJudgeModel", name := "goOn", desc := "(II)Z" } : Jvm.MethodName) prog_11_method_31_code (8 : Nat) (Option.some Jvm.ClassFile.FieldType.boolean)), (Jvm.Cond.initialized "KindJudgeModel"), (Jvm.Cond.methodLink "KindJudgeModel" (137 : Nat) ({ cls := "KindJudgeModel", name := "byteAt", desc := "(II)I" } : Jvm.MethodName)), (Jvm.Cond.instanceMethod ({ cls := "KindJudgeModel", name := "byteAt", desc := "(II)I" } : Jvm.MethodName)), (Jvm.Cond.selects "KindJudgeModel" ({ cls := "KindJudgeModel", name := "byteAt", desc := "(II)I" } : Jvm.MethodName) ({ cls := "KindJudgeModel", name := "byteAt", desc := "(II)I" } : Jvm.MethodName)), (Jvm.Cond.fieldLink "KindJudgeModel" (65 : Nat) "KindJudgeModel" "height" "[I"), (Jvm.Cond.methodLink "KindJudgeModel" (209 : Nat) ({ cls := "KindJudgeModel", name := "behind", desc := "(II)V" } : Jvm.MethodName)), (Jvm.Cond.instanceMethod ({ cls := "KindJudgeModel", name := "behind", desc := "(II)V" } : Jvm.MethodName)), (Jvm.Cond.selects "KindJudgeModel" ({ cls := "KindJudgeModel", name := "behind", desc := "(II)V" } : Jvm.MethodName) ({ cls := "KindJudgeModel", name := "behind", desc := "(II)V" } : Jvm.MethodName)), (Jvm.Cond.fieldLink "KindJudgeModel" (212 : Nat) "KindJudgeModel" "breaks" "Z"), (Jvm.Cond.fieldLink "KindJudgeModel" (196 : Nat) "KindJudgeModel" "nextHeight" "I"), (Jvm.Cond.fieldLink "KindJudgeModel" (49 : Nat) "KindJudgeModel" "most" "[I"), (Jvm.Cond.methodLink "KindJudgeModel" (202 : Nat) ({ cls := "KindJudgeModel", name := "merge", desc := "(IIZ)Z" } : Jvm.MethodName)), (Jvm.Cond.instanceMethod ({ cls := "KindJudgeModel", name := "merge", desc := "(IIZ)Z" } : Jvm.MethodName)), (Jvm.Cond.selects "KindJudgeModel" ({ cls := "KindJudgeModel", name := "merge", desc := "(IIZ)Z" } : Jvm.MethodName) ({ cls := "KindJudgeModel", name := "merge", desc := "(IIZ)Z" } : Jvm.MethodName)), (Jvm.Cond.methodLink "KindJudgeModel" (144 : Nat) ({ cls := "KindJudgeModel", name := "longOf", desc := "(II)I" } : Jvm.MethodName)), (Jvm.Cond.instanceMethod ({ cls := "KindJudgeModel", name := "longOf", desc := "(II)I" } : Jvm.MethodName)), (Jvm.Cond.selects "KindJudgeModel" ({ cls := "KindJudgeModel", name := "longOf", desc := "(II)I" } : Jvm.MethodName) ({ cls := "KindJudgeModel", name := "longOf", desc := "(II)I" } : Jvm.MethodName))]
set_option maxRecDepth 100000 in
set_option maxHeartbeats 4000000 in
theorem kjS_130 : ∀ w ∈ kjW_130, w ∈ lw_tbl := mv_sub_of [1044, 74, 1014, 1016, 41, 860, 1045, 1047, 48, 864, 863, 855, 1033, 1035, 45, 1010, 1012, 40] (by decide +kernel)
set_option maxRecDepth 100000 in
set_option maxHeartbeats 4000000 in
theorem kjH_130 : mv_hdB kjW_130 kjM_130 = true := by decide +kernel
set_option maxRecDepth 100000 in
set_option maxHeartbeats 4000000 in
theorem kjK_130_0 : (kjT_130.take 40).all (mv_rowB kjW_130 kjCl kjKd kjP kjStn kjM_130) = true := by decide +kernel
set_option maxRecDepth 100000 in
set_option maxHeartbeats 4000000 in
theorem kjK_130_40 : ((kjT_130.drop 40).take 40).all (mv_rowB kjW_130 kjCl kjKd kjP kjStn kjM_130) = true := by decide +kernel
set_option maxRecDepth 100000 in
set_option maxHeartbeats 4000000 in
theorem kjK_130_80 : ((kjT_130.drop 80).take 40).all (mv_rowB kjW_130 kjCl kjKd kjP kjStn kjM_130) = true := by decide +kernel
set_option maxRecDepth 100000 in
set_option maxHeartbeats 4000000 in
theorem kjK_130_120 : (kjT_130.drop 120).all (mv_rowB kjW_130 kjCl kjKd kjP kjStn kjM_130) = true := by decide +kernel
set_option maxRecDepth 100000 in
set_option maxHeartbeats 4000000 in
theorem kjK_130 : mv_mkB kjW_130 kjCl kjKd kjP kjStn kjM_130 = true := mv_mkB_of kjH_130 (mv_all_split (l := kjT_130) 40 kjK_130_0 (mv_all_split (l := (kjT_130.drop 40)) 40 kjK_130_40 (show ((kjT_130.drop 40).drop 40).all _ = true by rw [List.drop_drop]; exact (mv_all_split (l := (kjT_130.drop 80)) 40 kjK_130_80 (show ((kjT_130.drop 80).drop 40).all _ = true by rw [List.drop_drop]; exact kjK_130_120)))))
def kjW_131 : List Jvm.Cond := [(Jvm.Cond.code ({ cls := "KindJudgeModel", name := "popKind", desc := "()I" } : Jvm.MethodName) prog_11_method_32_code (1 : Nat) (Option.some Jvm.ClassFile.FieldType.int)), (Jvm.Cond.initialized "KindJudgeModel"), (Jvm.Cond.fieldLink "KindJudgeModel" (196 : Nat) "KindJudgeModel" "nextHeight" "I"), (Jvm.Cond.fieldLink "KindJudgeModel" (212 : Nat) "KindJudgeModel" "breaks" "Z"), (Jvm.Cond.fieldLink "KindJudgeModel" (71 : Nat) "KindJudgeModel" "next" "[I")]
set_option maxRecDepth 100000 in
set_option maxHeartbeats 4000000 in
theorem kjS_131 : ∀ w ∈ kjW_131, w ∈ lw_tbl := mv_sub_of [1060, 74, 863, 864, 862] (by decide +kernel)
set_option maxRecDepth 100000 in
set_option maxHeartbeats 4000000 in
theorem kjK_131 : mv_mkB kjW_131 kjCl kjKd kjP kjStn kjM_131 = true := by decide +kernel
