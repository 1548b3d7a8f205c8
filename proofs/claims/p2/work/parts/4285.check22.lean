set_option maxRecDepth 100000 in
set_option maxHeartbeats 4000000 in
theorem kjK_127_100 : (kjT_127.drop 100).all (mv_rowB kjW_127 kjCl kjKd kjP kjStn kjM_127) = true := by decide +kernel
set_option maxRecDepth 100000 in
set_option maxHeartbeats 4000000 in
theorem kjK_127 : mv_mkB kjW_127 kjCl kjKd kjP kjStn kjM_127 = true := mv_mkB_of kjH_127 (mv_all_split (l := kjT_127) 20 kjK_127_0 (mv_all_split (l := (kjT_127.drop 20)) 20 kjK_127_20 (show ((kjT_127.drop 20).drop 20).all _ = true by rw [List.drop_drop]; exact (mv_all_split (l := (kjT_127.drop 40)) 20 kjK_127_40 (show ((kjT_127.drop 40).drop 20).all _ = true by rw [List.drop_drop]; exact (mv_all_split (l := (kjT_127.drop 60)) 20 kjK_127_60 (show ((kjT_127.drop 60).drop 20).all _ = true by rw [List.drop_drop]; exact (mv_all_split (l := (kjT_127.drop 80)) 20 kjK_127_80 (show ((kjT_127.drop 80).drop 20).all _ = true by rw [List.drop_drop]; exact kjK_127_100)))))))))
def kjW_128 : List Jvm.Cond := [(Jvm.Cond.code ({ cls := "KindJudgeModel", name := "flow", desc := "(I)V" } : Jvm.MethodName) prog_11_method_30_code (5 : Nat) (Option.none : Option Jvm.ClassFile.FieldType)), (Jvm.Cond.initialized "KindJudgeModel"), (Jvm.Cond.fieldLink "KindJudgeModel" (65 : Nat) "KindJudgeModel" "height" "[I"), (Jvm.Cond.fieldLink "KindJudgeModel" (71 : Nat) "KindJudgeModel" "next" "[I"), (Jvm.Cond.fieldLink "KindJudgeModel" (37 : Nat) "KindJudgeModel" "params" "[I"), (Jvm.Cond.fieldLink "KindJudgeModel" (40 : Nat) "KindJudgeModel" "paramType" "[I"), (Jvm.Cond.fieldLink "KindJudgeModel" (196 : Nat) "KindJudgeModel" "nextHeight" "I"), (Jvm.Cond.methodLink "KindJudgeModel" (202 : Nat) ({ cls := "KindJudgeModel", name := "merge", desc := "(IIZ)Z" } : Jvm.MethodName)), (Jvm.Cond.instanceMethod ({ cls := "KindJudgeModel", name := "merge", desc := "(IIZ)Z" } : Jvm.MethodName)), (Jvm.Cond.selects "KindJudgeModel" ({ cls := "KindJudgeModel", name := "merge", desc := "(IIZ)Z" } : Jvm.MethodName) ({ cls := "KindJudgeModel", name := "merge", desc := "(IIZ)Z" } : Jvm.MethodName)), (Jvm.Cond.fieldLink "KindJudgeModel" (52 : Nat) "KindJudgeModel" "size" "[I"), (Jvm.Cond.methodLink "KindJudgeModel" (206 : Nat) ({ cls := "KindJudgeModel", name := "goOn", desc := "(II)Z" } : Jvm.MethodName)), (Jvm.Cond.instanceMethod ({ cls := "KindJudgeModel", name := "goOn", desc := "(II)Z" } : Jvm.MethodName)), (Jvm.Cond.selects "KindJudgeModel" ({ cls := "KindJudgeModel", name := "goOn", desc := "(II)Z" } : Jvm.MethodName) ({ cls := "KindJudgeModel", name := "goOn", desc := "(II)Z" } : Jvm.MethodName))]
set_option maxRecDepth 100000 in
set_option maxHeartbeats 4000000 in
theorem kjS_128 : ∀ w ∈ kjW_128, w ∈ lw_tbl := mv_sub_of [1028, 74, 860, 862, 851, 852, 863, 1029, 1031, 45, 856, 1037, 1039, 47] (by decide +kernel)
set_option maxRecDepth 100000 in
set_option maxHeartbeats 4000000 in
theorem kjH_128 : mv_hdB kjW_128 kjM_128 = true := by decide +kernel
set_option maxRecDepth 100000 in
set_option maxHeartbeats 4000000 in
theorem kjK_128_0 : (kjT_128.take 20).all (mv_rowB kjW_128 kjCl kjKd kjP kjStn kjM_128) = true := by decide +kernel
set_option maxRecDepth 100000 in
set_option maxHeartbeats 4000000 in
theorem kjK_128_20 : ((kjT_128.drop 20).take 20).all (mv_rowB kjW_128 kjCl kjKd kjP kjStn kjM_128) = true := by decide +kernel
set_option maxRecDepth 100000 in
set_option maxHeartbeats 4000000 in
theorem kjK_128_40 : ((kjT_128.drop 40).take 20).all (mv_rowB kjW_128 kjCl kjKd kjP kjStn kjM_128) = true := by decide +kernel
set_option maxRecDepth 100000 in
set_option maxHeartbeats 4000000 in
theorem kjK_128_60 : ((kjT_128.drop 60).take 20).all (mv_rowB kjW_128 kjCl kjKd kjP kjStn kjM_128) = true := by decide +kernel
set_option maxRecDepth 100000 in
set_option maxHeartbeats 4000000 in
theorem kjK_128_80 : (kjT_128.drop 80).all (mv_rowB kjW_128 kjCl kjKd kjP kjStn kjM_128) = true := by decide +kernel
set_option maxRecDepth 100000 in
set_option maxHeartbeats 4000000 in
theorem kjK_128 : mv_mkB kjW_128 kjCl kjKd kjP kjStn kjM_128 = true := mv_mkB_of kjH_128 (mv_all_split (l := kjT_128) 20 kjK_128_0 (mv_all_split (l := (kjT_128.drop 20)) 20 kjK_128_20 (show ((kjT_128.drop 20).drop 20).all _ = true by rw [List.drop_drop]; exact (mv_all_split (l := (kjT_128.drop 40)) 20 kjK_128_40 (show ((kjT_128.drop 40).drop 20).all _ = true by rw [List.drop_drop]; exact (mv_all_split (l := (kjT_128.drop 60)) 20 kjK_128_60 (show ((kjT_128.drop 60).drop 20).all _ = true by rw [List.drop_drop]; exact kjK_128_80)))))))
def kjW_129 : List Jvm.Cond := [(Jvm.Cond.code ({ cls := "KindJudgeModel", name := "goOn", desc := "(II)Z" } : Jvm.MethodName) prog_11_method_31_code (8 : Nat) (Option.some Jvm.ClassFile.FieldType.boolean)), (Jvm.Cond.initialized "KindJudgeModel"), (Jvm.Cond.methodLink "KindJudgeModel" (137 : Nat) ({ cls := "KindJudgeModel", name := "byteAt", desc := "(II)I" } : Jvm.MethodName)), (Jvm.Cond.instanceMethod ({ cls := "KindJudgeModel", name := "byteAt", desc := "(II)I" } : Jvm.MethodName)), (Jvm.Cond.selects "KindJudgeModel" ({ cls := "KindJudgeModel", name := "byteAt", desc := "(II)I" } : Jvm.MethodName) ({ cls := "KindJudgeModel", name := "byteAt", desc := "(II)I" } : Jvm.MethodName)), (Jvm.Cond.fieldLink "KindJudgeModel" (65 : Nat) "KindJudgeModel" "height" "[I"), (Jvm.Cond.methodLink "KindJudgeModel" (209 : Nat) ({ cls := "KindJudgeModel", name := "behind", desc := "(II)V" } : Jvm.MethodName)), (Jvm.Cond.instanceMethod ({ cls := "KindJudgeModel", name := "behind", desc := "(II)V" } : Jvm.MethodName)), (Jvm.Cond.selects "KindJudgeModel" ({ cls := "KindJudgeModel", name := "behind", desc := "(II)V" } : Jvm.MethodName) ({ cls := "KindJudgeModel", name := "behind", desc := "(II)V" } : Jvm.MethodName)), (Jvm.Cond.fieldLink "KindJudgeModel" (212 : Nat) "KindJudgeModel" "breaks" "Z"), (Jvm.Cond.fieldLink "KindJudgeModel" (196 : Nat) "KindJudgeModel" "nextHeight" "I"), (Jvm.Cond.fieldLink "KindJudgeModel" (49 : Nat) "KindJudgeModel" "most" "[I"), (Jvm.Cond.methodLink "KindJudgeModel" (202 : Nat) ({ cls := "KindJudgeModel", name := "merge", desc := "(IIZ)Z" } : Jvm.MethodName)), (Jvm.Cond.instanceMethod ({ cls := "KindJudgeModel", name := "merge", desc := "(IIZ)Z" } : Jvm.MethodName)), (Jvm.Cond.selects "KindJudgeModel" ({ cls := "KindJudgeModel", name := "merge", desc := "(IIZ)Z" } : Jvm.MethodName) ({ cls := "KindJudgeModel", name := "merge", desc := "(IIZ)Z" } : Jvm.MethodName)), (Jvm.Cond.methodLink "KindJudgeModel" (144 : Nat) ({ cls := "KindJudgeModel", name := "longOf", desc := "(II)I" } : Jvm.MethodName)), (Jvm.Cond.instanceMethod ({ cls := "KindJudgeModel", name := "longOf", desc := "(II)I" } : Jvm.MethodName)), (Jvm.Cond.selects "KindJudgeModel" ({ cls := "KindJudgeModel", name := "longOf", desc := "(II)I" } : Jvm.MethodName) ({ cls := "KindJudgeModel", name := "longOf", desc := "(II)I" } : Jvm.MethodName))]
set_option maxRecDepth 100000 in
set_option maxHeartbeats 4000000 in
theorem kjS_129 : ∀ w ∈ kjW_129, w ∈ lw_tbl := mv_sub_of [1040, 74, 1010, 1012, 41, 860, 1041, 1043, 48, 864, 863, 855, 1029, 1031, 45, 1006, 1008, 40] (by decide +kernel)
set_option maxRecDepth 100000 in
set_option maxHeartbeats 4000000 in
theorem kjH_129 : mv_hdB kjW_129 kjM_129 = true := by decide +kernel
set_option maxRecDepth 100000 in
set_option maxHeartbeats 4000000 in
theorem kjK_129_0 : (kjT_129.take 20).all (mv_rowB kjW_129 kjCl kjKd kjP kjStn kjM_129) = true := by decide +kernel
set_option maxRecDepth 100000 in
set_option maxHeartbeats 4000000 in
theorem kjK_129_20 : ((kjT_129.drop 20).take 20).all (mv_rowB kjW_129 kjCl kjKd kjP kjStn kjM_129) = true := by decide +kernel
set_option maxRecDepth 100000 in
set_option maxHeartbeats 4000000 in
theorem kjK_129_40 : ((kjT_129.drop 40).take 20).all (mv_rowB kjW_129 kjCl kjKd kjP kjStn kjM_129) = true := by decide +kernel
set_option maxRecDepth 100000 in
set_option maxHeartbeats 4000000 in
theorem kjK_129_60 : ((kjT_129.drop 60).take 20).all (mv_rowB kjW_129 kjCl kjKd kjP kjStn kjM_129) = true := by decide +kernel
