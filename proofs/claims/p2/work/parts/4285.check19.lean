set_option maxRecDepth 100000 in
set_option maxHeartbeats 4000000 in
theorem kjK_119_100 : ((kjT_119.drop 100).take 20).all (mv_rowB kjW_119 kjCl kjKd kjP kjStn kjM_119) = true := by decide +kernel
set_option maxRecDepth 100000 in
set_option maxHeartbeats 4000000 in
theorem kjK_119_120 : ((kjT_119.drop 120).take 20).all (mv_rowB kjW_119 kjCl kjKd kjP kjStn kjM_119) = true := by decide +kernel
set_option maxRecDepth 100000 in
set_option maxHeartbeats 4000000 in
theorem kjK_119_140 : (kjT_119.drop 140).all (mv_rowB kjW_119 kjCl kjKd kjP kjStn kjM_119) = true := by decide +kernel
set_option maxRecDepth 100000 in
set_option maxHeartbeats 4000000 in
theorem kjK_119 : mv_mkB kjW_119 kjCl kjKd kjP kjStn kjM_119 = true := mv_mkB_of kjH_119 (mv_all_split (l := kjT_119) 20 kjK_119_0 (mv_all_split (l := (kjT_119.drop 20)) 20 kjK_119_20 (show ((kjT_119.drop 20).drop 20).all _ = true by rw [List.drop_drop]; exact (mv_all_split (l := (kjT_119.drop 40)) 20 kjK_119_40 (show ((kjT_119.drop 40).drop 20).all _ = true by rw [List.drop_drop]; exact (mv_all_split (l := (kjT_119.drop 60)) 20 kjK_119_60 (show ((kjT_119.drop 60).drop 20).all _ = true by rw [List.drop_drop]; exact (mv_all_split (l := (kjT_119.drop 80)) 20 kjK_119_80 (show ((kjT_119.drop 80).drop 20).all _ = true by rw [List.drop_drop]; exact (mv_all_split (l := (kjT_119.drop 100)) 20 kjK_119_100 (show ((kjT_119.drop 100).drop 20).all _ = true by rw [List.drop_drop]; exact (mv_all_split (l := (kjT_119.drop 120)) 20 kjK_119_120 (show ((kjT_119.drop 120).drop 20).all _ = true by rw [List.drop_drop]; exact kjK_119_140)))))))))))))
def kjW_120 : List Jvm.Cond := [(Jvm.Cond.code ({ cls := "KindJudgeModel", name := "findFault", desc := "(III)Z" } : Jvm.MethodName) prog_11_method_22_code (4 : Nat) (Option.some Jvm.ClassFile.FieldType.boolean)), (Jvm.Cond.initialized "KindJudgeModel"), (Jvm.Cond.fieldLink "KindJudgeModel" (150 : Nat) "KindJudgeModel" "fault" "I"), (Jvm.Cond.fieldLink "KindJudgeModel" (153 : Nat) "KindJudgeModel" "faultMethod" "I"), (Jvm.Cond.fieldLink "KindJudgeModel" (156 : Nat) "KindJudgeModel" "faultPlace" "I")]
set_option maxRecDepth 100000 in
set_option maxHeartbeats 4000000 in
theorem kjS_120 : ∀ w ∈ kjW_120, w ∈ lw_tbl := mv_sub_of [1001, 74, 839, 841, 840] (by decide +kernel)
set_option maxRecDepth 100000 in
set_option maxHeartbeats 4000000 in
theorem kjK_120 : mv_mkB kjW_120 kjCl kjKd kjP kjStn kjM_120 = true := by decide +kernel
def kjW_121 : List Jvm.Cond := [(Jvm.Cond.code ({ cls := "KindJudgeModel", name := "isFine", desc := "()Z" } : Jvm.MethodName) prog_11_method_23_code (3 : Nat) (Option.some Jvm.ClassFile.FieldType.boolean)), (Jvm.Cond.initialized "KindJudgeModel"), (Jvm.Cond.methodLink "KindJudgeModel" (159 : Nat) ({ cls := "KindJudgeModel", name := "takeApart", desc := "()Z" } : Jvm.MethodName)), (Jvm.Cond.instanceMethod ({ cls := "KindJudgeModel", name := "takeApart", desc := "()Z" } : Jvm.MethodName)), (Jvm.Cond.selects "KindJudgeModel" ({ cls := "KindJudgeModel", name := "takeApart", desc := "()Z" } : Jvm.MethodName) ({ cls := "KindJudgeModel", name := "takeApart", desc := "()Z" } : Jvm.MethodName)), (Jvm.Cond.fieldLink "KindJudgeModel" (87 : Nat) "KindJudgeModel" "at" "I"), (Jvm.Cond.methodLink "KindJudgeModel" (163 : Nat) ({ cls := "KindJudgeModel", name := "findFault", desc := "(III)Z" } : Jvm.MethodName)), (Jvm.Cond.instanceMethod ({ cls := "KindJudgeModel", name := "findFault", desc := "(III)Z" } : Jvm.MethodName)), (Jvm.Cond.selects "KindJudgeModel" ({ cls := "KindJudgeModel", name := "findFault", desc := "(III)Z" } : Jvm.MethodName) ({ cls := "KindJudgeModel", name := "findFault", desc := "(III)Z" } : Jvm.MethodName)), (Jvm.Cond.fieldLink "KindJudgeModel" (114 : Nat) "KindJudgeModel" "methods" "I"), (Jvm.Cond.methodLink "KindJudgeModel" (166 : Nat) ({ cls := "KindJudgeModel", name := "findBegins", desc := "(I)V" } : Jvm.MethodName)), (Jvm.Cond.instanceMethod ({ cls := "KindJudgeModel", name := "findBegins", desc := "(I)V" } : Jvm.MethodName)), (Jvm.Cond.selects "KindJudgeModel" ({ cls := "KindJudgeModel", name := "findBegins", desc := "(I)V" } : Jvm.MethodName) ({ cls := "KindJudgeModel", name := "findBegins", desc := "(I)V" } : Jvm.MethodName)), (Jvm.Cond.fieldLink "KindJudgeModel" (52 : Nat) "KindJudgeModel" "size" "[I"), (Jvm.Cond.fieldLink "KindJudgeModel" (58 : Nat) "KindJudgeModel" "begins" "[Z"), (Jvm.Cond.methodLink "KindJudgeModel" (169 : Nat) ({ cls := "KindJudgeModel", name := "isGood", desc := "(II)Z" } : Jvm.MethodName)), (Jvm.Cond.instanceMethod ({ cls := "KindJudgeModel", name := "isGood", desc := "(II)Z" } : Jvm.MethodName)), (Jvm.Cond.selects "KindJudgeModel" ({ cls := "KindJudgeModel", name := "isGood", desc := "(II)Z" } : Jvm.MethodName) ({ cls := "KindJudgeModel", name := "isGood", desc := "(II)Z" } : Jvm.MethodName)), (Jvm.Cond.methodLink "KindJudgeModel" (172 : Nat) ({ cls := "KindJudgeModel", name := "flow", desc := "(I)V" } : Jvm.MethodName)), (Jvm.Cond.instanceMethod ({ cls := "KindJudgeModel", name := "flow", desc := "(I)V" } : Jvm.MethodName)), (Jvm.Cond.selects "KindJudgeModel" ({ cls := "KindJudgeModel", name := "flow", desc := "(I)V" } : Jvm.MethodName) ({ cls := "KindJudgeModel", name := "flow", desc := "(I)V" } : Jvm.MethodName)), (Jvm.Cond.fieldLink "KindJudgeModel" (65 : Nat) "KindJudgeModel" "height" "[I"), (Jvm.Cond.methodLink "KindJudgeModel" (175 : Nat) ({ cls := "KindJudgeModel", name := "isWrong", desc := "(II)Z" } : Jvm.MethodName)), (Jvm.Cond.instanceMethod ({ cls := "KindJudgeModel", name := "isWrong", desc := "(II)Z" } : Jvm.MethodName)), (Jvm.Cond.selects "KindJudgeModel" ({ cls := "KindJudgeModel", name := "isWrong", desc := "(II)Z" } : Jvm.MethodName) ({ cls := "KindJudgeModel", name := "isWrong", desc := "(II)Z" } : Jvm.MethodName))]
set_option maxRecDepth 100000 in
set_option maxHeartbeats 4000000 in
theorem kjS_121 : ∀ w ∈ kjW_121, w ∈ lw_tbl := mv_sub_of [954, 74, 955, 957, 28, 865, 998, 1000, 38, 850, 1002, 1004, 39, 856, 858, 1017, 1019, 42, 1025, 1027, 44, 860, 1061, 1063, 53] (by decide +kernel)
set_option maxRecDepth 100000 in
set_option maxHeartbeats 4000000 in
theorem kjH_121 : mv_hdB kjW_121 kjM_121 = true := by decide +kernel
set_option maxRecDepth 100000 in
set_option maxHeartbeats 4000000 in
theorem kjK_121_0 : (kjT_121.take 20).all (mv_rowB kjW_121 kjCl kjKd kjP kjStn kjM_121) = true := by decide +kernel
set_option maxRecDepth 100000 in
set_option maxHeartbeats 4000000 in
theorem kjK_121_20 : ((kjT_121.drop 20).take 20).all (mv_rowB kjW_121 kjCl kjKd kjP kjStn kjM_121) = true := by decide +kernel
set_option maxRecDepth 100000 in
set_option maxHeartbeats 4000000 in
theorem kjK_121_40 : ((kjT_121.drop 40).take 20).all (mv_rowB kjW_121 kjCl kjKd kjP kjStn kjM_121) = true := by decide +kernel
