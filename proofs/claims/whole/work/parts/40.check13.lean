set_option maxRecDepth 100000 in
set_option maxHeartbeats 4000000 in
theorem kjK_120_40 : ((kjT_120.drop 40).take 40).all (mv_rowB kjW_120 kjCl kjKd kjP kjStn kjM_120) = true := by decide +kernel
set_option maxRecDepth 100000 in
set_option maxHeartbeats 4000000 in
theorem kjK_120_80 : ((kjT_120.drop 80).take 40).all (mv_rowB kjW_120 kjCl kjKd kjP kjStn kjM_120) = true := by decide +kernel
set_option maxRecDepth 100000 in
set_option maxHeartbeats 4000000 in
theorem kjK_120_120 : (kjT_120.drop 120).all (mv_rowB kjW_120 kjCl kjKd kjP kjStn kjM_120) = true := by decide +kernel
set_option maxRecDepth 100000 in
set_option maxHeartbeats 4000000 in
theorem kjK_120 : mv_mkB kjW_120 kjCl kjKd kjP kjStn kjM_120 = true := mv_mkB_of kjH_120 (mv_all_split (l := kjT_120) 40 kjK_120_0 (mv_all_split (l := (kjT_120.drop 40)) 40 kjK_120_40 (show ((kjT_120.drop 40).drop 40).all _ = true by rw [List.drop_drop]; exact (mv_all_split (l := (kjT_120.drop 80)) 40 kjK_120_80 (show ((kjT_120.drop 80).drop 40).all _ = true by rw [List.drop_drop]; exact kjK_120_120)))))
def kjW_121 : List Jvm.Cond := [(Jvm.Cond.code ({ cls := "KindJudgeModel", name := "findFault", desc := "(III)Z" } : Jvm.MethodName) prog_11_method_22_code (4 : Nat) (Option.some Jvm.ClassFile.FieldType.boolean)), (Jvm.Cond.initialized "KindJudgeModel"), (Jvm.Cond.fieldLink "KindJudgeModel" (150 : Nat) "KindJudgeModel" "fault" "I"), (Jvm.Cond.fieldLink "KindJudgeModel" (153 : Nat) "KindJudgeModel" "faultMethod" "I"), (Jvm.Cond.fieldLink "KindJudgeModel" (156 : Nat) "KindJudgeModel" "faultPlace" "I")]
set_option maxRecDepth 100000 in
set_option maxHeartbeats 4000000 in
theorem kjS_121 : ∀ w ∈ kjW_121, w ∈ lw_tbl := mv_sub_of [1005, 74, 839, 841, 840] (by decide +kernel)
set_option maxRecDepth 100000 in
set_option maxHeartbeats 4000000 in
theorem kjK_121 : mv_mkB kjW_121 kjCl kjKd kjP kjStn kjM_121 = true := by decide +kernel
def kjW_122 : List Jvm.Cond := [(Jvm.Cond.code ({ cls := "KindJudgeModel", name := "isFine", desc := "()Z" } : Jvm.MethodName) prog_11_method_23_code (3 : Nat) (Option.some Jvm.ClassFile.FieldType.boolean)), (Jvm.Cond.initialized "KindJudgeModel"), (Jvm.Cond.methodLink "KindJudgeModel" (159 : Nat) ({ cls := "KindJudgeModel", name := "takeApart", desc := "()Z" } : Jvm.MethodName)), (Jvm.Cond.instanceMethod ({ cls := "KindJudgeModel", name := "takeApart", desc := "()Z" } : Jvm.MethodName)), (Jvm.Cond.selects "KindJudgeModel" ({ cls := "KindJudgeModel", name := "takeApart", desc := "()Z" } : Jvm.MethodName) ({ cls := "KindJudgeModel", name := "takeApart", desc := "()Z" } : Jvm.MethodName)), (Jvm.Cond.fieldLink "KindJudgeModel" (87 : Nat) "KindJudgeModel" "at" "I"), (Jvm.Cond.methodLink "KindJudgeModel" (163 : Nat) ({ cls := "KindJudgeModel", name := "findFault", desc := "(III)Z" } : Jvm.MethodName)), (Jvm.Cond.instanceMethod ({ cls := "KindJudgeModel", name := "findFault", desc := "(III)Z" } : Jvm.MethodName)), (Jvm.Cond.selects "KindJudgeModel" ({ cls := "KindJudgeModel", name := "findFault", desc := "(III)Z" } : Jvm.MethodName) ({ cls := "KindJudgeModel", name := "findFault", desc := "(III)Z" } : Jvm.MethodName)), (Jvm.Cond.fieldLink "KindJudgeModel" (114 : Nat) "KindJudgeModel" "methods" "I"), (Jvm.Cond.methodLink "KindJudgeModel" (166 : Nat) ({ cls := "KindJudgeModel", name := "findBegins", desc := "(I)V" } : Jvm.MethodName)), (Jvm.Cond.instanceMethod ({ cls := "KindJudgeModel", name := "findBegins", desc := "(I)V" } : Jvm.MethodName)), (Jvm.Cond.selects "KindJudgeModel" ({ cls := "KindJudgeModel", name := "findBegins", desc := "(I)V" } : Jvm.MethodName) ({ cls := "KindJudgeModel", name := "findBegins", desc := "(I)V" } : Jvm.MethodName)), (Jvm.Cond.fieldLink "KindJudgeModel" (52 : Nat) "KindJudgeModel" "size" "[I"), (Jvm.Cond.fieldLink "KindJudgeModel" (58 : Nat) "KindJudgeModel" "begins" "[Z"), (Jvm.Cond.methodLink "KindJudgeModel" (169 : Nat) ({ cls := "KindJudgeModel", name := "isGood", desc := "(II)Z" } : Jvm.MethodName)), (Jvm.Cond.instanceMethod ({ cls := "KindJudgeModel", name := "isGood", desc := "(II)Z" } : Jvm.MethodName)), (Jvm.Cond.selects "KindJudgeModel" ({ cls := "KindJudgeModel", name := "isGood", desc := "(II)Z" } : Jvm.MethodName) ({ cls := "KindJudgeModel", name := "isGood", desc := "(II)Z" } : Jvm.MethodName)), (Jvm.Cond.methodLink "KindJudgeModel" (172 : Nat) ({ cls := "KindJudgeModel", name := "flow", desc := "(I)V" } : Jvm.MethodName)), (Jvm.Cond.instanceMethod ({ cls := "KindJudgeModel", name := "flow", desc := "(I)V" } : Jvm.MethodName)), (Jvm.Cond.selects "KindJudgeModel" ({ cls := "KindJudgeModel", name := "flow", desc := "(I)V" } : Jvm.MethodName) ({ cls := "KindJudgeModel", name := "flow", desc := "(I)V" } : Jvm.MethodName)), (Jvm.Cond.fieldLink "KindJudgeModel" (65 : Nat) "KindJudgeModel" "height" "[I"), (Jvm.Cond.methodLink "KindJudgeModel" (175 : Nat) ({ cls := "KindJudgeModel", name := "isWrong", desc := "(II)Z" } : Jvm.MethodName)), (Jvm.Cond.instanceMethod ({ cls := "KindJudgeModel", name := "isWrong", desc := "(II)Z" } : Jvm.MethodName)), (Jvm.Cond.selects "KindJudgeModel" ({ cls := "KindJudgeModel", name := "isWrong", desc := "(II)Z" } : Jvm.MethodName) ({ cls := "KindJudgeModel", name := "isWrong", desc := "(II)Z" } : Jvm.MethodName))]
set_option maxRecDepth 100000 in
set_option maxHeartbeats 4000000 in
theorem kjS_122 : ∀ w ∈ kjW_122, w ∈ lw_tbl := mv_sub_of [958, 74, 959, 961, 28, 865, 1002, 1004, 38, 850, 1006, 1008, 39, 856, 858, 1021, 1023, 42, 1029, 1031, 44, 860, 1065, 1067, 53] (by decide +kernel)
set_option maxRecDepth 100000 in
set_option maxHeartbeats 4000000 in
theorem kjH_122 : mv_hdB kjW_122 kjM_122 = true := by decide +kernel
set_option maxRecDepth 100000 in
set_option maxHeartbeats 4000000 in
theorem kjK_122_0 : (kjT_122.take 40).all (mv_rowB kjW_122 kjCl kjKd kjP kjStn kjM_122) = true := by decide +kernel
set_option maxRecDepth 100000 in
set_option maxHeartbeats 4000000 in
theorem kjK_122_40 : ((kjT_122.drop 40).take 40).all (mv_rowB kjW_122 kjCl kjKd kjP kjStn kjM_122) = true := by decide +kernel
set_option maxRecDepth 100000 in
set_option maxHeartbeats 4000000 in
theorem kjK_122_80 : (kjT_122.drop 80).all (mv_rowB kjW_122 kjCl kjKd kjP kjStn kjM_122) = true := by decide +kernel
set_option maxRecDepth 100000 in
set_option maxHeartbeats 4000000 in
theorem kjK_122 : mv_mkB kjW_122 kjCl kjKd kjP kjStn kjM_122 = true := mv_mkB_of kjH_122 (mv_all_split (l := kjT_122) 40 kjK_122_0 (mv_all_split (l := (kjT_122.drop 40)) 40 kjK_122_40 (show ((kjT_122.drop 40).drop 40).all _ = true by rw [List.drop_drop]; exact kjK_122_80)))
def kjW_123 : List Jvm.Cond := [(Jvm.Cond.code ({ cls := "KindJudgeModel", name := "load", desc := "()I" } : Jvm.MethodName) prog_11_method_24_code (3 : Nat) (Option.some Jvm.ClassFile.FieldType.int)), (Jvm.Cond.initialized "KindJudgeModel"), (Jvm.Cond.fieldLink "KindJudgeModel" (78 : Nat) "KindJudgeModel" "together" "I"), (Jvm.Cond.fieldLink "KindJudgeModel" (90 : Nat) "KindJudgeModel" "readLong" "I"), (Jvm.Cond.fieldLink "KindJudgeModel" (13 : Nat) "KindJudgeModel" "read" "[I"), (Jvm.Cond.fieldLink "KindJudgeModel" (7 : Nat) "KindJudgeModel" "bytes" "[I"), (Jvm.Cond.methodLink "KindJudgeModel" (178 : Nat) ({ cls := "KindJudgeModel", name := "isFine", desc := "()Z" } : Jvm.MethodName)), (Jvm.Cond.instanceMethod ({ cls := "KindJudgeModel", name := "isFine", desc := "()Z" } : Jvm.MethodName)), (Jvm.Cond.selects "KindJudgeModel" ({ cls := "KindJudgeModel", name := "isFine", desc := "()Z" } : Jvm.MethodName) ({ cls := "KindJudgeModel", name := "isFine", desc := "()Z" } : Jvm.MethodName)), (Jvm.Cond.fieldLink "KindJudgeModel" (150 : Nat) "KindJudgeModel" "fault" "I"), (Jvm.Cond.fieldLink "KindJudgeModel" (156 : Nat) "KindJudgeModel" "faultPlace" "I"), (Jvm.Cond.fieldLink "KindJudgeModel" (153 : Nat) "KindJudgeModel" "faultMethod" "I"), (Jvm.Cond.fieldLink "KindJudgeModel" (16 : Nat) "KindJudgeModel" "file" "[I"), (Jvm.Cond.fieldLink "KindJudgeModel" (181 : Nat) "KindJudgeModel" "fileLong" "I"), (Jvm.Cond.fieldLink "KindJudgeModel" (184 : Nat) "KindJudgeModel" "isFile" "Z"), (Jvm.Cond.fieldLink "KindJudgeModel" (187 : Nat) "KindJudgeModel" "goods" "I"), (Jvm.Cond.fieldLink "KindJudgeModel" (74 : Nat) "KindJudgeModel" "thrown" "I"), (Jvm.Cond.fieldLink "KindJudgeModel" (114 : Nat) "KindJudgeModel" "methods" "I"), (Jvm.Cond.methodLink "KindJudgeModel" (190 : Nat) ({ cls := "KindJudgeModel", name := "again", desc := "()V" } : Jvm.MethodName)), (Jvm.Cond.instanceMethod ({ cls := "KindJudgeModel", name := "again", desc := "()V" } : Jvm.MethodName)), (Jvm.Cond.selects "KindJudgeModel" ({ cls := "KindJudgeModel", name := "again", desc := "()V" } : Jvm.MethodName) ({ cls := "KindJudgeModel", name := "again", desc := "()V" } : Jvm.MethodName)), (Jvm.Cond.methodLink "KindJudgeModel" (193 : Nat) ({ cls := "KindJudgeModel", name := "raise", desc := "(I)I" } : Jvm.MethodName)), (Jvm.Cond.instanceMethod ({ cls := "KindJudgeModel", name := "raise", desc := "(I)I" } : Jvm.MethodName)), (Jvm.Cond.selects "KindJudgeModel" ({ cls := "KindJudgeModel", name := "raise", desc := "(I)I" } : Jvm.MethodName) ({ cls := "KindJudgeModel", name := "raise", desc := "(I)I" } : Jvm.MethodName))]
set_option maxRecDepth 100000 in
set_option maxHeartbeats 4000000 in
theorem kjS_123 : ∀ w ∈ kjW_123, w ∈ lw_tbl := mv_sub_of [954, 74, 832, 835, 834, 833, 955, 957, 27, 839, 840, 841, 836, 837, 838, 831, 830, 850, 1080, 1082, 56, 1084, 1086, 57] (by decide +kernel)
set_option maxRecDepth 100000 in
set_option maxHeartbeats 4000000 in
theorem kjH_123 : mv_hdB kjW_123 kjM_123 = true := by decide +kernel
set_option maxRecDepth 100000 in
set_option maxHeartbeats 4000000 in
theorem kjK_123_0 : (kjT_123.take 40).all (mv_rowB kjW_123 kjCl kjKd kjP kjStn kjM_123) = true := by decide +kernel
set_option maxRecDepth 100000 in
set_option maxHeartbeats 4000000 in
theorem kjK_123_40 : ((kjT_123.drop 40).take 40).all (mv_rowB kjW_123 kjCl kjKd kjP kjStn kjM_123) = true := by decide +kernel
set_option maxRecDepth 100000 in
set_option maxHeartbeats 4000000 in
theorem kjK_123_80 : (kjT_123.drop 80).all (mv_rowB kjW_123 kjCl kjKd kjP kjStn kjM_123) = true := by decide +kernel
