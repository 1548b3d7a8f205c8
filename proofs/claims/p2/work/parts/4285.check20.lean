set_option maxRecDepth 100000 in
set_option maxHeartbeats 4000000 in
theorem kjK_121_60 : ((kjT_121.drop 60).take 20).all (mv_rowB kjW_121 kjCl kjKd kjP kjStn kjM_121) = true := by decide +kernel
set_option maxRecDepth 100000 in
set_option maxHeartbeats 4000000 in
theorem kjK_121_80 : ((kjT_121.drop 80).take 20).all (mv_rowB kjW_121 kjCl kjKd kjP kjStn kjM_121) = true := by decide +kernel
set_option maxRecDepth 100000 in
set_option maxHeartbeats 4000000 in
theorem kjK_121_100 : (kjT_121.drop 100).all (mv_rowB kjW_121 kjCl kjKd kjP kjStn kjM_121) = true := by decide +kernel
set_option maxRecDepth 100000 in
set_option maxHeartbeats 4000000 in
theorem kjK_121 : mv_mkB kjW_121 kjCl kjKd kjP kjStn kjM_121 = true := mv_mkB_of kjH_121 (mv_all_split (l := kjT_121) 20 kjK_121_0 (mv_all_split (l := (kjT_121.drop 20)) 20 kjK_121_20 (show ((kjT_121.drop 20).drop 20).all _ = true by rw [List.drop_drop]; exact (mv_all_split (l := (kjT_121.drop 40)) 20 kjK_121_40 (show ((kjT_121.drop 40).drop 20).all _ = true by rw [List.drop_drop]; exact (mv_all_split (l := (kjT_121.drop 60)) 20 kjK_121_60 (show ((kjT_121.drop 60).drop 20).all _ = true by rw [List.drop_drop]; exact (mv_all_split (l := (kjT_121.drop 80)) 20 kjK_121_80 (show ((kjT_121.drop 80).drop 20).all _ = true by rw [List.drop_drop]; exact kjK_121_100)))))))))
def kjW_122 : List Jvm.Cond := [(Jvm.Cond.code ({ cls := "KindJudgeModel", name := "load", desc := "()I" } : Jvm.MethodName) prog_11_method_24_code (3 : Nat) (Option.some Jvm.ClassFile.FieldType.int)), (Jvm.Cond.initialized "KindJudgeModel"), (Jvm.Cond.fieldLink "KindJudgeModel" (78 : Nat) "KindJudgeModel" "together" "I"), (Jvm.Cond.fieldLink "KindJudgeModel" (90 : Nat) "KindJudgeModel" "readLong" "I"), (Jvm.Cond.fieldLink "KindJudgeModel" (13 : Nat) "KindJudgeModel" "read" "[I"), (Jvm.Cond.fieldLink "KindJudgeModel" (7 : Nat) "KindJudgeModel" "bytes" "[I"), (Jvm.Cond.methodLink "KindJudgeModel" (178 : Nat) ({ cls := "KindJudgeModel", name := "isFine", desc := "()Z" } : Jvm.MethodName)), (Jvm.Cond.instanceMethod ({ cls := "KindJudgeModel", name := "isFine", desc := "()Z" } : Jvm.MethodName)), (Jvm.Cond.selects "KindJudgeModel" ({ cls := "KindJudgeModel", name := "isFine", desc := "()Z" } : Jvm.MethodName) ({ cls := "KindJudgeModel", name := "isFine", desc := "()Z" } : Jvm.MethodName)), (Jvm.Cond.fieldLink "KindJudgeModel" (150 : Nat) "KindJudgeModel" "fault" "I"), (Jvm.Cond.fieldLink "KindJudgeModel" (156 : Nat) "KindJudgeModel" "faultPlace" "I"), (Jvm.Cond.fieldLink "KindJudgeModel" (153 : Nat) "KindJudgeModel" "faultMethod" "I"), (Jvm.Cond.fieldLink "KindJudgeModel" (16 : Nat) "KindJudgeModel" "file" "[I"), (Jvm.Cond.fieldLink "KindJudgeModel" (181 : Nat) "KindJudgeModel" "fileLong" "I"), (Jvm.Cond.fieldLink "KindJudgeModel" (184 : Nat) "KindJudgeModel" "isFile" "Z"), (Jvm.Cond.fieldLink "KindJudgeModel" (187 : Nat) "KindJudgeModel" "goods" "I"), (Jvm.Cond.fieldLink "KindJudgeModel" (74 : Nat) "KindJudgeModel" "thrown" "I"), (Jvm.Cond.fieldLink "KindJudgeModel" (114 : Nat) "KindJudgeModel" "methods" "I"), (Jvm.Cond.methodLink "KindJudgeModel" (190 : Nat) ({ cls := "KindJudgeModel", name := "again", desc := "()V" } : Jvm.MethodName)), (Jvm.Cond.instanceMethod ({ cls := "KindJudgeModel", name := "again", desc := "()V" } : Jvm.MethodName)), (Jvm.Cond.selects "KindJudgeModel" ({ cls := "KindJudgeModel", name := "again", desc := "()V" } : Jvm.MethodName) ({ cls := "KindJudgeModel", name := "again", desc := "()V" } : Jvm.MethodName)), (Jvm.Cond.methodLink "KindJudgeModel" (193 : Nat) ({ cls := "KindJudgeModel", name := "raise", desc := "(I)I" } : Jvm.MethodName)), (Jvm.Cond.instanceMethod ({ cls := "KindJudgeModel", name := "raise", desc := "(I)I" } : Jvm.MethodName)), (Jvm.Cond.selects "KindJudgeModel" ({ cls := "KindJudgeModel", name := "raise", desc := "(I)I" } : Jvm.MethodName) ({ cls := "KindJudgeModel", name := "raise", desc := "(I)I" } : Jvm.MethodName))]
set_option maxRecDepth 100000 in
set_option maxHeartbeats 4000000 in
theorem kjS_122 : ∀ w ∈ kjW_122, w ∈ lw_tbl := mv_sub_of [950, 74, 832, 835, 834, 833, 951, 953, 27, 839, 840, 841, 836, 837, 838, 831, 830, 850, 1076, 1078, 56, 1080, 1082, 57] (by decide +kernel)
set_option maxRecDepth 100000 in
set_option maxHeartbeats 4000000 in
theorem kjH_122 : mv_hdB kjW_122 kjM_122 = true := by decide +kernel
set_option maxRecDepth 100000 in
set_option maxHeartbeats 4000000 in
theorem kjK_122_0 : (kjT_122.take 20).all (mv_rowB kjW_122 kjCl kjKd kjP kjStn kjM_122) = true := by decide +kernel
set_option maxRecDepth 100000 in
set_option maxHeartbeats 4000000 in
theorem kjK_122_20 : ((kjT_122.drop 20).take 20).all (mv_rowB kjW_122 kjCl kjKd kjP kjStn kjM_122) = true := by decide +kernel
set_option maxRecDepth 100000 in
set_option maxHeartbeats 4000000 in
theorem kjK_122_40 : ((kjT_122.drop 40).take 20).all (mv_rowB kjW_122 kjCl kjKd kjP kjStn kjM_122) = true := by decide +kernel
set_option maxRecDepth 100000 in
set_option maxHeartbeats 4000000 in
theorem kjK_122_60 : ((kjT_122.drop 60).take 20).all (mv_rowB kjW_122 kjCl kjKd kjP kjStn kjM_122) = true := by decide +kernel
set_option maxRecDepth 100000 in
set_option maxHeartbeats 4000000 in
theorem kjK_122_80 : (kjT_122.drop 80).all (mv_rowB kjW_122 kjCl kjKd kjP kjStn kjM_122) = true := by decide +kernel
set_option maxRecDepth 100000 in
set_option maxHeartbeats 4000000 in
theorem kjK_122 : mv_mkB kjW_122 kjCl kjKd kjP kjStn kjM_122 = true := mv_mkB_of kjH_122 (mv_all_split (l := kjT_122) 20 kjK_122_0 (mv_all_split (l := (kjT_122.drop 20)) 20 kjK_122_20 (show ((kjT_122.drop 20).drop 20).all _ = true by rw [List.drop_drop]; exact (mv_all_split (l := (kjT_122.drop 40)) 20 kjK_122_40 (show ((kjT_122.drop 40).drop 20).all _ = true by rw [List.drop_drop]; exact (mv_all_split (l := (kjT_122.drop 60)) 20 kjK_122_60 (show ((kjT_122.drop 60).drop 20).all _ = true by rw [List.drop_drop]; exact kjK_122_80)))))))
def kjW_123 : List Jvm.Cond := [(Jvm.Cond.code ({ cls := "KindJudgeModel", name := "again", desc := "()V" } : Jvm.MethodName) prog_11_method_25_code (5 : Nat) (Option.none : Option Jvm.ClassFile.FieldType)), (Jvm.Cond.initialized "KindJudgeModel"), (Jvm.Cond.fieldLink "KindJudgeModel" (150 : Nat) "KindJudgeModel" "fault" "I"), (Jvm.Cond.fieldLink "KindJudgeModel" (153 : Nat) "KindJudgeModel" "faultMethod" "I"), (Jvm.Cond.fieldLink "KindJudgeModel" (156 : Nat) "KindJudgeModel" "faultPlace" "I"), (Jvm.Cond.fieldLink "KindJudgeModel" (181 : Nat) "KindJudgeModel" "fileLong" "I"), (Jvm.Cond.fieldLink "KindJudgeModel" (90 : Nat) "KindJudgeModel" "readLong" "I"), (Jvm.Cond.fieldLink "KindJudgeModel" (13 : Nat) "KindJudgeModel" "read" "[I"), (Jvm.Cond.fieldLink "KindJudgeModel" (16 : Nat) "KindJudgeModel" "file" "[I"), (Jvm.Cond.methodLink "KindJudgeModel" (178 : Nat) ({ cls := "KindJudgeModel", name := "isFine", desc := "()Z" } : Jvm.MethodName)), (Jvm.Cond.instanceMethod ({ cls := "KindJudgeModel", name := "isFine", desc := "()Z" } : Jvm.MethodName)), (Jvm.Cond.selects "KindJudgeModel" ({ cls := "KindJudgeModel", name := "isFine", desc := "()Z" } : Jvm.MethodName) ({ cls := "KindJudgeModel", name := "isFine", desc := "()Z" } : Jvm.MethodName))]
set_option maxRecDepth 100000 in
set_option maxHeartbeats 4000000 in
theorem kjS_123 : ∀ w ∈ kjW_123, w ∈ lw_tbl := mv_sub_of [1079, 74, 839, 841, 840, 837, 835, 834, 836, 951, 953, 27] (by decide +kernel)
set_option maxRecDepth 100000 in
set_option maxHeartbeats 4000000 in
theorem kjK_123 : mv_mkB kjW_123 kjCl kjKd kjP kjStn kjM_123 = true := by decide +kernel
def kjW_124 : List Jvm.Cond := [(Jvm.Cond.code ({ cls := "KindJudgeModel", name := "fault", desc := "(I)I" } : Jvm.MethodName) prog_11_method_26_code (2 : Nat) (Option.some Jvm.ClassFile.FieldType.int)), (Jvm.Cond.initialized "KindJudgeModel"), (Jvm.Cond.fieldLink "KindJudgeModel" (74 : Nat) "KindJudgeModel" "thrown" "I"), (Jvm.Cond.fieldLink "KindJudgeModel" (150 : Nat) "KindJudgeModel" "fault" "I"), (Jvm.Cond.fieldLink "KindJudgeModel" (156 : Nat) "KindJudgeModel" "faultPlace" "I"), (Jvm.Cond.fieldLink "KindJudgeModel" (153 : Nat) "KindJudgeModel" "faultMethod" "I")]
set_option maxRecDepth 100000 in
set_option maxHeartbeats 4000000 in
theorem kjS_124 : ∀ w ∈ kjW_124, w ∈ lw_tbl := mv_sub_of [1087, 74, 830, 839, 840, 841] (by decide +kernel)
set_option maxRecDepth 100000 in
set_option maxHeartbeats 4000000 in
theorem kjK_124 : mv_mkB kjW_124 kjCl kjKd kjP kjStn kjM_124 = true := by decide +kernel
