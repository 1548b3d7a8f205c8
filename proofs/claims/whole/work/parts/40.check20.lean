set_option maxRecDepth 100000 in
set_option maxHeartbeats 4000000 in
theorem kjK_122 : mv_mkB kjW_122 kjCl kjKd kjP kjStn kjM_122 = true := mv_mkB_of kjH_122 (mv_all_split (l := kjT_122) 40 kjK_122_0 (mv_all_split (l := (kjT_122.drop 40)) 40 kjK_122_40 (show ((kjT_122.drop 40).drop 40).all _ = true by rw [List.drop_drop]; exact kjK_122_80)))
def kjW_123 : List Jvm.Cond := [(Jvm.Cond.code ({ cls := "KindJudgeModel", name := "load", desc := "()I" } : Jvm.MethodName) prog_11_method_24_code (3 : Nat) (Option.some Jvm.ClassFile.FieldType.int)), (Jvm.Cond.initialized "KindJudgeModel"), (Jvm.Cond.fieldLink "KindJudgeModel" (78 : Nat) "KindJudgeModel" "together" "I"), (Jvm.Cond.fieldLink "KindJudgeModel" (90 : Nat) "KindJudgeModel" "readLong" "I"), (Jvm.Cond.fieldLink "KindJudgeModel" (13 : Nat) "KindJudgeModel" "read" "[I"), (Jvm.Cond.fieldLink "KindJudgeModel" (7 : Nat) "KindJudgeModel" "bytes" "[I"), (Jvm.Cond.methodLink "KindJudgeModel" (178 : Nat) ({ cls := "KindJudgeModel", name := "isFine", desc := "()Z" } : Jvm.MethodName)), (Jvm.Cond.instanceMethod ({ cls := "KindJudgeModel", name := "isFine", desc := "()Z" } : Jvm.MethodName)), (Jvm.Cond.selects "KindJudgeModel" ({ cls := "KindJudgeModel", name := "isFine", desc := "()Z" } : Jvm.MethodName) ({ cls := "KindJudgeModel", name := "isFine", desc := "()Z" } : Jvm.MethodName)), (Jvm.Cond.fieldLink "KindJudgeModel" (150 : Nat) "KindJudgeModel" "fault" "I"), (Jvm.Cond.fieldLink "KindJudgeModel" (156 : Nat) "KindJudgeModel" "faultPlace" "I"), (Jvm.Cond.fieldLink "KindJudgeModel" (153 : Nat) "KindJudgeModel" "faultMethod" "I"), (Jvm.Cond.fieldLink "KindJudgeModel" (16 : Nat) "KindJudgeModel" "file" "[I"), (Jvm.Cond.fieldLink "KindJudgeModel" (181 : Nat) "KindJudgeModel" "fileLong" "I"), (Jvm.Cond.fieldLink "KindJudgeModel" (184 : Nat) "KindJudgeModel" "isFile" "Z"), (Jvm.Cond.fieldLink "KindJudgeModel" (187 : Nat) "KindJudgeModel" "goods" "I"), (Jvm.Cond.fieldLink "KindJudgeModel" (74 : Nat) "KindJudgeModel" "thrown" "I"), (Jvm.Cond.fieldLink "KindJudgeModel" (114 : Nat) "KindJudgeModel" "methods" "I"), (Jvm.Cond.methodLink "KindJudgeModel" (190 : Nat) ({ cls := "KindJudgeModel", name := "again", desc := "()V" } : Jvm.MethodName)), (Jvm.Cond.instanceMethod ({ cls := "KindJudgeModel", name := "again", desc := "()V" } : Jvm.MethodName)), (Jvm.Cond.selects "KindJudgeModel" ({ cls := "KindJudgeModel", name := "again", desc := "()V" } : Jvm.MethodName) ({ cls := "KindJudgeModel", name := "again", desc := "()V" } : Jvm.MethodName)), (Jvm.Cond.methodLink "KindJudgeModel" (193 : Nat) ({ cls := "KindJudgeModel", name := "raise", desc := "(I)I" } : Jvm.MethodName)), (Jvm.Cond.instanceMethod ({ cls := "KindJudgeModel", name := "raise", desc := "(I)I" } : Jvm.MethodName)), (Jvm.Cond.selects "KindJudgeModel" ({ cls := "KindJudgeModel", name := "raise", desc := "(I)I" } : Jvm.MethodName) ({ cls := "KindJudgeModel", name := "raise", desc := "(I)I" } : Jvm.MethodName))]
set_option maxRecDepth 100000 in
set_option maxHeartbeats 4000000 in
theorem kjS_123 : ∀ w ∈ kjW_123, w ∈ lw_tbl := mv_sub_of [954, 74, 832, 835, 834, 833, 955, 957, 27, 839, 840, 841, 836, 837, 838, 831, 830, 850, 1080, 1082, 56, 1084, 1086, 57] (by decide +kernel)
set_option maxRecDepth 100000 in
set_option maxHeartbeats 4000000 in
theorem kjH_123 : mv_hdB kjW_123 kjM_123 = true := by decide +kernel
set_option maxRecDepth 100000 in
set_option maxHeartbeats 4000000 in
theorem kjK_123_0 : (kjT_123.take 40).all (mv_rowB kjW_123 kjCl kjKd kjP kjStn kjM_123) = true := by decide +kernel
set_option maxRecDepth 100000 in
set_option maxHeartbeats 4000000 in
theorem kjK_123_40 : ((kjT_123.drop 40).take 40).all (mv_rowB kjW_123 kjCl kjKd kjP kjStn kjM_123) = true := by decide +kernel
set_option maxRecDepth 100000 in
set_option maxHeartbeats 4000000 in
theorem kjK_123_80 : (kjT_123.drop 80).all (mv_rowB kjW_123 kjCl kjKd kjP kjStn kjM_123) = true := by decide +kernel
set_option maxRecDepth 100000 in
set_option maxHeartbeats 4000000 in
theorem kjK_123 : mv_mkB kjW_123 kjCl kjKd kjP kjStn kjM_123 = true := mv_mkB_of kjH_123 (mv_all_split (l := kjT_123) 40 kjK_123_0 (mv_all_split (l := (kjT_123.drop 40)) 40 kjK_123_40 (show ((kjT_123.drop 40).drop 40).all _ = true by rw [List.drop_drop]; exact kjK_123_80)))
def kjW_124 : List Jvm.Cond := [(Jvm.Cond.code ({ cls := "KindJudgeModel", name := "again", desc := "()V" } : Jvm.MethodName) prog_11_method_25_code (5 : Nat) (Option.none : Option Jvm.ClassFile.FieldType)), (Jvm.Cond.initialized "KindJudgeModel"), (Jvm.Cond.fieldLink "KindJudgeModel" (150 : Nat) "KindJudgeModel" "fault" "I"), (Jvm.Cond.fieldLink "KindJudgeModel" (153 : Nat) "KindJudgeModel" "faultMethod" "I"), (Jvm.Cond.fieldLink "KindJudgeModel" (156 : Nat) "KindJudgeModel" "faultPlace" "I"), (Jvm.Cond.fieldLink "KindJudgeModel" (181 : Nat) "KindJudgeModel" "fileLong" "I"), (Jvm.Cond.fieldLink "KindJudgeModel" (90 : Nat) "KindJudgeModel" "readLong" "I"), (Jvm.Cond.fieldLink "KindJudgeModel" (13 : Nat) "KindJudgeModel" "read" "[I"), (Jvm.Cond.fieldLink "KindJudgeModel" (16 : Nat) "KindJudgeModel" "file" "[I"), (Jvm.Cond.methodLink "KindJudgeModel" (178 : Nat) ({ cls := "KindJudgeModel", name := "isFine", desc := "()Z" } : Jvm.MethodName)), (Jvm.Cond.instanceMethod ({ cls := "KindJudgeModel", name := "isFine", desc := "()Z" } : Jvm.MethodName)), (Jvm.Cond.selects "KindJudgeModel" ({ cls := "KindJudgeModel", name := "isFine", desc := "()Z" } : Jvm.MethodName) ({ cls := "KindJudgeModel", name := "isFine", desc := "()Z" } : Jvm.MethodName))]
set_option maxRecDepth 100000 in
set_option maxHeartbeats 4000000 in
theorem kjS_124 : ∀ w ∈ kjW_124, w ∈ lw_tbl := mv_sub_of [1083, 74, 839, 841, 840, 837, 835, 834, 836, 955, 957, 27] (by decide +kernel)
set_option maxRecDepth 100000 in
set_option maxHeartbeats 4000000 in
theorem kjK_124 : mv_mkB kjW_124 kjCl kjKd kjP kjStn kjM_124 = true := by decide +kernel
def kjW_125 : List Jvm.Cond := [(Jvm.Cond.code ({ cls := "KindJudgeModel", name := "fault", desc := "(I)I" } : Jvm.MethodName) prog_11_method_26_code (2 : Nat) (Option.some Jvm.ClassFile.FieldType.int)), (Jvm.Cond.initialized "KindJudgeModel"), (Jvm.Cond.fieldLink "KindJudgeModel" (74 : Nat) "KindJudgeModel" "thrown" "I"), (Jvm.Cond.fieldLink "KindJudgeModel" (150 : Nat) "KindJudgeModel" "fault" "I"), (Jvm.Cond.fieldLink "KindJudgeModel" (156 : Nat) "KindJudgeModel" "faultPlace" "I"), (Jvm.Cond.fieldLink "KindJudgeModel" (153 : Nat) "KindJudgeModel" "faultMethod" "I")]
set_option maxRecDepth 100000 in
set_option maxHeartbeats 4000000 in
theorem kjS_125 : ∀ w ∈ kjW_125, w ∈ lw_tbl := mv_sub_of [1091, 74, 830, 839, 840, 841] (by decide +kernel)
set_option maxRecDepth 100000 in
set_option maxHeartbeats 4000000 in
theorem kjK_125 : mv_mkB kjW_125 kjCl kjKd kjP kjStn kjM_125 = true := by decide +kernel
def kjW_126 : List Jvm.Cond := [(Jvm.Cond.code ({ cls := "KindJudgeModel", name := "resolve", desc := "(II)I" } : Jvm.MethodName) prog_11_method_27_code (4 : Nat) (Option.some Jvm.ClassFile.FieldType.int)), (Jvm.Cond.initialized "KindJudgeModel"), (Jvm.Cond.fieldLink "KindJudgeModel" (62 : Nat) "KindJudgeModel" "table" "[I"), (Jvm.Cond.fieldLink "KindJudgeModel" (19 : Nat) "KindJudgeModel" "above" "[I")]
set_option maxRecDepth 100000 in
set_option maxHeartbeats 4000000 in
theorem kjS_126 : ∀ w ∈ kjW_126, w ∈ lw_tbl := mv_sub_of [1079, 74, 859, 843] (by decide +kernel)
set_option maxRecDepth 100000 in
set_option maxHeartbeats 4000000 in
theorem kjK_126 : mv_mkB kjW_126 kjCl kjKd kjP kjStn kjM_126 = true := by decide +kernel
def kjW_127 : List Jvm.Cond := [(Jvm.Cond.code ({ cls := "KindJudgeModel", name := "joined", desc := "(II)I" } : Jvm.MethodName) prog_11_method_28_code (4 : Nat) (Option.some Jvm.ClassFile.FieldType.int)), (Jvm.Cond.initialized "KindJudgeModel"), (Jvm.Cond.methodLink "KindJudgeModel" (111 : Nat) ({ cls := "KindJudgeModel", name := "isOf", desc := "(II)Z" } : Jvm.MethodName)), (Jvm.Cond.instanceMethod ({ cls := "KindJudgeModel", name := "isOf", desc := "(II)Z" } : Jvm.MethodName)), (Jvm.Cond.selects "KindJudgeModel" ({ cls := "KindJudgeModel", name := "isOf", desc := "(II)Z" } : Jvm.MethodName) ({ cls := "KindJudgeModel", name := "isOf", desc := "(II)Z" } : Jvm.MethodName)), (Jvm.Cond.fieldLink "KindJudgeModel" (19 : Nat) "KindJudgeModel" "above" "[I")]
set_option maxRecDepth 100000 in
set_option maxHeartbeats 4000000 in
theorem kjS_127 : ∀ w ∈ kjW_127, w ∈ lw_tbl := mv_sub_of [1040, 74, 994, 996, 36, 843] (by decide +kernel)
set_option maxRecDepth 100000 in
set_option maxHeartbeats 4000000 in
theorem kjH_127 : mv_hdB kjW_127 kjM_127 = true := by decide +kernel
set_option maxRecDepth 100000 in
set_option maxHeartbeats 4000000 in
theorem kjK_127_0 : (kjT_127.take 40).all (mv_rowB kjW_127 kjCl kjKd kjP kjStn kjM_127) = true := by decide +kernel
set_option maxRecDepth 100000 in
set_option maxHeartbeats 4000000 in
theorem kjK_127_40 : (kjT_127.drop 40).all (mv_rowB kjW_127 kjCl kjKd kjP kjStn kjM_127) = true := by decide +kernel
