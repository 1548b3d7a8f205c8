set_option maxRecDepth 100000 in
set_option maxHeartbeats 4000000 in
theorem kjK_137 : mv_mkB kjW_137 kjCl kjKd kjP kjStn kjM_137 = true := mv_mkB_of kjH_137 (mv_all_split (l := kjT_137) 20 kjK_137_0 (mv_all_split (l := (kjT_137.drop 20)) 20 kjK_137_20 (show ((kjT_137.drop 20).drop 20).all _ = true by rw [List.drop_drop]; exact (mv_all_split (l := (kjT_137.drop 40)) 20 kjK_137_40 (show ((kjT_137.drop 40).drop 20).all _ = true by rw [List.drop_drop]; exact (mv_all_split (l := (kjT_137.drop 60)) 20 kjK_137_60 (show ((kjT_137.drop 60).drop 20).all _ = true by rw [List.drop_drop]; exact (mv_all_split (l := (kjT_137.drop 80)) 20 kjK_137_80 (show ((kjT_137.drop 80).drop 20).all _ = true by rw [List.drop_drop]; exact (mv_all_split (l := (kjT_137.drop 100)) 20 kjK_137_100 (show ((kjT_137.drop 100).drop 20).all _ = true by rw [List.drop_drop]; exact (mv_all_split (l := (kjT_137.drop 120)) 20 kjK_137_120 (show ((kjT_137.drop 120).drop 20).all _ = true by rw [List.drop_drop]; exact (mv_all_split (l := (kjT_137.drop 140)) 20 kjK_137_140 (show ((kjT_137.drop 140).drop 20).all _ = true by rw [List.drop_drop]; exact (mv_all_split (l := (kjT_137.drop 160)) 20 kjK_137_160 (show ((kjT_137.drop 160).drop 20).all _ = true by rw [List.drop_drop]; exact (mv_all_split (l := (kjT_137.drop 180)) 20 kjK_137_180 (show ((kjT_137.drop 180).drop 20).all _ = true by rw [List.drop_drop]; exact (mv_all_split (l := (kjT_137.drop 200)) 20 kjK_137_200 (show ((kjT_137.drop 200).drop 20).all _ = true by rw [List.drop_drop]; exact (mv_all_split (l := (kjT_137.drop 220)) 20 kjK_137_220 (show ((kjT_137.drop 220).drop 20).all _ = true by rw [List.drop_drop]; exact (mv_all_split (l := (kjT_137.drop 240)) 20 kjK_137_240 (show ((kjT_137.drop 240).drop 20).all _ = true by rw [List.drop_drop]; exact (mv_all_split (l := (kjT_137.drop 260)) 20 kjK_137_260 (show ((kjT_137.drop 260).drop 20).all _ = true by rw [List.drop_drop]; exact (mv_all_split (l := (kjT_137.drop 280)) 20 kjK_137_280 (show ((kjT_137.drop 280).drop 20).all _ = true by rw [List.drop_drop]; exact (mv_all_split (l := (kjT_137.drop 300)) 20 kjK_137_300 (show ((kjT_137.drop 300).drop 20).all _ = true by rw [List.drop_drop]; exact (mv_all_split (l := (kjT_137.drop 320)) 20 kjK_137_320 (show ((kjT_137.drop 320).drop 20).all _ = true by rw [List.drop_drop]; exact (mv_all_split (l := (kjT_137.drop 340)) 20 kjK_137_340 (show ((kjT_137.drop 340).drop 20).all _ = true by rw [List.drop_drop]; exact (mv_all_split (l := (kjT_137.drop 360)) 20 kjK_137_360 (show ((kjT_137.drop 360).drop 20).all _ = true by rw [List.drop_drop]; exact (mv_all_split (l := (kjT_137.drop 380)) 20 kjK_137_380 (show ((kjT_137.drop 380).drop 20).all _ = true by rw [List.drop_drop]; exact kjK_137_400)))))))))))))))))))))))))))))))))))))))
def kjW_138 : List Jvm.Cond := [(Jvm.Cond.code ({ cls := "KindJudgeModel", name := "kind", desc := "(III)I" } : Jvm.MethodName) prog_11_method_40_code (5 : Nat) (Option.some Jvm.ClassFile.FieldType.int)), (Jvm.Cond.initialized "KindJudgeModel"), (Jvm.Cond.fieldLink "KindJudgeModel" (74 : Nat) "KindJudgeModel" "thrown" "I"), (Jvm.Cond.fieldLink "KindJudgeModel" (184 : Nat) "KindJudgeModel" "isFile" "Z"), (Jvm.Cond.fieldLink "KindJudgeModel" (114 : Nat) "KindJudgeModel" "methods" "I"), (Jvm.Cond.methodLink "KindJudgeModel" (93 : Nat) ({ cls := "KindJudgeModel", name := "within", desc := "(III)Z" } : Jvm.MethodName)), (Jvm.Cond.static ({ cls := "KindJudgeModel", name := "within", desc := "(III)Z" } : Jvm.MethodName)), (Jvm.Cond.fieldLink "KindJudgeModel" (52 : Nat) "KindJudgeModel" "size" "[I"), (Jvm.Cond.fieldLink "KindJudgeModel" (65 : Nat) "KindJudgeModel" "height" "[I"), (Jvm.Cond.fieldLink "KindJudgeModel" (58 : Nat) "KindJudgeModel" "begins" "[Z"), (Jvm.Cond.fieldLink "KindJudgeModel" (46 : Nat) "KindJudgeModel" "locals" "[I"), (Jvm.Cond.fieldLink "KindJudgeModel" (68 : Nat) "KindJudgeModel" "kinds" "[I")]
set_option maxRecDepth 100000 in
set_option maxHeartbeats 4000000 in
theorem kjS_138 : ∀ w ∈ kjW_138, w ∈ lw_tbl := mv_sub_of [1091, 74, 830, 838, 850, 963, 964, 856, 860, 858, 854, 861] (by decide +kernel)
set_option maxRecDepth 100000 in
set_option maxHeartbeats 4000000 in
theorem kjH_138 : mv_hdB kjW_138 kjM_138 = true := by decide +kernel
set_option maxRecDepth 100000 in
set_option maxHeartbeats 4000000 in
theorem kjK_138_0 : (kjT_138.take 20).all (mv_rowB kjW_138 kjCl kjKd kjP kjStn kjM_138) = true := by decide +kernel
set_option maxRecDepth 100000 in
set_option maxHeartbeats 4000000 in
theorem kjK_138_20 : ((kjT_138.drop 20).take 20).all (mv_rowB kjW_138 kjCl kjKd kjP kjStn kjM_138) = true := by decide +kernel
set_option maxRecDepth 100000 in
set_option maxHeartbeats 4000000 in
theorem kjK_138_40 : ((kjT_138.drop 40).take 20).all (mv_rowB kjW_138 kjCl kjKd kjP kjStn kjM_138) = true := by decide +kernel
set_option maxRecDepth 100000 in
set_option maxHeartbeats 4000000 in
theorem kjK_138_60 : ((kjT_138.drop 60).take 20).all (mv_rowB kjW_138 kjCl kjKd kjP kjStn kjM_138) = true := by decide +kernel
set_option maxRecDepth 100000 in
set_option maxHeartbeats 4000000 in
theorem kjK_138_80 : (kjT_138.drop 80).all (mv_rowB kjW_138 kjCl kjKd kjP kjStn kjM_138) = true := by decide +kernel
set_option maxRecDepth 100000 in
set_option maxHeartbeats 4000000 in
theorem kjK_138 : mv_mkB kjW_138 kjCl kjKd kjP kjStn kjM_138 = true := mv_mkB_of kjH_138 (mv_all_split (l := kjT_138) 20 kjK_138_0 (mv_all_split (l := (kjT_138.drop 20)) 20 kjK_138_20 (show ((kjT_138.drop 20).drop 20).all _ = true by rw [List.drop_drop]; exact (mv_all_split (l := (kjT_138.drop 40)) 20 kjK_138_40 (show ((kjT_138.drop 40).drop 20).all _ = true by rw [List.drop_drop]; exact (mv_all_split (l := (kjT_138.drop 60)) 20 kjK_138_60 (show ((kjT_138.drop 60).drop 20).all _ = true by rw [List.drop_drop]; exact kjK_138_80)))))))
def kjW_139 : List Jvm.Cond := [(Jvm.Cond.code ({ cls := "KindJudgeModel", name := "isMethod", desc := "(I)Z" } : Jvm.MethodName) prog_11_method_41_code (2 : Nat) (Option.some Jvm.ClassFile.FieldType.boolean)), (Jvm.Cond.initialized "KindJudgeModel"), (Jvm.Cond.fieldLink "KindJudgeModel" (184 : Nat) "KindJudgeModel" "isFile" "Z"), (Jvm.Cond.fieldLink "KindJudgeModel" (114 : Nat) "KindJudgeModel" "methods" "I"), (Jvm.Cond.methodLink "KindJudgeModel" (93 : Nat) ({ cls := "KindJudgeModel", name := "within", desc := "(III)Z" } : Jvm.MethodName)), (Jvm.Cond.static ({ cls := "KindJudgeModel", name := "within", desc := "(III)Z" } : Jvm.MethodName))]
set_option maxRecDepth 100000 in
set_option maxHeartbeats 4000000 in
theorem kjS_139 : ∀ w ∈ kjW_139, w ∈ lw_tbl := mv_sub_of [1103, 74, 838, 850, 963, 964] (by decide +kernel)
set_option maxRecDepth 100000 in
set_option maxHeartbeats 4000000 in
theorem kjK_139 : mv_mkB kjW_139 kjCl kjKd kjP kjStn kjM_139 = true := by decide +kernel
def kjW_140 : List Jvm.Cond := [(Jvm.Cond.code ({ cls := "KindJudgeModel", name := "isBegun", desc := "(II)Z" } : Jvm.MethodName) prog_11_method_42_code (3 : Nat) (Option.some Jvm.ClassFile.FieldType.boolean)), (Jvm.Cond.initialized "KindJudgeModel"), (Jvm.Cond.methodLink "KindJudgeModel" (238 : Nat) ({ cls := "KindJudgeModel", name := "isMethod", desc := "(I)Z" } : Jvm.MethodName)), (Jvm.Cond.instanceMethod ({ cls := "KindJudgeModel", name := "isMethod", desc := "(I)Z" } : Jvm.MethodName)), (Jvm.Cond.selects "KindJudgeModel" ({ cls := "KindJudgeModel", name := "isMethod", desc := "(I)Z" } : Jvm.MethodName) ({ cls := "KindJudgeModel", name := "isMethod", desc := "(I)Z" } : Jvm.MethodName)), (Jvm.Cond.fieldLink "KindJudgeModel" (52 : Nat) "KindJudgeModel" "size" "[I"), (Jvm.Cond.methodLink "KindJudgeModel" (93 : Nat) ({ cls := "KindJudgeModel", name := "within", desc := "(III)Z" } : Jvm.MethodName)), (Jvm.Cond.static ({ cls := "KindJudgeModel", name := "within", desc := "(III)Z" } : Jvm.MethodName)), (Jvm.Cond.fieldLink "KindJudgeModel" (58 : Nat) "KindJudgeModel" "begins" "[Z")]
set_option maxRecDepth 100000 in
set_option maxHeartbeats 4000000 in
theorem kjS_140 : ∀ w ∈ kjW_140, w ∈ lw_tbl := mv_sub_of [1099, 74, 1100, 1102, 59, 856, 963, 964, 858] (by decide +kernel)
set_option maxRecDepth 100000 in
set_option maxHeartbeats 4000000 in
theorem kjK_140 : mv_mkB kjW_140 kjCl kjKd kjP kjStn kjM_140 = true := by decide +kernel
def kjW_141 : List Jvm.Cond := [(Jvm.Cond.code ({ cls := "KindJudgeModel", name := "isReached", desc := "(II)Z" } : Jvm.MethodName) prog_11_method_43_code (3 : Nat) (Option.some Jvm.ClassFile.FieldType.boolean)), (Jvm.Cond.initialized "KindJudgeModel"), (Jvm.Cond.fieldLink "KindJudgeModel" (65 : Nat) "KindJudgeModel" "height" "[I")]
set_option maxRecDepth 100000 in
set_option maxHeartbeats 4000000 in
theorem kjS_141 : ∀ w ∈ kjW_141, w ∈ lw_tbl := mv_sub_of [1111, 74, 860] (by decide +kernel)
set_option maxRecDepth 100000 in
set_option maxHeartbeats 4000000 in
theorem kjK_141 : mv_mkB kjW_141 kjCl kjKd kjP kjStn kjM_141 = true := by decide +kernel
def kjW_142 : List Jvm.Cond := [(Jvm.Cond.code ({ cls := "KindJudgeModel", name := "puts", desc := "(II)I" } : Jvm.MethodName) prog_11_method_44_code (4 : Nat) (Option.some Jvm.ClassFile.FieldType.int)), (Jvm.Cond.initialized "KindJudgeModel"), (Jvm.Cond.methodLink "KindJudgeModel" (137 : Nat) ({ cls := "KindJudgeModel", name := "byteAt", desc := "(II)I" } : Jvm.MethodName)), (Jvm.Cond.instanceMethod ({ cls := "KindJudgeModel", name := "byteAt", desc := "(II)I" } : Jvm.MethodName)), (Jvm.Cond.selects "KindJudgeModel" ({ cls := "KindJudgeModel", name := "byteAt", desc := "(II)I" } : Jvm.MethodName) ({ cls := "KindJudgeModel", name := "byteAt", desc := "(II)I" } : Jvm.MethodName)), (Jvm.Cond.fieldLink "KindJudgeModel" (43 : Nat) "KindJudgeModel" "returns" "[I"), (Jvm.Cond.fieldLink "KindJudgeModel" (34 : Nat) "KindJudgeModel" "selReturn" "[I")]
set_option maxRecDepth 100000 in
set_option maxHeartbeats 4000000 in
theorem kjS_142 : ∀ w ∈ kjW_142, w ∈ lw_tbl := mv_sub_of [1107, 74, 1010, 1012, 41, 853, 849] (by decide +kernel)
set_option maxRecDepth 100000 in
set_option maxHeartbeats 4000000 in
theorem kjK_142 : mv_mkB kjW_142 kjCl kjKd kjP kjStn kjM_142 = true := by decide +kernel
