set_option maxRecDepth 100000 in
set_option maxHeartbeats 4000000 in
theorem kjK_138_400 : (kjT_138.drop 400).all (mv_rowB kjW_138 kjCl kjKd kjP kjStn kjM_138) = true := by decide +kernel
set_option maxRecDepth 100000 in
set_option maxHeartbeats 4000000 in
theorem kjK_138 : mv_mkB kjW_138 kjCl kjKd kjP kjStn kjM_138 = true := mv_mkB_of kjH_138 (mv_all_split (l := kjT_138) 40 kjK_138_0 (mv_all_split (l := (kjT_138.drop 40)) 40 kjK_138_40 (show ((kjT_138.drop 40).drop 40).all _ = true by rw [List.drop_drop]; exact (mv_all_split (l := (kjT_138.drop 80)) 40 kjK_138_80 (show ((kjT_138.drop 80).drop 40).all _ = true by rw [List.drop_drop]; exact (mv_all_split (l := (kjT_138.drop 120)) 40 kjK_138_120 (show ((kjT_138.drop 120).drop 40).all _ = true by rw [List.drop_drop]; exact (mv_all_split (l := (kjT_138.drop 160)) 40 kjK_138_160 (show ((kjT_138.drop 160).drop 40).all _ = true by rw [List.drop_drop]; exact (mv_all_split (l := (kjT_138.drop 200)) 40 kjK_138_200 (show ((kjT_138.drop 200).drop 40).all _ = true by rw [List.drop_drop]; exact (mv_all_split (l := (kjT_138.drop 240)) 40 kjK_138_240 (show ((kjT_138.drop 240).drop 40).all _ = true by rw [List.drop_drop]; exact (mv_all_split (l := (kjT_138.drop 280)) 40 kjK_138_280 (show ((kjT_138.drop 280).drop 40).all _ = true by rw [List.drop_drop]; exact (mv_all_split (l := (kjT_138.drop 320)) 40 kjK_138_320 (show ((kjT_138.drop 320).drop 40).all _ = true by rw [List.drop_drop]; exact (mv_all_split (l := (kjT_138.drop 360)) 40 kjK_138_360 (show ((kjT_138.drop 360).drop 40).all _ = true by rw [List.drop_drop]; exact kjK_138_400)))))))))))))))))))
def kjW_139 : List Jvm.Cond := [(Jvm.Cond.code ({ cls := "KindJudgeModel", name := "kind", desc := "(III)I" } : Jvm.MethodName) prog_11_method_40_code (5 : Nat) (Option.some Jvm.ClassFile.FieldType.int)), (Jvm.Cond.initialized "KindJudgeModel"), (Jvm.Cond.fieldLink "KindJudgeModel" (74 : Nat) "KindJudgeModel" "thrown" "I"), (Jvm.Cond.fieldLink "KindJudgeModel" (184 : Nat) "KindJudgeModel" "isFile" "Z"), (Jvm.Cond.fieldLink "KindJudgeModel" (114 : Nat) "KindJudgeModel" "methods" "I"), (Jvm.Cond.methodLink "KindJudgeModel" (93 : Nat) ({ cls := "KindJudgeModel", name := "within", desc := "(III)Z" } : Jvm.MethodName)), (Jvm.Cond.static ({ cls := "KindJudgeModel", name := "within", desc := "(III)Z" } : Jvm.MethodName)), (Jvm.Cond.fieldLink "KindJudgeModel" (52 : Nat) "KindJudgeModel" "size" "[I"), (Jvm.Cond.fieldLink "KindJudgeModel" (65 : Nat) "KindJudgeModel" "height" "[I"), (Jvm.Cond.fieldLink "KindJudgeModel" (58 : Nat) "KindJudgeModel" "begins" "[Z"), (Jvm.Cond.fieldLink "KindJudgeModel" (46 : Nat) "KindJudgeModel" "locals" "[I"), (Jvm.Cond.fieldLink "KindJudgeModel" (68 : Nat) "KindJudgeModel" "kinds" "[I")]
set_option maxRecDepth 100000 in
set_option maxHeartbeats 4000000 in
theorem kjS_139 : ∀ w ∈ kjW_139, w ∈ lw_tbl := mv_sub_of [1095, 74, 830, 838, 850, 967, 968, 856, 860, 858, 854, 861] (by decide +kernel)
set_option maxRecDepth 100000 in
set_option maxHeartbeats 4000000 in
theorem kjH_139 : mv_hdB kjW_139 kjM_139 = true := by decide +kernel
set_option maxRecDepth 100000 in
set_option maxHeartbeats 4000000 in
theorem kjK_139_0 : (kjT_139.take 40).all (mv_rowB kjW_139 kjCl kjKd kjP kjStn kjM_139) = true := by decide +kernel
set_option maxRecDepth 100000 in
set_option maxHeartbeats 4000000 in
theorem kjK_139_40 : ((kjT_139.drop 40).take 40).all (mv_rowB kjW_139 kjCl kjKd kjP kjStn kjM_139) = true := by decide +kernel
set_option maxRecDepth 100000 in
set_option maxHeartbeats 4000000 in
theorem kjK_139_80 : (kjT_139.drop 80).all (mv_rowB kjW_139 kjCl kjKd kjP kjStn kjM_139) = true := by decide +kernel
set_option maxRecDepth 100000 in
set_option maxHeartbeats 4000000 in
theorem kjK_139 : mv_mkB kjW_139 kjCl kjKd kjP kjStn kjM_139 = true := mv_mkB_of kjH_139 (mv_all_split (l := kjT_139) 40 kjK_139_0 (mv_all_split (l := (kjT_139.drop 40)) 40 kjK_139_40 (show ((kjT_139.drop 40).drop 40).all _ = true by rw [List.drop_drop]; exact kjK_139_80)))
def kjW_140 : List Jvm.Cond := [(Jvm.Cond.code ({ cls := "KindJudgeModel", name := "isMethod", desc := "(I)Z" } : Jvm.MethodName) prog_11_method_41_code (2 : Nat) (Option.some Jvm.ClassFile.FieldType.boolean)), (Jvm.Cond.initialized "KindJudgeModel"), (Jvm.Cond.fieldLink "KindJudgeModel" (184 : Nat) "KindJudgeModel" "isFile" "Z"), (Jvm.Cond.fieldLink "KindJudgeModel" (114 : Nat) "KindJudgeModel" "methods" "I"), (Jvm.Cond.methodLink "KindJudgeModel" (93 : Nat) ({ cls := "KindJudgeModel", name := "within", desc := "(III)Z" } : Jvm.MethodName)), (Jvm.Cond.static ({ cls := "KindJudgeModel", name := "within", desc := "(III)Z" } : Jvm.MethodName))]
set_option maxRecDepth 100000 in
set_option maxHeartbeats 4000000 in
theorem kjS_140 : ∀ w ∈ kjW_140, w ∈ lw_tbl := mv_sub_of [1107, 74, 838, 850, 967, 968] (by decide +kernel)
set_option maxRecDepth 100000 in
set_option maxHeartbeats 4000000 in
theorem kjK_140 : mv_mkB kjW_140 kjCl kjKd kjP kjStn kjM_140 = true := by decide +kernel
def kjW_141 : List Jvm.Cond := [(Jvm.Cond.code ({ cls := "KindJudgeModel", name := "isBegun", desc := "(II)Z" } : Jvm.MethodName) prog_11_method_42_code (3 : Nat) (Option.some Jvm.ClassFile.FieldType.boolean)), (Jvm.Cond.initialized "KindJudgeModel"), (Jvm.Cond.methodLink "KindJudgeModel" (238 : Nat) ({ cls := "KindJudgeModel", name := "isMethod", desc := "(I)Z" } : Jvm.MethodName)), (Jvm.Cond.instanceMethod ({ cls := "KindJudgeModel", name := "isMethod", desc := "(I)Z" } : Jvm.MethodName)), (Jvm.Cond.selects "KindJudgeModel" ({ cls := "KindJudgeModel", name := "isMethod", desc := "(I)Z" } : Jvm.MethodName) ({ cls := "KindJudgeModel", name := "isMethod", desc := "(I)Z" } : Jvm.MethodName)), (Jvm.Cond.fieldLink "KindJudgeModel" (52 : Nat) "KindJudgeModel" "size" "[I"), (Jvm.Cond.methodLink "KindJudgeModel" (93 : Nat) ({ cls := "KindJudgeModel", name := "within", desc := "(III)Z" } : Jvm.MethodName)), (Jvm.Cond.static ({ cls := "KindJudgeModel", name := "within", desc := "(III)Z" } : Jvm.MethodName)), (Jvm.Cond.fieldLink "KindJudgeModel" (58 : Nat) "KindJudgeModel" "begins" "[Z")]
set_option maxRecDepth 100000 in
set_option maxHeartbeats 4000000 in
theorem kjS_141 : ∀ w ∈ kjW_141, w ∈ lw_tbl := mv_sub_of [1103, 74, 1104, 1106, 59, 856, 967, 968, 858] (by decide +kernel)
set_option maxRecDepth 100000 in
set_option maxHeartbeats 4000000 in
theorem kjK_141 : mv_mkB kjW_141 kjCl kjKd kjP kjStn kjM_141 = true := by decide +kernel
