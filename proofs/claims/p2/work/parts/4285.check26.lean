set_option maxRecDepth 100000 in
set_option maxHeartbeats 4000000 in
theorem kjK_134_180 : (kjT_134.drop 180).all (mv_rowB kjW_134 kjCl kjKd kjP kjStn kjM_134) = true := by decide +kernel
set_option maxRecDepth 100000 in
set_option maxHeartbeats 4000000 in
theorem kjK_134 : mv_mkB kjW_134 kjCl kjKd kjP kjStn kjM_134 = true := mv_mkB_of kjH_134 (mv_all_split (l := kjT_134) 20 kjK_134_0 (mv_all_split (l := (kjT_134.drop 20)) 20 kjK_134_20 (show ((kjT_134.drop 20).drop 20).all _ = true by rw [List.drop_drop]; exact (mv_all_split (l := (kjT_134.drop 40)) 20 kjK_134_40 (show ((kjT_134.drop 40).drop 20).all _ = true by rw [List.drop_drop]; exact (mv_all_split (l := (kjT_134.drop 60)) 20 kjK_134_60 (show ((kjT_134.drop 60).drop 20).all _ = true by rw [List.drop_drop]; exact (mv_all_split (l := (kjT_134.drop 80)) 20 kjK_134_80 (show ((kjT_134.drop 80).drop 20).all _ = true by rw [List.drop_drop]; exact (mv_all_split (l := (kjT_134.drop 100)) 20 kjK_134_100 (show ((kjT_134.drop 100).drop 20).all _ = true by rw [List.drop_drop]; exact (mv_all_split (l := (kjT_134.drop 120)) 20 kjK_134_120 (show ((kjT_134.drop 120).drop 20).all _ = true by rw [List.drop_drop]; exact (mv_all_split (l := (kjT_134.drop 140)) 20 kjK_134_140 (show ((kjT_134.drop 140).drop 20).all _ = true by rw [List.drop_drop]; exact (mv_all_split (l := (kjT_134.drop 160)) 20 kjK_134_160 (show ((kjT_134.drop 160).drop 20).all _ = true by rw [List.drop_drop]; exact kjK_134_180)))))))))))))))))
def kjW_135 : List Jvm.Cond := [(Jvm.Cond.code ({ cls := "KindJudgeModel", name := "isFit", desc := "(II)Z" } : Jvm.MethodName) prog_11_method_37_code (3 : Nat) (Option.some Jvm.ClassFile.FieldType.boolean)), (Jvm.Cond.initialized "KindJudgeModel"), (Jvm.Cond.methodLink "KindJudgeModel" (107 : Nat) ({ cls := "KindJudgeModel", name := "isBelow", desc := "(II)Z" } : Jvm.MethodName)), (Jvm.Cond.instanceMethod ({ cls := "KindJudgeModel", name := "isBelow", desc := "(II)Z" } : Jvm.MethodName)), (Jvm.Cond.selects "KindJudgeModel" ({ cls := "KindJudgeModel", name := "isBelow", desc := "(II)Z" } : Jvm.MethodName) ({ cls := "KindJudgeModel", name := "isBelow", desc := "(II)Z" } : Jvm.MethodName))]
set_option maxRecDepth 100000 in
set_option maxHeartbeats 4000000 in
theorem kjS_135 : ∀ w ∈ kjW_135, w ∈ lw_tbl := mv_sub_of [1071, 74, 994, 996, 37] (by decide +kernel)
set_option maxRecDepth 100000 in
set_option maxHeartbeats 4000000 in
theorem kjK_135 : mv_mkB kjW_135 kjCl kjKd kjP kjStn kjM_135 = true := by decide +kernel
def kjW_136 : List Jvm.Cond := [(Jvm.Cond.code ({ cls := "KindJudgeModel", name := "isThing", desc := "(I)Z" } : Jvm.MethodName) prog_11_method_38_code (1 : Nat) (Option.some Jvm.ClassFile.FieldType.boolean)), (Jvm.Cond.initialized "KindJudgeModel")]
set_option maxRecDepth 100000 in
set_option maxHeartbeats 4000000 in
theorem kjS_136 : ∀ w ∈ kjW_136, w ∈ lw_tbl := mv_sub_of [1067, 74] (by decide +kernel)
set_option maxRecDepth 100000 in
set_option maxHeartbeats 4000000 in
theorem kjK_136 : mv_mkB kjW_136 kjCl kjKd kjP kjStn kjM_136 = true := by decide +kernel
