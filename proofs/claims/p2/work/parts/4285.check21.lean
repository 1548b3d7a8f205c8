def kjW_125 : List Jvm.Cond := [(Jvm.Cond.code ({ cls := "KindJudgeModel", name := "resolve", desc := "(II)I" } : Jvm.MethodName) prog_11_method_27_code (4 : Nat) (Option.some Jvm.ClassFile.FieldType.int)), (Jvm.Cond.initialized "KindJudgeModel"), (Jvm.Cond.fieldLink "KindJudgeModel" (62 : Nat) "KindJudgeModel" "table" "[I"), (Jvm.Cond.fieldLink "KindJudgeModel" (19 : Nat) "KindJudgeModel" "above" "[I")]
set_option maxRecDepth 100000 in
set_option maxHeartbeats 4000000 in
theorem kjS_125 : ∀ w ∈ kjW_125, w ∈ lw_tbl := mv_sub_of [1075, 74, 859, 843] (by decide +kernel)
set_option maxRecDepth 100000 in
set_option maxHeartbeats 4000000 in
theorem kjK_125 : mv_mkB kjW_125 kjCl kjKd kjP kjStn kjM_125 = true := by decide +kernel
def kjW_126 : List Jvm.Cond := [(Jvm.Cond.code ({ cls := "KindJudgeModel", name := "joined", desc := "(II)I" } : Jvm.MethodName) prog_11_method_28_code (4 : Nat) (Option.some Jvm.ClassFile.FieldType.int)), (Jvm.Cond.initialized "KindJudgeModel"), (Jvm.Cond.methodLink "KindJudgeModel" (111 : Nat) ({ cls := "KindJudgeModel", name := "isOf", desc := "(II)Z" } : Jvm.MethodName)), (Jvm.Cond.instanceMethod ({ cls := "KindJudgeModel", name := "isOf", desc := "(II)Z" } : Jvm.MethodName)), (Jvm.Cond.selects "KindJudgeModel" ({ cls := "KindJudgeModel", name := "isOf", desc := "(II)Z" } : Jvm.MethodName) ({ cls := "KindJudgeModel", name := "isOf", desc := "(II)Z" } : Jvm.MethodName)), (Jvm.Cond.fieldLink "KindJudgeModel" (19 : Nat) "KindJudgeModel" "above" "[I")]
set_option maxRecDepth 100000 in
set_option maxHeartbeats 4000000 in
theorem kjS_126 : ∀ w ∈ kjW_126, w ∈ lw_tbl := mv_sub_of [1036, 74, 990, 992, 36, 843] (by decide +kernel)
set_option maxRecDepth 100000 in
set_option maxHeartbeats 4000000 in
theorem kjH_126 : mv_hdB kjW_126 kjM_126 = true := by decide +kernel
set_option maxRecDepth 100000 in
set_option maxHeartbeats 4000000 in
theorem kjK_126_0 : (kjT_126.take 20).all (mv_rowB kjW_126 kjCl kjKd kjP kjStn kjM_126) = true := by decide +kernel
set_option maxRecDepth 100000 in
set_option maxHeartbeats 4000000 in
theorem kjK_126_20 : ((kjT_126.drop 20).take 20).all (mv_rowB kjW_126 kjCl kjKd kjP kjStn kjM_126) = true := by decide +kernel
set_option maxRecDepth 100000 in
set_option maxHeartbeats 4000000 in
theorem kjK_126_40 : ((kjT_126.drop 40).take 20).all (mv_rowB kjW_126 kjCl kjKd kjP kjStn kjM_126) = true := by decide +kernel
set_option maxRecDepth 100000 in
set_option maxHeartbeats 4000000 in
theorem kjK_126_60 : (kjT_126.drop 60).all (mv_rowB kjW_126 kjCl kjKd kjP kjStn kjM_126) = true := by decide +kernel
set_option maxRecDepth 100000 in
set_option maxHeartbeats 4000000 in
theorem kjK_126 : mv_mkB kjW_126 kjCl kjKd kjP kjStn kjM_126 = true := mv_mkB_of kjH_126 (mv_all_split (l := kjT_126) 20 kjK_126_0 (mv_all_split (l := (kjT_126.drop 20)) 20 kjK_126_20 (show ((kjT_126.drop 20).drop 20).all _ = true by rw [List.drop_drop]; exact (mv_all_split (l := (kjT_126.drop 40)) 20 kjK_126_40 (show ((kjT_126.drop 40).drop 20).all _ = true by rw [List.drop_drop]; exact kjK_126_60)))))
def kjW_127 : List Jvm.Cond := [(Jvm.Cond.code ({ cls := "KindJudgeModel", name := "merge", desc := "(IIZ)Z" } : Jvm.MethodName) prog_11_method_29_code (8 : Nat) (Option.some Jvm.ClassFile.FieldType.boolean)), (Jvm.Cond.initialized "KindJudgeModel"), (Jvm.Cond.fieldLink "KindJudgeModel" (65 : Nat) "KindJudgeModel" "height" "[I"), (Jvm.Cond.fieldLink "KindJudgeModel" (196 : Nat) "KindJudgeModel" "nextHeight" "I"), (Jvm.Cond.fieldLink "KindJudgeModel" (71 : Nat) "KindJudgeModel" "next" "[I"), (Jvm.Cond.fieldLink "KindJudgeModel" (68 : Nat) "KindJudgeModel" "kinds" "[I"), (Jvm.Cond.methodLink "KindJudgeModel" (199 : Nat) ({ cls := "KindJudgeModel", name := "joined", desc := "(II)I" } : Jvm.MethodName)), (Jvm.Cond.instanceMethod ({ cls := "KindJudgeModel", name := "joined", desc := "(II)I" } : Jvm.MethodName)), (Jvm.Cond.selects "KindJudgeModel" ({ cls := "KindJudgeModel", name := "joined", desc := "(II)I" } : Jvm.MethodName) ({ cls := "KindJudgeModel", name := "joined", desc := "(II)I" } : Jvm.MethodName))]
set_option maxRecDepth 100000 in
set_option maxHeartbeats 4000000 in
theorem kjS_127 : ∀ w ∈ kjW_127, w ∈ lw_tbl := mv_sub_of [1032, 74, 860, 863, 862, 861, 1033, 1035, 46] (by decide +kernel)
set_option maxRecDepth 100000 in
set_option maxHeartbeats 4000000 in
theorem kjH_127 : mv_hdB kjW_127 kjM_127 = true := by decide +kernel
set_option maxRecDepth 100000 in
set_option maxHeartbeats 4000000 in
theorem kjK_127_0 : (kjT_127.take 20).all (mv_rowB kjW_127 kjCl kjKd kjP kjStn kjM_127) = true := by decide +kernel
set_option maxRecDepth 100000 in
set_option maxHeartbeats 4000000 in
theorem kjK_127_20 : ((kjT_127.drop 20).take 20).all (mv_rowB kjW_127 kjCl kjKd kjP kjStn kjM_127) = true := by decide +kernel
set_option maxRecDepth 100000 in
set_option maxHeartbeats 4000000 in
theorem kjK_127_40 : ((kjT_127.drop 40).take 20).all (mv_rowB kjW_127 kjCl kjKd kjP kjStn kjM_127) = true := by decide +kernel
set_option maxRecDepth 100000 in
set_option maxHeartbeats 4000000 in
theorem kjK_127_60 : ((kjT_127.drop 60).take 20).all (mv_rowB kjW_127 kjCl kjKd kjP kjStn kjM_127) = true := by decide +kernel
set_option maxRecDepth 100000 in
set_option maxHeartbeats 4000000 in
theorem kjK_127_80 : ((kjT_127.drop 80).take 20).all (mv_rowB kjW_127 kjCl kjKd kjP kjStn kjM_127) = true := by decide +kernel
