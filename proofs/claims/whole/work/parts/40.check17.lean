set_option maxRecDepth 100000 in
set_option maxHeartbeats 4000000 in
theorem kjK_114_40 : ((kjT_114.drop 40).take 40).all (mv_rowB kjW_114 kjCl kjKd kjP kjStn kjM_114) = true := by decide +kernel
set_option maxRecDepth 100000 in
set_option maxHeartbeats 4000000 in
theorem kjK_114_80 : (kjT_114.drop 80).all (mv_rowB kjW_114 kjCl kjKd kjP kjStn kjM_114) = true := by decide +kernel
set_option maxRecDepth 100000 in
set_option maxHeartbeats 4000000 in
theorem kjK_114 : mv_mkB kjW_114 kjCl kjKd kjP kjStn kjM_114 = true := mv_mkB_of kjH_114 (mv_all_split (l := kjT_114) 40 kjK_114_0 (mv_all_split (l := (kjT_114.drop 40)) 40 kjK_114_40 (show ((kjT_114.drop 40).drop 40).all _ = true by rw [List.drop_drop]; exact kjK_114_80)))
def kjW_115 : List Jvm.Cond := [(Jvm.Cond.code ({ cls := "KindJudgeModel", name := "opLong", desc := "(I)I" } : Jvm.MethodName) prog_11_method_16_code (1 : Nat) (Option.some Jvm.ClassFile.FieldType.int)), (Jvm.Cond.initialized "KindJudgeModel")]
set_option maxRecDepth 100000 in
set_option maxHeartbeats 4000000 in
theorem kjS_115 : ∀ w ∈ kjW_115, w ∈ lw_tbl := mv_sub_of [1020, 74] (by decide +kernel)
set_option maxRecDepth 100000 in
set_option maxHeartbeats 4000000 in
theorem kjK_115 : mv_mkB kjW_115 kjCl kjKd kjP kjStn kjM_115 = true := by decide +kernel
def kjW_116 : List Jvm.Cond := [(Jvm.Cond.code ({ cls := "KindJudgeModel", name := "byteAt", desc := "(II)I" } : Jvm.MethodName) prog_11_method_17_code (3 : Nat) (Option.some Jvm.ClassFile.FieldType.int)), (Jvm.Cond.initialized "KindJudgeModel"), (Jvm.Cond.fieldLink "KindJudgeModel" (55 : Nat) "KindJudgeModel" "code" "[I")]
set_option maxRecDepth 100000 in
set_option maxHeartbeats 4000000 in
theorem kjS_116 : ∀ w ∈ kjW_116, w ∈ lw_tbl := mv_sub_of [1017, 74, 857] (by decide +kernel)
set_option maxRecDepth 100000 in
set_option maxHeartbeats 4000000 in
theorem kjK_116 : mv_mkB kjW_116 kjCl kjKd kjP kjStn kjM_116 = true := by decide +kernel
def kjW_117 : List Jvm.Cond := [(Jvm.Cond.code ({ cls := "KindJudgeModel", name := "longOf", desc := "(II)I" } : Jvm.MethodName) prog_11_method_18_code (5 : Nat) (Option.some Jvm.ClassFile.FieldType.int)), (Jvm.Cond.initialized "KindJudgeModel"), (Jvm.Cond.methodLink "KindJudgeModel" (137 : Nat) ({ cls := "KindJudgeModel", name := "byteAt", desc := "(II)I" } : Jvm.MethodName)), (Jvm.Cond.instanceMethod ({ cls := "KindJudgeModel", name := "byteAt", desc := "(II)I" } : Jvm.MethodName)), (Jvm.Cond.selects "KindJudgeModel" ({ cls := "KindJudgeModel", name := "byteAt", desc := "(II)I" } : Jvm.MethodName) ({ cls := "KindJudgeModel", name := "byteAt", desc := "(II)I" } : Jvm.MethodName)), (Jvm.Cond.fieldLink "KindJudgeModel" (52 : Nat) "KindJudgeModel" "size" "[I"), (Jvm.Cond.methodLink "KindJudgeModel" (140 : Nat) ({ cls := "KindJudgeModel", name := "opLong", desc := "(I)I" } : Jvm.MethodName)), (Jvm.Cond.static ({ cls := "KindJudgeModel", name := "opLong", desc := "(I)I" } : Jvm.MethodName))]
set_option maxRecDepth 100000 in
set_option maxHeartbeats 4000000 in
theorem kjS_117 : ∀ w ∈ kjW_117, w ∈ lw_tbl := mv_sub_of [1013, 74, 1014, 1016, 41, 856, 1018, 1019] (by decide +kernel)
set_option maxRecDepth 100000 in
set_option maxHeartbeats 4000000 in
theorem kjK_117 : mv_mkB kjW_117 kjCl kjKd kjP kjStn kjM_117 = true := by decide +kernel
def kjW_118 : List Jvm.Cond := [(Jvm.Cond.code ({ cls := "KindJudgeModel", name := "findBegins", desc := "(I)V" } : Jvm.MethodName) prog_11_method_19_code (4 : Nat) (Option.none : Option Jvm.ClassFile.FieldType)), (Jvm.Cond.initialized "KindJudgeModel"), (Jvm.Cond.fieldLink "KindJudgeModel" (58 : Nat) "KindJudgeModel" "begins" "[Z"), (Jvm.Cond.fieldLink "KindJudgeModel" (52 : Nat) "KindJudgeModel" "size" "[I"), (Jvm.Cond.methodLink "KindJudgeModel" (144 : Nat) ({ cls := "KindJudgeModel", name := "longOf", desc := "(II)I" } : Jvm.MethodName)), (Jvm.Cond.instanceMethod ({ cls := "KindJudgeModel", name := "longOf", desc := "(II)I" } : Jvm.MethodName)), (Jvm.Cond.selects "KindJudgeModel" ({ cls := "KindJudgeModel", name := "longOf", desc := "(II)I" } : Jvm.MethodName) ({ cls := "KindJudgeModel", name := "longOf", desc := "(II)I" } : Jvm.MethodName))]
set_option maxRecDepth 100000 in
set_option maxHeartbeats 4000000 in
theorem kjS_118 : ∀ w ∈ kjW_118, w ∈ lw_tbl := mv_sub_of [1009, 74, 858, 856, 1010, 1012, 40] (by decide +kernel)
set_option maxRecDepth 100000 in
set_option maxHeartbeats 4000000 in
theorem kjK_118 : mv_mkB kjW_118 kjCl kjKd kjP kjStn kjM_118 = true := by decide +kernel
