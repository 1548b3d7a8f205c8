set_option maxRecDepth 100000 in
set_option maxHeartbeats 4000000 in
theorem kjK_144 : mv_mkB kjW_144 kjCl kjKd kjP kjStn kjM_144 = true := mv_mkB_of kjH_144 (mv_all_split (l := kjT_144) 40 kjK_144_0 kjK_144_40)
def kjW_145 : List Jvm.Cond := [(Jvm.Cond.code ({ cls := "KindJudgeModel", name := "goesTo", desc := "(III)Z" } : Jvm.MethodName) prog_11_method_46_code (6 : Nat) (Option.some Jvm.ClassFile.FieldType.boolean)), (Jvm.Cond.initialized "KindJudgeModel"), (Jvm.Cond.methodLink "KindJudgeModel" (137 : Nat) ({ cls := "KindJudgeModel", name := "byteAt", desc := "(II)I" } : Jvm.MethodName)), (Jvm.Cond.instanceMethod ({ cls := "KindJudgeModel", name := "byteAt", desc := "(II)I" } : Jvm.MethodName)), (Jvm.Cond.selects "KindJudgeModel" ({ cls := "KindJudgeModel", name := "byteAt", desc := "(II)I" } : Jvm.MethodName) ({ cls := "KindJudgeModel", name := "byteAt", desc := "(II)I" } : Jvm.MethodName)), (Jvm.Cond.methodLink "KindJudgeModel" (144 : Nat) ({ cls := "KindJudgeModel", name := "longOf", desc := "(II)I" } : Jvm.MethodName)), (Jvm.Cond.instanceMethod ({ cls := "KindJudgeModel", name := "longOf", desc := "(II)I" } : Jvm.MethodName)), (Jvm.Cond.selects "KindJudgeModel" ({ cls := "KindJudgeModel", name := "longOf", desc := "(II)I" } : Jvm.MethodName) ({ cls := "KindJudgeModel", name := "longOf", desc := "(II)I" } : Jvm.MethodName))]
set_option maxRecDepth 100000 in
set_option maxHeartbeats 4000000 in
theorem kjS_145 : ∀ w ∈ kjW_145, w ∈ lw_tbl := mv_sub_of [1123, 74, 1014, 1016, 41, 1010, 1012, 40] (by decide +kernel)
set_option maxRecDepth 100000 in
set_option maxHeartbeats 4000000 in
theorem kjH_145 : mv_hdB kjW_145 kjM_145 = true := by decide +kernel
set_option maxRecDepth 100000 in
set_option maxHeartbeats 4000000 in
theorem kjK_145_0 : (kjT_145.take 40).all (mv_rowB kjW_145 kjCl kjKd kjP kjStn kjM_145) = true := by decide +kernel
set_option maxRecDepth 100000 in
set_option maxHeartbeats 4000000 in
theorem kjK_145_40 : (kjT_145.drop 40).all (mv_rowB kjW_145 kjCl kjKd kjP kjStn kjM_145) = true := by decide +kernel
set_option maxRecDepth 100000 in
set_option maxHeartbeats 4000000 in
theorem kjK_145 : mv_mkB kjW_145 kjCl kjKd kjP kjStn kjM_145 = true := mv_mkB_of kjH_145 (mv_all_split (l := kjT_145) 40 kjK_145_0 kjK_145_40)
def kjW_146 : List Jvm.Cond := [(Jvm.Cond.code ({ cls := "KindJudgeModel", name := "ways", desc := "(II)I" } : Jvm.MethodName) prog_11_method_47_code (5 : Nat) (Option.some Jvm.ClassFile.FieldType.int)), (Jvm.Cond.initialized "KindJudgeModel"), (Jvm.Cond.fieldLink "KindJudgeModel" (74 : Nat) "KindJudgeModel" "thrown" "I"), (Jvm.Cond.methodLink "KindJudgeModel" (241 : Nat) ({ cls := "KindJudgeModel", name := "isBegun", desc := "(II)Z" } : Jvm.MethodName)), (Jvm.Cond.instanceMethod ({ cls := "KindJudgeModel", name := "isBegun", desc := "(II)Z" } : Jvm.MethodName)), (Jvm.Cond.selects "KindJudgeModel" ({ cls := "KindJudgeModel", name := "isBegun", desc := "(II)Z" } : Jvm.MethodName) ({ cls := "KindJudgeModel", name := "isBegun", desc := "(II)Z" } : Jvm.MethodName)), (Jvm.Cond.fieldLink "KindJudgeModel" (52 : Nat) "KindJudgeModel" "size" "[I"), (Jvm.Cond.fieldLink "KindJudgeModel" (58 : Nat) "KindJudgeModel" "begins" "[Z"), (Jvm.Cond.methodLink "KindJudgeModel" (247 : Nat) ({ cls := "KindJudgeModel", name := "isReached", desc := "(II)Z" } : Jvm.MethodName)), (Jvm.Cond.instanceMethod ({ cls := "KindJudgeModel", name := "isReached", desc := "(II)Z" } : Jvm.MethodName)), (Jvm.Cond.selects "KindJudgeModel" ({ cls := "KindJudgeModel", name := "isReached", desc := "(II)Z" } : Jvm.MethodName) ({ cls := "KindJudgeModel", name := "isReached", desc := "(II)Z" } : Jvm.MethodName)), (Jvm.Cond.methodLink "KindJudgeModel" (250 : Nat) ({ cls := "KindJudgeModel", name := "goesTo", desc := "(III)Z" } : Jvm.MethodName)), (Jvm.Cond.instanceMethod ({ cls := "KindJudgeModel", name := "goesTo", desc := "(III)Z" } : Jvm.MethodName)), (Jvm.Cond.selects "KindJudgeModel" ({ cls := "KindJudgeModel", name := "goesTo", desc := "(III)Z" } : Jvm.MethodName) ({ cls := "KindJudgeModel", name := "goesTo", desc := "(III)Z" } : Jvm.MethodName))]
set_option maxRecDepth 100000 in
set_option maxHeartbeats 4000000 in
theorem kjS_146 : ∀ w ∈ kjW_146, w ∈ lw_tbl := mv_sub_of [1119, 74, 830, 1100, 1102, 58, 856, 858, 1112, 1114, 61, 1120, 1122, 62] (by decide +kernel)
set_option maxRecDepth 100000 in
set_option maxHeartbeats 4000000 in
theorem kjK_146 : mv_mkB kjW_146 kjCl kjKd kjP kjStn kjM_146 = true := by decide +kernel
def kjW_147 : List Jvm.Cond := [(Jvm.Cond.code ({ cls := "KindJudgeModel", name := "count", desc := "(II)I" } : Jvm.MethodName) prog_11_method_48_code (8 : Nat) (Option.some Jvm.ClassFile.FieldType.int)), (Jvm.Cond.initialized "KindJudgeModel"), (Jvm.Cond.fieldLink "KindJudgeModel" (74 : Nat) "KindJudgeModel" "thrown" "I"), (Jvm.Cond.methodLink "KindJudgeModel" (238 : Nat) ({ cls := "KindJudgeModel", name := "isMethod", desc := "(I)Z" } : Jvm.MethodName)), (Jvm.Cond.instanceMethod ({ cls := "KindJudgeModel", name := "isMethod", desc := "(I)Z" } : Jvm.MethodName)), (Jvm.Cond.selects "KindJudgeModel" ({ cls := "KindJudgeModel", name := "isMethod", desc := "(I)Z" } : Jvm.MethodName) ({ cls := "KindJudgeModel", name := "isMethod", desc := "(I)Z" } : Jvm.MethodName)), (Jvm.Cond.methodLink "KindJudgeModel" (93 : Nat) ({ cls := "KindJudgeModel", name := "within", desc := "(III)Z" } : Jvm.MethodName)), (Jvm.Cond.static ({ cls := "KindJudgeModel", name := "within", desc := "(III)Z" } : Jvm.MethodName)), (Jvm.Cond.fieldLink "KindJudgeModel" (52 : Nat) "KindJudgeModel" "size" "[I"), (Jvm.Cond.fieldLink "KindJudgeModel" (58 : Nat) "KindJudgeModel" "begins" "[Z"), (Jvm.Cond.methodLink "KindJudgeModel" (247 : Nat) ({ cls := "KindJudgeModel", name := "isReached", desc := "(II)Z" } : Jvm.MethodName)), (Jvm.Cond.instanceMethod ({ cls := "KindJudgeModel", name := "isReached", desc := "(II)Z" } : Jvm.MethodName)), (Jvm.Cond.selects "KindJudgeModel" ({ cls := "KindJudgeModel", name := "isReached", desc := "(II)Z" } : Jvm.MethodName) ({ cls := "KindJudgeModel", name := "isReached", desc := "(II)Z" } : Jvm.MethodName)), (Jvm.Cond.fieldLink "KindJudgeModel" (65 : Nat) "KindJudgeModel" "height" "[I"), (Jvm.Cond.methodLink "KindJudgeModel" (219 : Nat) ({ cls := "KindJudgeModel", name := "takes", desc := "(II)I" } : Jvm.MethodName)), (Jvm.Cond.instanceMethod ({ cls := "KindJudgeModel", name := "takes", desc := "(II)I" } : Jvm.MethodName)), (Jvm.Cond.selects "KindJudgeModel" ({ cls := "KindJudgeModel", name := "takes", desc := "(II)I" } : Jvm.MethodName) ({ cls := "KindJudgeModel", name := "takes", desc := "(II)I" } : Jvm.MethodName)), (Jvm.Cond.methodLink "KindJudgeModel" (244 : Nat) ({ cls := "KindJudgeModel", name := "puts", desc := "(II)I" } : Jvm.MethodName)), (Jvm.Cond.instanceMethod ({ cls := "KindJudgeModel", name := "puts", desc := "(II)I" } : Jvm.MethodName)), (Jvm.Cond.selects "KindJudgeModel" ({ cls := "KindJudgeModel", name := "puts", desc := "(II)I" } : Jvm.MethodName) ({ cls := "KindJudgeModel", name := "puts", desc := "(II)I" } : Jvm.MethodName))]
set_option maxRecDepth 100000 in
set_option maxHeartbeats 4000000 in
theorem kjS_147 : ∀ w ∈ kjW_147, w ∈ lw_tbl := mv_sub_of [1127, 74, 830, 1104, 1106, 59, 967, 968, 856, 858, 1112, 1114, 61, 860, 1049, 1051, 49, 1108, 1110, 60] (by decide +kernel)
set_option maxRecDepth 100000 in
set_option maxHeartbeats 4000000 in
theorem kjH_147 : mv_hdB kjW_147 kjM_147 = true := by decide +kernel
set_option maxRecDepth 100000 in
set_option maxHeartbeats 4000000 in
theorem kjK_147_0 : (kjT_147.take 40).all (mv_rowB kjW_147 kjCl kjKd kjP kjStn kjM_147) = true := by decide +kernel
set_option maxRecDepth 100000 in
set_option maxHeartbeats 4000000 in
theorem kjK_147_40 : ((kjT_147.drop 40).take 40).all (mv_rowB kjW_147 kjCl kjKd kjP kjStn kjM_147) = true := by decide +kernel
set_option maxRecDepth 100000 in
set_option maxHeartbeats 4000000 in
theorem kjK_147_80 : (kjT_147.drop 80).all (mv_rowB kjW_147 kjCl kjKd kjP kjStn kjM_147) = true := by decide +kernel
