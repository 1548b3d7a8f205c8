def kjW_115 : List Jvm.Cond := [(Jvm.Cond.code ({ cls := "KindJudgeModel", name := "byteAt", desc := "(II)I" } : Jvm.MethodName) prog_11_method_17_code (3 : Nat) (Option.some Jvm.ClassFile.FieldType.int)), (Jvm.Cond.initialized "KindJudgeModel"), (Jvm.Cond.fieldLink "KindJudgeModel" (55 : Nat) "KindJudgeModel" "code" "[I")]
set_option maxRecDepth 100000 in
set_option maxHeartbeats 4000000 in
theorem kjS_115 : ∀ w ∈ kjW_115, w ∈ lw_tbl := mv_sub_of [1013, 74, 857] (by decide +kernel)
set_option maxRecDepth 100000 in
set_option maxHeartbeats 4000000 in
theorem kjK_115 : mv_mkB kjW_115 kjCl kjKd kjP kjStn kjM_115 = true := by decide +kernel
def kjW_116 : List Jvm.Cond := [(Jvm.Cond.code ({ cls := "KindJudgeModel", name := "longOf", desc := "(II)I" } : Jvm.MethodName) prog_11_method_18_code (5 : Nat) (Option.some Jvm.ClassFile.FieldType.int)), (Jvm.Cond.initialized "KindJudgeModel"), (Jvm.Cond.methodLink "KindJudgeModel" (137 : Nat) ({ cls := "KindJudgeModel", name := "byteAt", desc := "(II)I" } : Jvm.MethodName)), (Jvm.Cond.instanceMethod ({ cls := "KindJudgeModel", name := "byteAt", desc := "(II)I" } : Jvm.MethodName)), (Jvm.Cond.selects "KindJudgeModel" ({ cls := "KindJudgeModel", name := "byteAt", desc := "(II)I" } : Jvm.MethodName) ({ cls := "KindJudgeModel", name := "byteAt", desc := "(II)I" } : Jvm.MethodName)), (Jvm.Cond.fieldLink "KindJudgeModel" (52 : Nat) "KindJudgeModel" "size" "[I"), (Jvm.Cond.methodLink "KindJudgeModel" (140 : Nat) ({ cls := "KindJudgeModel", name := "opLong", desc := "(I)I" } : Jvm.MethodName)), (Jvm.Cond.static ({ cls := "KindJudgeModel", name := "opLong", desc := "(I)I" } : Jvm.MethodName))]
set_option maxRecDepth 100000 in
set_option maxHeartbeats 4000000 in
theorem kjS_116 : ∀ w ∈ kjW_116, w ∈ lw_tbl := mv_sub_of [1009, 74, 1010, 1012, 41, 856, 1014, 1015] (by decide +kernel)
set_option maxRecDepth 100000 in
set_option maxHeartbeats 4000000 in
theorem kjK_116 : mv_mkB kjW_116 kjCl kjKd kjP kjStn kjM_116 = true := by decide +kernel
def kjW_117 : List Jvm.Cond := [(Jvm.Cond.code ({ cls := "KindJudgeModel", name := "findBegins", desc := "(I)V" } : Jvm.MethodName) prog_11_method_19_code (4 : Nat) (Option.none : Option Jvm.ClassFile.FieldType)), (Jvm.Cond.initialized "KindJudgeModel"), (Jvm.Cond.fieldLink "KindJudgeModel" (58 : Nat) "KindJudgeModel" "begins" "[Z"), (Jvm.Cond.fieldLink "KindJudgeModel" (52 : Nat) "KindJudgeModel" "size" "[I"), (Jvm.Cond.methodLink "KindJudgeModel" (144 : Nat) ({ cls := "KindJudgeModel", name := "longOf", desc := "(II)I" } : Jvm.MethodName)), (Jvm.Cond.instanceMethod ({ cls := "KindJudgeModel", name := "longOf", desc := "(II)I" } : Jvm.MethodName)), (Jvm.Cond.selects "KindJudgeModel" ({ cls := "KindJudgeModel", name := "longOf", desc := "(II)I" } : Jvm.MethodName) ({ cls := "KindJudgeModel", name := "longOf", desc := "(II)I" } : Jvm.MethodName))]
set_option maxRecDepth 100000 in
set_option maxHeartbeats 4000000 in
theorem kjS_117 : ∀ w ∈ kjW_117, w ∈ lw_tbl := mv_sub_of [1005, 74, 858, 856, 1006, 1008, 40] (by decide +kernel)
set_option maxRecDepth 100000 in
set_option maxHeartbeats 4000000 in
theorem kjK_117 : mv_mkB kjW_117 kjCl kjKd kjP kjStn kjM_117 = true := by decide +kernel
def kjW_118 : List Jvm.Cond := [(Jvm.Cond.code ({ cls := "KindJudgeModel", name := "isPlace", desc := "(II)Z" } : Jvm.MethodName) prog_11_method_20_code (3 : Nat) (Option.some Jvm.ClassFile.FieldType.boolean)), (Jvm.Cond.initialized "KindJudgeModel"), (Jvm.Cond.fieldLink "KindJudgeModel" (52 : Nat) "KindJudgeModel" "size" "[I"), (Jvm.Cond.fieldLink "KindJudgeModel" (58 : Nat) "KindJudgeModel" "begins" "[Z")]
set_option maxRecDepth 100000 in
set_option maxHeartbeats 4000000 in
theorem kjS_118 : ∀ w ∈ kjW_118, w ∈ lw_tbl := mv_sub_of [1024, 74, 856, 858] (by decide +kernel)
set_option maxRecDepth 100000 in
set_option maxHeartbeats 4000000 in
theorem kjK_118 : mv_mkB kjW_118 kjCl kjKd kjP kjStn kjM_118 = true := by decide +kernel
def kjW_119 : List Jvm.Cond := [(Jvm.Cond.code ({ cls := "KindJudgeModel", name := "isGood", desc := "(II)Z" } : Jvm.MethodName) prog_11_method_21_code (7 : Nat) (Option.some Jvm.ClassFile.FieldType.boolean)), (Jvm.Cond.initialized "KindJudgeModel"), (Jvm.Cond.methodLink "KindJudgeModel" (144 : Nat) ({ cls := "KindJudgeModel", name := "longOf", desc := "(II)I" } : Jvm.MethodName)), (Jvm.Cond.instanceMethod ({ cls := "KindJudgeModel", name := "longOf", desc := "(II)I" } : Jvm.MethodName)), (Jvm.Cond.selects "KindJudgeModel" ({ cls := "KindJudgeModel", name := "longOf", desc := "(II)I" } : Jvm.MethodName) ({ cls := "KindJudgeModel", name := "longOf", desc := "(II)I" } : Jvm.MethodName)), (Jvm.Cond.methodLink "KindJudgeModel" (137 : Nat) ({ cls := "KindJudgeModel", name := "byteAt", desc := "(II)I" } : Jvm.MethodName)), (Jvm.Cond.instanceMethod ({ cls := "KindJudgeModel", name := "byteAt", desc := "(II)I" } : Jvm.MethodName)), (Jvm.Cond.selects "KindJudgeModel" ({ cls := "KindJudgeModel", name := "byteAt", desc := "(II)I" } : Jvm.MethodName) ({ cls := "KindJudgeModel", name := "byteAt", desc := "(II)I" } : Jvm.MethodName)), (Jvm.Cond.fieldLink "KindJudgeModel" (52 : Nat) "KindJudgeModel" "size" "[I"), (Jvm.Cond.fieldLink "KindJudgeModel" (46 : Nat) "KindJudgeModel" "locals" "[I"), (Jvm.Cond.fieldLink "KindJudgeModel" (97 : Nat) "KindJudgeModel" "classes" "I"), (Jvm.Cond.fieldLink "KindJudgeModel" (22 : Nat) "KindJudgeModel" "fields" "[I"), (Jvm.Cond.fieldLink "KindJudgeModel" (114 : Nat) "KindJudgeModel" "methods" "I"), (Jvm.Cond.fieldLink "KindJudgeModel" (124 : Nat) "KindJudgeModel" "selectors" "I"), (Jvm.Cond.methodLink "KindJudgeModel" (147 : Nat) ({ cls := "KindJudgeModel", name := "isPlace", desc := "(II)Z" } : Jvm.MethodName)), (Jvm.Cond.instanceMethod ({ cls := "KindJudgeModel", name := "isPlace", desc := "(II)Z" } : Jvm.MethodName)), (Jvm.Cond.selects "KindJudgeModel" ({ cls := "KindJudgeModel", name := "isPlace", desc := "(II)Z" } : Jvm.MethodName) ({ cls := "KindJudgeModel", name := "isPlace", desc := "(II)Z" } : Jvm.MethodName))]
set_option maxRecDepth 100000 in
set_option maxHeartbeats 4000000 in
theorem kjS_119 : ∀ w ∈ kjW_119, w ∈ lw_tbl := mv_sub_of [1020, 74, 1006, 1008, 40, 1010, 1012, 41, 856, 854, 842, 844, 850, 846, 1021, 1023, 43] (by decide +kernel)
set_option maxRecDepth 100000 in
set_option maxHeartbeats 4000000 in
theorem kjH_119 : mv_hdB kjW_119 kjM_119 = true := by decide +kernel
set_option maxRecDepth 100000 in
set_option maxHeartbeats 4000000 in
theorem kjK_119_0 : (kjT_119.take 20).all (mv_rowB kjW_119 kjCl kjKd kjP kjStn kjM_119) = true := by decide +kernel
set_option maxRecDepth 100000 in
set_option maxHeartbeats 4000000 in
theorem kjK_119_20 : ((kjT_119.drop 20).take 20).all (mv_rowB kjW_119 kjCl kjKd kjP kjStn kjM_119) = true := by decide +kernel
set_option maxRecDepth 100000 in
set_option maxHeartbeats 4000000 in
theorem kjK_119_40 : ((kjT_119.drop 40).take 20).all (mv_rowB kjW_119 kjCl kjKd kjP kjStn kjM_119) = true := by decide +kernel
set_option maxRecDepth 100000 in
set_option maxHeartbeats 4000000 in
theorem kjK_119_60 : ((kjT_119.drop 60).take 20).all (mv_rowB kjW_119 kjCl kjKd kjP kjStn kjM_119) = true := by decide +kernel
set_option maxRecDepth 100000 in
set_option maxHeartbeats 4000000 in
theorem kjK_119_80 : ((kjT_119.drop 80).take 20).all (mv_rowB kjW_119 kjCl kjKd kjP kjStn kjM_119) = true := by decide +kernel
