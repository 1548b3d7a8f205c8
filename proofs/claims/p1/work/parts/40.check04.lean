def kjW_146 : List Jvm.Cond := [(Jvm.Cond.code ({ cls := "KindJudgeModel", name := "ways", desc := "(II)I" } : Jvm.MethodName) prog_11_method_47_code (5 : Nat) (Option.some Jvm.ClassFile.FieldType.int)), (Jvm.Cond.initialized "KindJudgeModel"), (Jvm.Cond.fieldLink "KindJudgeModel" (74 : Nat) "KindJudgeModel" "thrown" "I"), (Jvm.Cond.methodLink "KindJudgeModel" (241 : Nat) ({ cls := "KindJudgeModel", name := "isBegun", desc := "(II)Z" } : Jvm.MethodName)), (Jvm.Cond.instanceMethod ({ cls := "KindJudgeModel", name := "isBegun", desc := "(II)Z" } : Jvm.MethodName)), (Jvm.Cond.selects "KindJudgeModel" ({ cls := "KindJudgeModel", name := "isBegun", desc := "(II)Z" } : Jvm.MethodName) ({ cls := "KindJudgeModel", name := "isBegun", desc := "(II)Z" } : Jvm.MethodName))]
set_option maxRecDepth 100000 in
set_option maxHeartbeats 4000000 in
theorem kjS_146 : ∀ w ∈ kjW_146, w ∈ lw_tbl := mv_sub_of [1119, 74, 830, 1100, 1102, 58] (by decide +kernel)
set_option maxRecDepth 100000 in
set_option maxHeartbeats 4000000 in
theorem kjK_146 : mv_mkB kjW_146 kjCl kjKd kjP kjStn kjM_146 = true := by decide +kernel
def kjW_147 : List Jvm.Cond := [(Jvm.Cond.code ({ cls := "KindJudgeModel", name := "count", desc := "(II)I" } : Jvm.MethodName) prog_11_method_48_code (8 : Nat) (Option.some Jvm.ClassFile.FieldType.int)), (Jvm.Cond.initialized "KindJudgeModel"), (Jvm.Cond.fieldLink "KindJudgeModel" (74 : Nat) "KindJudgeModel" "thrown" "I"), (Jvm.Cond.methodLink "KindJudgeModel" (238 : Nat) ({ cls := "KindJudgeModel", name := "isMethod", desc := "(I)Z" } : Jvm.MethodName)), (Jvm.Cond.instanceMethod ({ cls := "KindJudgeModel", name := "isMethod", desc := "(I)Z" } : Jvm.MethodName)), (Jvm.Cond.selects "KindJudgeModel" ({ cls := "KindJudgeModel", name := "isMethod", desc := "(I)Z" } : Jvm.MethodName) ({ cls := "KindJudgeModel", name := "isMethod", desc := "(I)Z" } : Jvm.MethodName))]
set_option maxRecDepth 100000 in
set_option maxHeartbeats 4000000 in
theorem kjS_147 : ∀ w ∈ kjW_147, w ∈ lw_tbl := mv_sub_of [1127, 74, 830, 1104, 1106, 59] (by decide +kernel)
set_option maxRecDepth 100000 in
set_option maxHeartbeats 4000000 in
theorem kjK_147 : mv_mkB kjW_147 kjCl kjKd kjP kjStn kjM_147 = true := by decide +kernel
def kjW_149 : List Jvm.Cond := [(Jvm.Cond.code ({ cls := "KindJudgeModel", name := "fits", desc := "(II)I" } : Jvm.MethodName) prog_11_method_50_code (3 : Nat) (Option.some Jvm.ClassFile.FieldType.int)), (Jvm.Cond.initialized "KindJudgeModel"), (Jvm.Cond.fieldLink "KindJudgeModel" (74 : Nat) "KindJudgeModel" "thrown" "I"), (Jvm.Cond.fieldLink "KindJudgeModel" (184 : Nat) "KindJudgeModel" "isFile" "Z")]
set_option maxRecDepth 100000 in
set_option maxHeartbeats 4000000 in
theorem kjS_149 : ∀ w ∈ kjW_149, w ∈ lw_tbl := mv_sub_of [1131, 74, 830, 838] (by decide +kernel)
set_option maxRecDepth 100000 in
set_option maxHeartbeats 4000000 in
theorem kjK_149 : mv_mkB kjW_149 kjCl kjKd kjP kjStn kjM_149 = true := by decide +kernel
def kjW_150 : List Jvm.Cond := [(Jvm.Cond.code ({ cls := "KindJudgeModel", name := "meet", desc := "(II)I" } : Jvm.MethodName) prog_11_method_51_code (3 : Nat) (Option.some Jvm.ClassFile.FieldType.int)), (Jvm.Cond.initialized "KindJudgeModel"), (Jvm.Cond.fieldLink "KindJudgeModel" (74 : Nat) "KindJudgeModel" "thrown" "I"), (Jvm.Cond.fieldLink "KindJudgeModel" (184 : Nat) "KindJudgeModel" "isFile" "Z")]
set_option maxRecDepth 100000 in
set_option maxHeartbeats 4000000 in
theorem kjS_150 : ∀ w ∈ kjW_150, w ∈ lw_tbl := mv_sub_of [1139, 74, 830, 838] (by decide +kernel)
set_option maxRecDepth 100000 in
set_option maxHeartbeats 4000000 in
theorem kjK_150 : mv_mkB kjW_150 kjCl kjKd kjP kjStn kjM_150 = true := by decide +kernel
def kjW_151 : List Jvm.Cond := [(Jvm.Cond.code ({ cls := "KindJudgeModel", name := "method", desc := "(II)I" } : Jvm.MethodName) prog_11_method_52_code (3 : Nat) (Option.some Jvm.ClassFile.FieldType.int)), (Jvm.Cond.initialized "KindJudgeModel"), (Jvm.Cond.fieldLink "KindJudgeModel" (74 : Nat) "KindJudgeModel" "thrown" "I"), (Jvm.Cond.fieldLink "KindJudgeModel" (184 : Nat) "KindJudgeModel" "isFile" "Z")]
set_option maxRecDepth 100000 in
set_option maxHeartbeats 4000000 in
theorem kjS_151 : ∀ w ∈ kjW_151, w ∈ lw_tbl := mv_sub_of [1143, 74, 830, 838] (by decide +kernel)
set_option maxRecDepth 100000 in
set_option maxHeartbeats 4000000 in
theorem kjK_151 : mv_mkB kjW_151 kjCl kjKd kjP kjStn kjM_151 = true := by decide +kernel
def kjW_152 : List Jvm.Cond := [(Jvm.Cond.code ({ cls := "KindJudgeModel", name := "type", desc := "(II)I" } : Jvm.MethodName) prog_11_method_53_code (3 : Nat) (Option.some Jvm.ClassFile.FieldType.int)), (Jvm.Cond.initialized "KindJudgeModel"), (Jvm.Cond.fieldLink "KindJudgeModel" (74 : Nat) "KindJudgeModel" "thrown" "I"), (Jvm.Cond.fieldLink "KindJudgeModel" (184 : Nat) "KindJudgeModel" "isFile" "Z")]
set_option maxRecDepth 100000 in
set_option maxHeartbeats 4000000 in
theorem kjS_152 : ∀ w ∈ kjW_152, w ∈ lw_tbl := mv_sub_of [1147, 74, 830, 838] (by decide +kernel)
set_option maxRecDepth 100000 in
set_option maxHeartbeats 4000000 in
theorem kjK_152 : mv_mkB kjW_152 kjCl kjKd kjP kjStn kjM_152 = true := by decide +kernel
def kjW_153 : List Jvm.Cond := [(Jvm.Cond.code ({ cls := "KindJudgeModel", name := "total", desc := "(I)I" } : Jvm.MethodName) prog_11_method_54_code (2 : Nat) (Option.some Jvm.ClassFile.FieldType.int)), (Jvm.Cond.initialized "KindJudgeModel"), (Jvm.Cond.fieldLink "KindJudgeModel" (74 : Nat) "KindJudgeModel" "thrown" "I"), (Jvm.Cond.fieldLink "KindJudgeModel" (184 : Nat) "KindJudgeModel" "isFile" "Z"), (Jvm.Cond.fieldLink "KindJudgeModel" (78 : Nat) "KindJudgeModel" "together" "I"), (Jvm.Cond.fieldLink "KindJudgeModel" (187 : Nat) "KindJudgeModel" "goods" "I")]
set_option maxRecDepth 100000 in
set_option maxHeartbeats 4000000 in
theorem kjS_153 : ∀ w ∈ kjW_153, w ∈ lw_tbl := mv_sub_of [1151, 74, 830, 838, 832, 831] (by decide +kernel)
set_option maxRecDepth 100000 in
set_option maxHeartbeats 4000000 in
theorem kjK_153 : mv_mkB kjW_153 kjCl kjKd kjP kjStn kjM_153 = true := by decide +kernel
