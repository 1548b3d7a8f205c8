def kjW_105 : List Jvm.Cond := [(Jvm.Cond.code ({ cls := "KindJudgeModel", name := "next", desc := "(II)I" } : Jvm.MethodName) prog_11_method_6_code (3 : Nat) (Option.some Jvm.ClassFile.FieldType.int)), (Jvm.Cond.initialized "KindJudgeModel"), (Jvm.Cond.fieldLink "KindJudgeModel" (83 : Nat) "KindJudgeModel" "bad" "Z"), (Jvm.Cond.fieldLink "KindJudgeModel" (87 : Nat) "KindJudgeModel" "at" "I"), (Jvm.Cond.fieldLink "KindJudgeModel" (90 : Nat) "KindJudgeModel" "readLong" "I"), (Jvm.Cond.fieldLink "KindJudgeModel" (13 : Nat) "KindJudgeModel" "read" "[I"), (Jvm.Cond.methodLink "KindJudgeModel" (93 : Nat) ({ cls := "KindJudgeModel", name := "within", desc := "(III)Z" } : Jvm.MethodName)), (Jvm.Cond.static ({ cls := "KindJudgeModel", name := "within", desc := "(III)Z" } : Jvm.MethodName))]
set_option maxRecDepth 100000 in
set_option maxHeartbeats 4000000 in
theorem kjS_105 : ∀ w ∈ kjW_105, w ∈ lw_tbl := mv_sub_of [966, 74, 866, 865, 835, 834, 967, 968] (by decide +kernel)
set_option maxRecDepth 100000 in
set_option maxHeartbeats 4000000 in
theorem kjK_105 : mv_mkB kjW_105 kjCl kjKd kjP kjStn kjM_105 = true := by decide +kernel
def kjW_106 : List Jvm.Cond := [(Jvm.Cond.code ({ cls := "KindJudgeModel", name := "readType", desc := "(Z)I" } : Jvm.MethodName) prog_11_method_7_code (4 : Nat) (Option.some Jvm.ClassFile.FieldType.int)), (Jvm.Cond.initialized "KindJudgeModel"), (Jvm.Cond.fieldLink "KindJudgeModel" (83 : Nat) "KindJudgeModel" "bad" "Z"), (Jvm.Cond.fieldLink "KindJudgeModel" (87 : Nat) "KindJudgeModel" "at" "I"), (Jvm.Cond.fieldLink "KindJudgeModel" (90 : Nat) "KindJudgeModel" "readLong" "I"), (Jvm.Cond.fieldLink "KindJudgeModel" (13 : Nat) "KindJudgeModel" "read" "[I"), (Jvm.Cond.fieldLink "KindJudgeModel" (97 : Nat) "KindJudgeModel" "classes" "I")]
set_option maxRecDepth 100000 in
set_option maxHeartbeats 4000000 in
theorem kjS_106 : ∀ w ∈ kjW_106, w ∈ lw_tbl := mv_sub_of [977, 74, 866, 865, 835, 834, 842] (by decide +kernel)
set_option maxRecDepth 100000 in
set_option maxHeartbeats 4000000 in
theorem kjK_106 : mv_mkB kjW_106 kjCl kjKd kjP kjStn kjM_106 = true := by decide +kernel
def kjW_107 : List Jvm.Cond := [(Jvm.Cond.code ({ cls := "KindJudgeModel", name := "readClass", desc := "(I)V" } : Jvm.MethodName) prog_11_method_8_code (7 : Nat) (Option.none : Option Jvm.ClassFile.FieldType)), (Jvm.Cond.initialized "KindJudgeModel"), (Jvm.Cond.methodLink "KindJudgeModel" (100 : Nat) ({ cls := "KindJudgeModel", name := "next", desc := "(II)I" } : Jvm.MethodName)), (Jvm.Cond.instanceMethod ({ cls := "KindJudgeModel", name := "next", desc := "(II)I" } : Jvm.MethodName)), (Jvm.Cond.selects "KindJudgeModel" ({ cls := "KindJudgeModel", name := "next", desc := "(II)I" } : Jvm.MethodName) ({ cls := "KindJudgeModel", name := "next", desc := "(II)I" } : Jvm.MethodName)), (Jvm.Cond.fieldLink "KindJudgeModel" (19 : Nat) "KindJudgeModel" "above" "[I"), (Jvm.Cond.fieldLink "KindJudgeModel" (22 : Nat) "KindJudgeModel" "fields" "[I"), (Jvm.Cond.fieldLink "KindJudgeModel" (25 : Nat) "KindJudgeModel" "fieldType" "[I"), (Jvm.Cond.methodLink "KindJudgeModel" (103 : Nat) ({ cls := "KindJudgeModel", name := "readType", desc := "(Z)I" } : Jvm.MethodName)), (Jvm.Cond.instanceMethod ({ cls := "KindJudgeModel", name := "readType", desc := "(Z)I" } : Jvm.MethodName)), (Jvm.Cond.selects "KindJudgeModel" ({ cls := "KindJudgeModel", name := "readType", desc := "(Z)I" } : Jvm.MethodName) ({ cls := "KindJudgeModel", name := "readType", desc := "(Z)I" } : Jvm.MethodName))]
set_option maxRecDepth 100000 in
set_option maxHeartbeats 4000000 in
theorem kjS_107 : ∀ w ∈ kjW_107, w ∈ lw_tbl := mv_sub_of [973, 74, 963, 965, 29, 843, 844, 845, 974, 976, 31] (by decide +kernel)
set_option maxRecDepth 100000 in
set_option maxHeartbeats 4000000 in
theorem kjH_107 : mv_hdB kjW_107 kjM_107 = true := by decide +kernel
set_option maxRecDepth 100000 in
set_option maxHeartbeats 4000000 in
theorem kjK_107_0 : (kjT_107.take 40).all (mv_rowB kjW_107 kjCl kjKd kjP kjStn kjM_107) = true := by decide +kernel
set_option maxRecDepth 100000 in
set_option maxHeartbeats 4000000 in
theorem kjK_107_40 : ((kjT_107.drop 40).take 40).all (mv_rowB kjW_107 kjCl kjKd kjP kjStn kjM_107) = true := by decide +kernel
set_option maxRecDepth 100000 in
set_option maxHeartbeats 4000000 in
theorem kjK_107_80 : (kjT_107.drop 80).all (mv_rowB kjW_107 kjCl kjKd kjP kjStn kjM_107) = true := by decide +kernel
set_option maxRecDepth 100000 in
set_option maxHeartbeats 4000000 in
theorem kjK_107 : mv_mkB kjW_107 kjCl kjKd kjP kjStn kjM_107 = true := mv_mkB_of kjH_107 (mv_all_split (l := kjT_107) 40 kjK_107_0 (mv_all_split (l := (kjT_107.drop 40)) 40 kjK_107_40 (show ((kjT_107.drop 40).drop 40).all _ = true by rw [List.drop_drop]; exact kjK_107_80)))
def kjW_108 : List Jvm.Cond := [(Jvm.Cond.code ({ cls := "KindJudgeModel", name := "readSelector", desc := "(I)V" } : Jvm.MethodName) prog_11_method_9_code (3 : Nat) (Option.none : Option Jvm.ClassFile.FieldType)), (Jvm.Cond.initialized "KindJudgeModel"), (Jvm.Cond.fieldLink "KindJudgeModel" (28 : Nat) "KindJudgeModel" "selParams" "[I"), (Jvm.Cond.methodLink "KindJudgeModel" (100 : Nat) ({ cls := "KindJudgeModel", name := "next", desc := "(II)I" } : Jvm.MethodName)), (Jvm.Cond.instanceMethod ({ cls := "KindJudgeModel", name := "next", desc := "(II)I" } : Jvm.MethodName)), (Jvm.Cond.selects "KindJudgeModel" ({ cls := "KindJudgeModel", name := "next", desc := "(II)I" } : Jvm.MethodName) ({ cls := "KindJudgeModel", name := "next", desc := "(II)I" } : Jvm.MethodName)), (Jvm.Cond.fieldLink "KindJudgeModel" (31 : Nat) "KindJudgeModel" "selType" "[I"), (Jvm.Cond.methodLink "KindJudgeModel" (103 : Nat) ({ cls := "KindJudgeModel", name := "readType", desc := "(Z)I" } : Jvm.MethodName)), (Jvm.Cond.instanceMethod ({ cls := "KindJudgeModel", name := "readType", desc := "(Z)I" } : Jvm.MethodName)), (Jvm.Cond.selects "KindJudgeModel" ({ cls := "KindJudgeModel", name := "readType", desc := "(Z)I" } : Jvm.MethodName) ({ cls := "KindJudgeModel", name := "readType", desc := "(Z)I" } : Jvm.MethodName)), (Jvm.Cond.fieldLink "KindJudgeModel" (34 : Nat) "KindJudgeModel" "selReturn" "[I")]
set_option maxRecDepth 100000 in
set_option maxHeartbeats 4000000 in
theorem kjS_108 : ∀ w ∈ kjW_108, w ∈ lw_tbl := mv_sub_of [981, 74, 847, 963, 965, 29, 848, 974, 976, 31, 849] (by decide +kernel)
set_option maxRecDepth 100000 in
set_option maxHeartbeats 4000000 in
theorem kjK_108 : mv_mkB kjW_108 kjCl kjKd kjP kjStn kjM_108 = true := by decide +kernel
def kjW_109 : List Jvm.Cond := [(Jvm.Cond.code ({ cls := "KindJudgeModel", name := "readMethod", desc := "(I)V" } : Jvm.MethodName) prog_11_method_10_code (3 : Nat) (Option.none : Option Jvm.ClassFile.FieldType)), (Jvm.Cond.initialized "KindJudgeModel"), (Jvm.Cond.fieldLink "KindJudgeModel" (37 : Nat) "KindJudgeModel" "params" "[I"), (Jvm.Cond.methodLink "KindJudgeModel" (100 : Nat) ({ cls := "KindJudgeModel", name := "next", desc := "(II)I" } : Jvm.MethodName)), (Jvm.Cond.instanceMethod ({ cls := "KindJudgeModel", name := "next", desc := "(II)I" } : Jvm.MethodName)), (Jvm.Cond.selects "KindJudgeModel" ({ cls := "KindJudgeModel", name := "next", desc := "(II)I" } : Jvm.MethodName) ({ cls := "KindJudgeModel", name := "next", desc := "(II)I" } : Jvm.MethodName)), (Jvm.Cond.fieldLink "KindJudgeModel" (40 : Nat) "KindJudgeModel" "paramType" "[I"), (Jvm.Cond.methodLink "KindJudgeModel" (103 : Nat) ({ cls := "KindJudgeModel", name := "readType", desc := "(Z)I" } : Jvm.MethodName)), (Jvm.Cond.instanceMethod ({ cls := "KindJudgeModel", name := "readType", desc := "(Z)I" } : Jvm.MethodName)), (Jvm.Cond.selects "KindJudgeModel" ({ cls := "KindJudgeModel", name := "readType", desc := "(Z)I" } : Jvm.MethodName) ({ cls := "KindJudgeModel", name := "readType", desc := "(Z)I" } : Jvm.MethodName)), (Jvm.Cond.fieldLink "KindJudgeModel" (43 : Nat) "KindJudgeModel" "returns" "[I"), (Jvm.Cond.fieldLink "KindJudgeModel" (46 : Nat) "KindJudgeModel" "locals" "[I"), (Jvm.Cond.fieldLink "KindJudgeModel" (49 : Nat) "KindJudgeModel" "most" "[I"), (Jvm.Cond.fieldLink "KindJudgeModel" (52 : Nat) "KindJudgeModel" "size" "[I"), (Jvm.Cond.fieldLink "KindJudgeModel" (55 : Nat) "KindJudgeModel" "code" "[I")]
set_option maxRecDepth 100000 in
set_option maxHeartbeats 4000000 in
theorem kjS_109 : ∀ w ∈ kjW_109, w ∈ lw_tbl := mv_sub_of [985, 74, 851, 963, 965, 29, 852, 974, 976, 31, 853, 854, 855, 856, 857] (by decide +kernel)
set_option maxRecDepth 100000 in
set_option maxHeartbeats 4000000 in
theorem kjH_109 : mv_hdB kjW_109 kjM_109 = true := by decide +kernel
set_option maxRecDepth 100000 in
set_option maxHeartbeats 4000000 in
theorem kjK_109_0 : (kjT_109.take 40).all (mv_rowB kjW_109 kjCl kjKd kjP kjStn kjM_109) = true := by decide +kernel
