set_option maxRecDepth 100000 in
set_option maxHeartbeats 4000000 in
theorem kjK_109_40 : ((kjT_109.drop 40).take 40).all (mv_rowB kjW_109 kjCl kjKd kjP kjStn kjM_109) = true := by decide +kernel
set_option maxRecDepth 100000 in
set_option maxHeartbeats 4000000 in
theorem kjK_109_80 : (kjT_109.drop 80).all (mv_rowB kjW_109 kjCl kjKd kjP kjStn kjM_109) = true := by decide +kernel
set_option maxRecDepth 100000 in
set_option maxHeartbeats 4000000 in
theorem kjK_109 : mv_mkB kjW_109 kjCl kjKd kjP kjStn kjM_109 = true := mv_mkB_of kjH_109 (mv_all_split (l := kjT_109) 40 kjK_109_0 (mv_all_split (l := (kjT_109.drop 40)) 40 kjK_109_40 (show ((kjT_109.drop 40).drop 40).all _ = true by rw [List.drop_drop]; exact kjK_109_80)))
def kjW_110 : List Jvm.Cond := [(Jvm.Cond.code ({ cls := "KindJudgeModel", name := "isBelow", desc := "(II)Z" } : Jvm.MethodName) prog_11_method_11_code (4 : Nat) (Option.some Jvm.ClassFile.FieldType.boolean)), (Jvm.Cond.initialized "KindJudgeModel"), (Jvm.Cond.fieldLink "KindJudgeModel" (19 : Nat) "KindJudgeModel" "above" "[I")]
set_option maxRecDepth 100000 in
set_option maxHeartbeats 4000000 in
theorem kjS_110 : ∀ w ∈ kjW_110, w ∈ lw_tbl := mv_sub_of [1001, 74, 843] (by decide +kernel)
set_option maxRecDepth 100000 in
set_option maxHeartbeats 4000000 in
theorem kjK_110 : mv_mkB kjW_110 kjCl kjKd kjP kjStn kjM_110 = true := by decide +kernel
def kjW_111 : List Jvm.Cond := [(Jvm.Cond.code ({ cls := "KindJudgeModel", name := "isOf", desc := "(II)Z" } : Jvm.MethodName) prog_11_method_12_code (3 : Nat) (Option.some Jvm.ClassFile.FieldType.boolean)), (Jvm.Cond.initialized "KindJudgeModel"), (Jvm.Cond.methodLink "KindJudgeModel" (107 : Nat) ({ cls := "KindJudgeModel", name := "isBelow", desc := "(II)Z" } : Jvm.MethodName)), (Jvm.Cond.instanceMethod ({ cls := "KindJudgeModel", name := "isBelow", desc := "(II)Z" } : Jvm.MethodName)), (Jvm.Cond.selects "KindJudgeModel" ({ cls := "KindJudgeModel", name := "isBelow", desc := "(II)Z" } : Jvm.MethodName) ({ cls := "KindJudgeModel", name := "isBelow", desc := "(II)Z" } : Jvm.MethodName))]
set_option maxRecDepth 100000 in
set_option maxHeartbeats 4000000 in
theorem kjS_111 : ∀ w ∈ kjW_111, w ∈ lw_tbl := mv_sub_of [997, 74, 998, 1000, 37] (by decide +kernel)
set_option maxRecDepth 100000 in
set_option maxHeartbeats 4000000 in
theorem kjK_111 : mv_mkB kjW_111 kjCl kjKd kjP kjStn kjM_111 = true := by decide +kernel
def kjW_112 : List Jvm.Cond := [(Jvm.Cond.code ({ cls := "KindJudgeModel", name := "mayStand", desc := "(III)Z" } : Jvm.MethodName) prog_11_method_13_code (5 : Nat) (Option.some Jvm.ClassFile.FieldType.boolean)), (Jvm.Cond.initialized "KindJudgeModel"), (Jvm.Cond.fieldLink "KindJudgeModel" (37 : Nat) "KindJudgeModel" "params" "[I"), (Jvm.Cond.fieldLink "KindJudgeModel" (28 : Nat) "KindJudgeModel" "selParams" "[I"), (Jvm.Cond.fieldLink "KindJudgeModel" (43 : Nat) "KindJudgeModel" "returns" "[I"), (Jvm.Cond.fieldLink "KindJudgeModel" (34 : Nat) "KindJudgeModel" "selReturn" "[I"), (Jvm.Cond.fieldLink "KindJudgeModel" (40 : Nat) "KindJudgeModel" "paramType" "[I"), (Jvm.Cond.methodLink "KindJudgeModel" (111 : Nat) ({ cls := "KindJudgeModel", name := "isOf", desc := "(II)Z" } : Jvm.MethodName)), (Jvm.Cond.instanceMethod ({ cls := "KindJudgeModel", name := "isOf", desc := "(II)Z" } : Jvm.MethodName)), (Jvm.Cond.selects "KindJudgeModel" ({ cls := "KindJudgeModel", name := "isOf", desc := "(II)Z" } : Jvm.MethodName) ({ cls := "KindJudgeModel", name := "isOf", desc := "(II)Z" } : Jvm.MethodName)), (Jvm.Cond.fieldLink "KindJudgeModel" (31 : Nat) "KindJudgeModel" "selType" "[I")]
set_option maxRecDepth 100000 in
set_option maxHeartbeats 4000000 in
theorem kjS_112 : ∀ w ∈ kjW_112, w ∈ lw_tbl := mv_sub_of [993, 74, 851, 847, 853, 849, 852, 994, 996, 36, 848] (by decide +kernel)
set_option maxRecDepth 100000 in
set_option maxHeartbeats 4000000 in
theorem kjH_112 : mv_hdB kjW_112 kjM_112 = true := by decide +kernel
set_option maxRecDepth 100000 in
set_option maxHeartbeats 4000000 in
theorem kjK_112_0 : (kjT_112.take 40).all (mv_rowB kjW_112 kjCl kjKd kjP kjStn kjM_112) = true := by decide +kernel
set_option maxRecDepth 100000 in
set_option maxHeartbeats 4000000 in
theorem kjK_112_40 : (kjT_112.drop 40).all (mv_rowB kjW_112 kjCl kjKd kjP kjStn kjM_112) = true := by decide +kernel
set_option maxRecDepth 100000 in
set_option maxHeartbeats 4000000 in
theorem kjK_112 : mv_mkB kjW_112 kjCl kjKd kjP kjStn kjM_112 = true := mv_mkB_of kjH_112 (mv_all_split (l := kjT_112) 40 kjK_112_0 kjK_112_40)
def kjW_113 : List Jvm.Cond := [(Jvm.Cond.code ({ cls := "KindJudgeModel", name := "readTable", desc := "(II)V" } : Jvm.MethodName) prog_11_method_14_code (4 : Nat) (Option.none : Option Jvm.ClassFile.FieldType)), (Jvm.Cond.initialized "KindJudgeModel"), (Jvm.Cond.fieldLink "KindJudgeModel" (114 : Nat) "KindJudgeModel" "methods" "I"), (Jvm.Cond.methodLink "KindJudgeModel" (100 : Nat) ({ cls := "KindJudgeModel", name := "next", desc := "(II)I" } : Jvm.MethodName)), (Jvm.Cond.instanceMethod ({ cls := "KindJudgeModel", name := "next", desc := "(II)I" } : Jvm.MethodName)), (Jvm.Cond.selects "KindJudgeModel" ({ cls := "KindJudgeModel", name := "next", desc := "(II)I" } : Jvm.MethodName) ({ cls := "KindJudgeModel", name := "next", desc := "(II)I" } : Jvm.MethodName)), (Jvm.Cond.fieldLink "KindJudgeModel" (62 : Nat) "KindJudgeModel" "table" "[I"), (Jvm.Cond.fieldLink "KindJudgeModel" (83 : Nat) "KindJudgeModel" "bad" "Z"), (Jvm.Cond.methodLink "KindJudgeModel" (117 : Nat) ({ cls := "KindJudgeModel", name := "mayStand", desc := "(III)Z" } : Jvm.MethodName)), (Jvm.Cond.instanceMethod ({ cls := "KindJudgeModel", name := "mayStand", desc := "(III)Z" } : Jvm.MethodName)), (Jvm.Cond.selects "KindJudgeModel" ({ cls := "KindJudgeModel", name := "mayStand", desc := "(III)Z" } : Jvm.MethodName) ({ cls := "KindJudgeModel", name := "mayStand", desc := "(III)Z" } : Jvm.MethodName)), (Jvm.Cond.fieldLink "KindJudgeModel" (87 : Nat) "KindJudgeModel" "at" "I")]
set_option maxRecDepth 100000 in
set_option maxHeartbeats 4000000 in
theorem kjS_113 : ∀ w ∈ kjW_113, w ∈ lw_tbl := mv_sub_of [989, 74, 850, 963, 965, 29, 859, 866, 990, 992, 35, 865] (by decide +kernel)
set_option maxRecDepth 100000 in
set_option maxHeartbeats 4000000 in
theorem kjK_113 : mv_mkB kjW_113 kjCl kjKd kjP kjStn kjM_113 = true := by decide +kernel
def kjW_114 : List Jvm.Cond := [(Jvm.Cond.code ({ cls := "KindJudgeModel", name := "takeApart", desc := "()Z" } : Jvm.MethodName) prog_11_method_15_code (2 : Nat) (Option.some Jvm.ClassFile.FieldType.boolean)), (Jvm.Cond.initialized "KindJudgeModel"), (Jvm.Cond.fieldLink "KindJudgeModel" (87 : Nat) "KindJudgeModel" "at" "I"), (Jvm.Cond.fieldLink "KindJudgeModel" (83 : Nat) "KindJudgeModel" "bad" "Z"), (Jvm.Cond.fieldLink "KindJudgeModel" (97 : Nat) "KindJudgeModel" "classes" "I"), (Jvm.Cond.methodLink "KindJudgeModel" (100 : Nat) ({ cls := "KindJudgeModel", name := "next", desc := "(II)I" } : Jvm.MethodName)), (Jvm.Cond.instanceMethod ({ cls := "KindJudgeModel", name := "next", desc := "(II)I" } : Jvm.MethodName)), (Jvm.Cond.selects "KindJudgeModel" ({ cls := "KindJudgeModel", name := "next", desc := "(II)I" } : Jvm.MethodName) ({ cls := "KindJudgeModel", name := "next", desc := "(II)I" } : Jvm.MethodName)), (Jvm.Cond.methodLink "KindJudgeModel" (120 : Nat) ({ cls := "KindJudgeModel", name := "readClass", desc := "(I)V" } : Jvm.MethodName)), (Jvm.Cond.instanceMethod ({ cls := "KindJudgeModel", name := "readClass", desc := "(I)V" } : Jvm.MethodName)), (Jvm.Cond.selects "KindJudgeModel" ({ cls := "KindJudgeModel", name := "readClass", desc := "(I)V" } : Jvm.MethodName) ({ cls := "KindJudgeModel", name := "readClass", desc := "(I)V" } : Jvm.MethodName)), (Jvm.Cond.fieldLink "KindJudgeModel" (124 : Nat) "KindJudgeModel" "selectors" "I"), (Jvm.Cond.methodLink "KindJudgeModel" (127 : Nat) ({ cls := "KindJudgeModel", name := "readSelector", desc := "(I)V" } : Jvm.MethodName)), (Jvm.Cond.instanceMethod ({ cls := "KindJudgeModel", name := "readSelector", desc := "(I)V" } : Jvm.MethodName)), (Jvm.Cond.selects "KindJudgeModel" ({ cls := "KindJudgeModel", name := "readSelector", desc := "(I)V" } : Jvm.MethodName) ({ cls := "KindJudgeModel", name := "readSelector", desc := "(I)V" } : Jvm.MethodName)), (Jvm.Cond.fieldLink "KindJudgeModel" (114 : Nat) "KindJudgeModel" "methods" "I"), (Jvm.Cond.methodLink "KindJudgeModel" (130 : Nat) ({ cls := "KindJudgeModel", name := "readMethod", desc := "(I)V" } : Jvm.MethodName)), (Jvm.Cond.instanceMethod ({ cls := "KindJudgeModel", name := "readMethod", desc := "(I)V" } : Jvm.MethodName)), (Jvm.Cond.selects "KindJudgeModel" ({ cls := "KindJudgeModel", name := "readMethod", desc := "(I)V" } : Jvm.MethodName) ({ cls := "KindJudgeModel", name := "readMethod", desc := "(I)V" } : Jvm.MethodName)), (Jvm.Cond.methodLink "KindJudgeModel" (133 : Nat) ({ cls := "KindJudgeModel", name := "readTable", desc := "(II)V" } : Jvm.MethodName)), (Jvm.Cond.instanceMethod ({ cls := "KindJudgeModel", name := "readTable", desc := "(II)V" } : Jvm.MethodName)), (Jvm.Cond.selects "KindJudgeModel" ({ cls := "KindJudgeModel", name := "readTable", desc := "(II)V" } : Jvm.MethodName) ({ cls := "KindJudgeModel", name := "readTable", desc := "(II)V" } : Jvm.MethodName)), (Jvm.Cond.fieldLink "KindJudgeModel" (90 : Nat) "KindJudgeModel" "readLong" "I")]
set_option maxRecDepth 100000 in
set_option maxHeartbeats 4000000 in
theorem kjS_114 : ∀ w ∈ kjW_114, w ∈ lw_tbl := mv_sub_of [962, 74, 865, 866, 842, 963, 965, 29, 970, 972, 30, 846, 978, 980, 32, 850, 982, 984, 33, 986, 988, 34, 835] (by decide +kernel)
set_option maxRecDepth 100000 in
set_option maxHeartbeats 4000000 in
theorem kjH_114 : mv_hdB kjW_114 kjM_114 = true := by decide +kernel
set_option maxRecDepth 100000 in
set_option maxHeartbeats 4000000 in
theorem kjK_114_0 : (kjT_114.take 40).all (mv_rowB kjW_114 kjCl kjKd kjP kjStn kjM_114) = true := by decide +kernel
