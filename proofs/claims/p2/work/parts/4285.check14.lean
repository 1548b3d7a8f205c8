set_option maxRecDepth 100000 in
set_option maxHeartbeats 4000000 in
theorem kjK_94_100 : ((kjT_94.drop 100).take 20).all (mv_rowB kjW_94 kjCl kjKd kjP kjStn kjM_94) = true := by decide +kernel
set_option maxRecDepth 100000 in
set_option maxHeartbeats 4000000 in
theorem kjK_94_120 : (kjT_94.drop 120).all (mv_rowB kjW_94 kjCl kjKd kjP kjStn kjM_94) = true := by decide +kernel
set_option maxRecDepth 100000 in
set_option maxHeartbeats 4000000 in
theorem kjK_94 : mv_mkB kjW_94 kjCl kjKd kjP kjStn kjM_94 = true := mv_mkB_of kjH_94 (mv_all_split (l := kjT_94) 20 kjK_94_0 (mv_all_split (l := (kjT_94.drop 20)) 20 kjK_94_20 (show ((kjT_94.drop 20).drop 20).all _ = true by rw [List.drop_drop]; exact (mv_all_split (l := (kjT_94.drop 40)) 20 kjK_94_40 (show ((kjT_94.drop 40).drop 20).all _ = true by rw [List.drop_drop]; exact (mv_all_split (l := (kjT_94.drop 60)) 20 kjK_94_60 (show ((kjT_94.drop 60).drop 20).all _ = true by rw [List.drop_drop]; exact (mv_all_split (l := (kjT_94.drop 80)) 20 kjK_94_80 (show ((kjT_94.drop 80).drop 20).all _ = true by rw [List.drop_drop]; exact (mv_all_split (l := (kjT_94.drop 100)) 20 kjK_94_100 (show ((kjT_94.drop 100).drop 20).all _ = true by rw [List.drop_drop]; exact kjK_94_120)))))))))))
def kjW_95 : List Jvm.Cond := [(Jvm.Cond.code ({ cls := "KindJudge$Flow", name := "areInts", desc := "(I)Z" } : Jvm.MethodName) prog_6_method_19_code (3 : Nat) (Option.some Jvm.ClassFile.FieldType.boolean)), (Jvm.Cond.initialized "KindJudge$Flow"), (Jvm.Cond.fieldLink "KindJudge$Flow" (127 : Nat) "KindJudge$Flow" "low" "I"), (Jvm.Cond.fieldLink "KindJudge$Flow" (117 : Nat) "KindJudge$Flow" "height" "I"), (Jvm.Cond.methodLink "KindJudge$Flow" (166 : Nat) ({ cls := "KindJudge$Flow", name := "taken", desc := "(I)I" } : Jvm.MethodName)), (Jvm.Cond.instanceMethod ({ cls := "KindJudge$Flow", name := "taken", desc := "(I)I" } : Jvm.MethodName)), (Jvm.Cond.selects "KindJudge$Flow" ({ cls := "KindJudge$Flow", name := "taken", desc := "(I)I" } : Jvm.MethodName) ({ cls := "KindJudge$Flow", name := "taken", desc := "(I)I" } : Jvm.MethodName))]
set_option maxRecDepth 100000 in
set_option maxHeartbeats 4000000 in
theorem kjS_95 : ∀ w ∈ kjW_95, w ∈ lw_tbl := mv_sub_of [712, 73, 248, 247, 687, 689, 20] (by decide +kernel)
set_option maxRecDepth 100000 in
set_option maxHeartbeats 4000000 in
theorem kjK_95 : mv_mkB kjW_95 kjCl kjKd kjP kjStn kjM_95 = true := by decide +kernel
def kjW_96 : List Jvm.Cond := [(Jvm.Cond.code ({ cls := "KindJudge$Flow", name := "areParameters", desc := "(LKindJudge$Signatures;I)Z" } : Jvm.MethodName) prog_6_method_20_code (5 : Nat) (Option.some Jvm.ClassFile.FieldType.boolean)), (Jvm.Cond.initialized "KindJudge$Flow"), (Jvm.Cond.fieldLink "KindJudge$Flow" (111 : Nat) "KindJudge$Flow" "first" "I"), (Jvm.Cond.methodLink "KindJudge$Flow" (90 : Nat) ({ cls := "KindJudge$Signatures", name := "parametersOf", desc := "(I)I" } : Jvm.MethodName)), (Jvm.Cond.instanceMethod ({ cls := "KindJudge$Signatures", name := "parametersOf", desc := "(I)I" } : Jvm.MethodName)), (Jvm.Cond.selects "KindJudge$Signatures" ({ cls := "KindJudge$Signatures", name := "parametersOf", desc := "(I)I" } : Jvm.MethodName) ({ cls := "KindJudge$Signatures", name := "parametersOf", desc := "(I)I" } : Jvm.MethodName)), (Jvm.Cond.fieldLink "KindJudge$Flow" (27 : Nat) "KindJudge$Flow" "layout" "LKindJudge$Layout;"), (Jvm.Cond.fieldLink "KindJudge$Flow" (157 : Nat) "KindJudge$Layout" "classes" "LKindJudge$Classes;"), (Jvm.Cond.methodLink "KindJudge$Flow" (166 : Nat) ({ cls := "KindJudge$Flow", name := "taken", desc := "(I)I" } : Jvm.MethodName)), (Jvm.Cond.instanceMethod ({ cls := "KindJudge$Flow", name := "taken", desc := "(I)I" } : Jvm.MethodName)), (Jvm.Cond.selects "KindJudge$Flow" ({ cls := "KindJudge$Flow", name := "taken", desc := "(I)I" } : Jvm.MethodName) ({ cls := "KindJudge$Flow", name := "taken", desc := "(I)I" } : Jvm.MethodName)), (Jvm.Cond.methodLink "KindJudge$Flow" (95 : Nat) ({ cls := "KindJudge$Signatures", name := "parameter", desc := "(II)I" } : Jvm.MethodName)), (Jvm.Cond.instanceMethod ({ cls := "KindJudge$Signatures", name := "parameter", desc := "(II)I" } : Jvm.MethodName)), (Jvm.Cond.selects "KindJudge$Signatures" ({ cls := "KindJudge$Signatures", name := "parameter", desc := "(II)I" } : Jvm.MethodName) ({ cls := "KindJudge$Signatures", name := "parameter", desc := "(II)I" } : Jvm.MethodName)), (Jvm.Cond.methodLink "KindJudge$Flow" (192 : Nat) ({ cls := "KindJudge$Classes", name := "isFit", desc := "(II)Z" } : Jvm.MethodName)), (Jvm.Cond.instanceMethod ({ cls := "KindJudge$Classes", name := "isFit", desc := "(II)Z" } : Jvm.MethodName)), (Jvm.Cond.selects "KindJudge$Classes" ({ cls := "KindJudge$Classes", name := "isFit", desc := "(II)Z" } : Jvm.MethodName) ({ cls := "KindJudge$Classes", name := "isFit", desc := "(II)Z" } : Jvm.MethodName))]
set_option maxRecDepth 100000 in
set_option maxHeartbeats 4000000 in
theorem kjS_96 : ∀ w ∈ kjW_96, w ∈ lw_tbl := mv_sub_of [724, 73, 245, 662, 433, 434, 239, 182, 687, 689, 20, 663, 613, 614, 720, 469, 470] (by decide +kernel)
set_option maxRecDepth 100000 in
set_option maxHeartbeats 4000000 in
theorem kjK_96 : mv_mkB kjW_96 kjCl kjKd kjP kjStn kjM_96 = true := by decide +kernel
def kjW_97 : List Jvm.Cond := [(Jvm.Cond.code ({ cls := "KindJudge$Flow", name := "isArrayOrObject", desc := "(I)Z" } : Jvm.MethodName) prog_6_method_21_code (1 : Nat) (Option.some Jvm.ClassFile.FieldType.boolean)), (Jvm.Cond.initialized "KindJudge$Flow")]
set_option maxRecDepth 100000 in
set_option maxHeartbeats 4000000 in
theorem kjS_97 : ∀ w ∈ kjW_97, w ∈ lw_tbl := mv_sub_of [715, 73] (by decide +kernel)
set_option maxRecDepth 100000 in
set_option maxHeartbeats 4000000 in
theorem kjK_97 : mv_mkB kjW_97 kjCl kjKd kjP kjStn kjM_97 = true := by decide +kernel
def kjW_98 : List Jvm.Cond := [(Jvm.Cond.code ({ cls := "KindJudge$Flow", name := "kindIn", desc := "(JI)I" } : Jvm.MethodName) prog_6_method_22_code (4 : Nat) (Option.some Jvm.ClassFile.FieldType.int)), (Jvm.Cond.initialized "KindJudge$Flow")]
set_option maxRecDepth 100000 in
set_option maxHeartbeats 4000000 in
theorem kjS_98 : ∀ w ∈ kjW_98, w ∈ lw_tbl := mv_sub_of [360, 73] (by decide +kernel)
set_option maxRecDepth 100000 in
set_option maxHeartbeats 4000000 in
theorem kjK_98 : mv_mkB kjW_98 kjCl kjKd kjP kjStn kjM_98 = true := by decide +kernel
def kjW_99 : List Jvm.Cond := [(Jvm.Cond.code ({ cls := "KindJudge$Flow", name := "with", desc := "(JII)J" } : Jvm.MethodName) prog_6_method_23_code (6 : Nat) (Option.some Jvm.ClassFile.FieldType.long)), (Jvm.Cond.initialized "KindJudge$Flow"), (Jvm.Cond.constantLong "KindJudge$Flow" (202 : Nat) (15 : Int64)), (Jvm.Cond.constantLong "KindJudge$Flow" (204 : Nat) (-1 : Int64))]
set_option maxRecDepth 100000 in
set_option maxHeartbeats 4000000 in
theorem kjS_99 : ∀ w ∈ kjW_99, w ∈ lw_tbl := mv_sub_of [666, 73, 667, 668] (by decide +kernel)
set_option maxRecDepth 100000 in
set_option maxHeartbeats 4000000 in
theorem kjK_99 : mv_mkB kjW_99 kjCl kjKd kjP kjStn kjM_99 = true := by decide +kernel
def kjW_100 : List Jvm.Cond := [(Jvm.Cond.code ({ cls := "KindJudgeModel", name := "<init>", desc := "()V" } : Jvm.MethodName) prog_11_method_1_code (1 : Nat) (Option.none : Option Jvm.ClassFile.FieldType)), (Jvm.Cond.initialized "KindJudgeModel"), (Jvm.Cond.methodLink "KindJudgeModel" (1 : Nat) ({ cls := "java/lang/Object", name := "<init>", desc := "()V" } : Jvm.MethodName)), (Jvm.Cond.instanceMethod ({ cls := "java/lang/Object", name := "<init>", desc := "()V" } : Jvm.MethodName)), (Jvm.Cond.code ({ cls := "java/lang/Object", name := "<init>", desc := "()V" } : Jvm.MethodName) object_method_1_code (1 : Nat) (Option.none : Option Jvm.ClassFile.FieldType)), (Jvm.Cond.arrayClass Jvm.ClassFile.FieldType.int), (Jvm.Cond.fieldLink "KindJudgeModel" (7 : Nat) "KindJudgeModel" "bytes" "[I"), (Jvm.Cond.fieldLink "KindJudgeModel" (13 : Nat) "KindJudgeModel" "read" "[I"), (Jvm.Cond.fieldLink "KindJudgeModel" (16 : Nat) "KindJudgeModel" "file" "[I"), (Jvm.Cond.fieldLink "KindJudgeModel" (19 : Nat) "KindJudgeModel" "above" "[I"), (Jvm.Cond.fieldLink "KindJudgeModel" (22 : Nat) "KindJudgeModel" "fields" "[I"), (Jvm.Cond.fieldLink "KindJudgeModel" (25 : Nat) "KindJudgeModel" "fieldType" "[I"), (Jvm.Cond.fieldLink "KindJudgeModel" (28 : Nat) "KindJudgeModel" "selParams" "[I"), (Jvm.Cond.fieldLink "KindJudgeModel" (31 : Nat) "KindJudgeModel" "selType" "[I"), (Jvm.Cond.fieldLink "KindJudgeModel" (34 : Nat) "KindJudgeModel" "selReturn" "[I"), (Jvm.Cond.fieldLink "KindJudgeModel" (37 : Nat) "KindJudgeModel" "params" "[I"), (Jvm.Cond.fieldLink "KindJudgeModel" (40 : Nat) "KindJudgeModel" "paramType" "[I"), (Jvm.Cond.fieldLink "KindJudgeModel" (43 : Nat) "KindJudgeModel" "returns" "[I"), (Jvm.Cond.fieldLink "KindJudgeModel" (46 : Nat) "KindJudgeModel" "locals" "[I"), (Jvm.Cond.fieldLink "KindJudgeModel" (49 : Nat) "KindJudgeModel" "most" "[I"), (Jvm.Cond.fieldLink "KindJudgeModel" (52 : Nat) "KindJudgeModel" "size" "[I"), (Jvm.Cond.fieldLink "KindJudgeModel" (55 : Nat) "KindJudgeModel" "code" "[I"), (Jvm.Cond.arrayClass Jvm.ClassFile.FieldType.boolean), (Jvm.Cond.fieldLink "KindJudgeModel" (58 : Nat) "KindJudgeModel" "begins" "[Z"), (Jvm.Cond.fieldLink "KindJudgeModel" (62 : Nat) "KindJudgeModel" "table" "[I"), (Jvm.Cond.fieldLink "KindJudgeModel" (65 : Nat) "KindJudgeModel" "height" "[I"), (Jvm.Cond.fieldLink "KindJudgeModel" (68 : Nat) "KindJudgeModel" "kinds" "[I"), (Jvm.Cond.fieldLink "KindJudgeModel" (71 : Nat) "KindJudgeModel" "next" "[I")]
set_option maxRecDepth 100000 in
set_option maxHeartbeats 4000000 in
theorem kjS_100 : ∀ w ∈ kjW_100, w ∈ lw_tbl := mv_sub_of [828, 74, 829, 87, 88, 141, 833, 834, 836, 843, 844, 845, 847, 848, 849, 851, 852, 853, 854, 855, 856, 857, 232, 858, 859, 860, 861, 862] (by decide +kernel)
set_option maxRecDepth 100000 in
set_option maxHeartbeats 4000000 in
theorem kjH_100 : mv_hdB kjW_100 kjM_100 = true := by decide +kernel
set_option maxRecDepth 100000 in
set_option maxHeartbeats 4000000 in
theorem kjK_100_0 : (kjT_100.take 20).all (mv_rowB kjW_100 kjCl kjKd kjP kjStn kjM_100) = true := by decide +kernel
set_option maxRecDepth 100000 in
set_option maxHeartbeats 4000000 in
theorem kjK_100_20 : ((kjT_100.drop 20).take 20).all (mv_rowB kjW_100 kjCl kjKd kjP kjStn kjM_100) = true := by decide +kernel
set_option maxRecDepth 100000 in
set_option maxHeartbeats 4000000 in
theorem kjK_100_40 : ((kjT_100.drop 40).take 20).all (mv_rowB kjW_100 kjCl kjKd kjP kjStn kjM_100) = true := by decide +kernel
set_option maxRecDepth 100000 in
set_option maxHeartbeats 4000000 in
theorem kjK_100_60 : ((kjT_100.drop 60).take 20).all (mv_rowB kjW_100 kjCl kjKd kjP kjStn kjM_100) = true := by decide +kernel
