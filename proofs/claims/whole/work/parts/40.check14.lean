def kjW_96 : List Jvm.Cond := [(Jvm.Cond.code ({ cls := "KindJudge$Flow", name := "areParameters", desc := "(LKindJudge$Signatures;I)Z" } : Jvm.MethodName) prog_6_method_20_code (5 : Nat) (Option.some Jvm.ClassFile.FieldType.boolean)), (Jvm.Cond.initialized "KindJudge$Flow"), (Jvm.Cond.fieldLink "KindJudge$Flow" (111 : Nat) "KindJudge$Flow" "first" "I"), (Jvm.Cond.methodLink "KindJudge$Flow" (90 : Nat) ({ cls := "KindJudge$Signatures", name := "parametersOf", desc := "(I)I" } : Jvm.MethodName)), (Jvm.Cond.instanceMethod ({ cls := "KindJudge$Signatures", name := "parametersOf", desc := "(I)I" } : Jvm.MethodName)), (Jvm.Cond.selects "KindJudge$Signatures" ({ cls := "KindJudge$Signatures", name := "parametersOf", desc := "(I)I" } : Jvm.MethodName) ({ cls := "KindJudge$Signatures", name := "parametersOf", desc := "(I)I" } : Jvm.MethodName)), (Jvm.Cond.fieldLink "KindJudge$Flow" (27 : Nat) "KindJudge$Flow" "layout" "LKindJudge$Layout;"), (Jvm.Cond.fieldLink "KindJudge$Flow" (157 : Nat) "KindJudge$Layout" "classes" "LKindJudge$Classes;"), (Jvm.Cond.methodLink "KindJudge$Flow" (166 : Nat) ({ cls := "KindJudge$Flow", name := "taken", desc := "(I)I" } : Jvm.MethodName)), (Jvm.Cond.instanceMethod ({ cls := "KindJudge$Flow", name := "taken", desc := "(I)I" } : Jvm.MethodName)), (Jvm.Cond.selects "KindJudge$Flow" ({ cls := "KindJudge$Flow", name := "taken", desc := "(I)I" } : Jvm.MethodName) ({ cls := "KindJudge$Flow", name := "taken", desc := "(I)I" } : Jvm.MethodName)), (Jvm.Cond.methodLink "KindJudge$Flow" (95 : Nat) ({ cls := "KindJudge$Signatures", name := "parameter", desc := "(II)I" } : Jvm.MethodName)), (Jvm.Cond.instanceMethod ({ cls := "KindJudge$Signatures", name := "parameter", desc := "(II)I" } : Jvm.MethodName)), (Jvm.Cond.selects "KindJudge$Signatures" ({ cls := "KindJudge$Signatures", name := "parameter", desc := "(II)I" } : Jvm.MethodName) ({ cls := "KindJudge$Signatures", name := "parameter", desc := "(II)I" } : Jvm.MethodName)), (Jvm.Cond.methodLink "KindJudge$Flow" (192 : Nat) ({ cls := "KindJudge$Classes", name := "isFit", desc := "(II)Z" } : Jvm.MethodName)), (Jvm.Cond.instanceMethod ({ cls := "KindJudge$Classes", name := "isFit", desc := "(II)Z" } : Jvm.MethodName)), (Jvm.Cond.selects "KindJudge$Classes" ({ cls := "KindJudge$Classes", name := "isFit", desc := "(II)Z" } : Jvm.MethodName) ({ cls := "KindJudge$Classes", name := "isFit", desc := "(II)Z" } : Jvm.MethodName))]
set_option maxRecDepth 100000 in
set_option maxHeartbeats 4000000 in
theorem kjS_96 : ∀ w ∈ kjW_96, w ∈ lw_tbl := mv_sub_of [724, 73, 245, 662, 433, 434, 239, 182, 687, 689, 20, 663, 613, 614, 720, 469, 470] (by decide +kernel)
set_option maxRecDepth 100000 in
set_option maxHeartbeats 4000000 in
theorem kjK_96 : mv_mkB kjW_96 kjCl kjKd kjP kjStn kjM_96 = true := by decide +kernel
def kjW_97 : List Jvm.Cond := [(Jvm.Cond.code ({ cls := "KindJudge$Flow", name := "isArrayOrObject", desc := "(I)Z" } : Jvm.MethodName) prog_6_method_21_code (1 : Nat) (Option.some Jvm.ClassFile.FieldType.boolean)), (Jvm.Cond.initialized "KindJudge$Flow")]
set_option maxRecDepth 100000 in
set_option maxHeartbeats 4000000 in
theorem kjS_97 : ∀ w ∈ kjW_97, w ∈ lw_tbl := mv_sub_of [715, 73] (by decide +kernel)
set_option maxRecDepth 100000 in
set_option maxHeartbeats 4000000 in
theorem kjK_97 : mv_mkB kjW_97 kjCl kjKd kjP kjStn kjM_97 = true := by decide +kernel
def kjW_98 : List Jvm.Cond := [(Jvm.Cond.code ({ cls := "KindJudge$Flow", name := "kindIn", desc := "(JI)I" } : Jvm.MethodName) prog_6_method_22_code (4 : Nat) (Option.some Jvm.ClassFile.FieldType.int)), (Jvm.Cond.initialized "KindJudge$Flow")]
set_option maxRecDepth 100000 in
set_option maxHeartbeats 4000000 in
theorem kjS_98 : ∀ w ∈ kjW_98, w ∈ lw_tbl := mv_sub_of [360, 73] (by decide +kernel)
set_option maxRecDepth 100000 in
set_option maxHeartbeats 4000000 in
theorem kjK_98 : mv_mkB kjW_98 kjCl kjKd kjP kjStn kjM_98 = true := by decide +kernel
def kjW_99 : List Jvm.Cond := [(Jvm.Cond.code ({ cls := "KindJudge$Flow", name := "with", desc := "(JII)J" } : Jvm.MethodName) prog_6_method_23_code (6 : Nat) (Option.some Jvm.ClassFile.FieldType.long)), (Jvm.Cond.initialized "KindJudge$Flow"), (Jvm.Cond.constantLong "KindJudge$Flow" (202 : Nat) (15 : Int64)), (Jvm.Cond.constantLong "KindJudge$Flow" (204 : Nat) (-1 : Int64))]
set_option maxRecDepth 100000 in
set_option maxHeartbeats 4000000 in
theorem kjS_99 : ∀ w ∈ kjW_99, w ∈ lw_tbl := mv_sub_of [666, 73, 667, 668] (by decide +kernel)
set_option maxRecDepth 100000 in
set_option maxHeartbeats 4000000 in
theorem kjK_99 : mv_mkB kjW_99 kjCl kjKd kjP kjStn kjM_99 = true := by decide +kernel
def kjW_100 : List Jvm.Cond := [(Jvm.Cond.code ({ cls := "KindJudgeModel", name := "<init>", desc := "()V" } : Jvm.MethodName) prog_11_method_1_code (1 : Nat) (Option.none : Option Jvm.ClassFile.FieldType)), (Jvm.Cond.initialized "KindJudgeModel"), (Jvm.Cond.methodLink "KindJudgeModel" (1 : Nat) ({ cls := "java/lang/Object", name := "<init>", desc := "()V" } : Jvm.MethodName)), (Jvm.Cond.instanceMethod ({ cls := "java/lang/Object", name := "<init>", desc := "()V" } : Jvm.MethodName)), (Jvm.Cond.code ({ cls := "java/lang/Object", name := "<init>", desc := "()V" } : Jvm.MethodName) object_method_1_code (1 : Nat) (Option.none : Option Jvm.ClassFile.FieldType)), (Jvm.Cond.arrayClass Jvm.ClassFile.FieldType.int), (Jvm.Cond.fieldLink "KindJudgeModel" (7 : Nat) "KindJudgeModel" "bytes" "[I"), (Jvm.Cond.fieldLink "KindJudgeModel" (13 : Nat) "KindJudgeModel" "read" "[I"), (Jvm.Cond.fieldLink "KindJudgeModel" (16 : Nat) "KindJudgeModel" "file" "[I"), (Jvm.Cond.fieldLink "KindJudgeModel" (19 : Nat) "KindJudgeModel" "above" "[I"), (Jvm.Cond.fieldLink "KindJudgeModel" (22 : Nat) "KindJudgeModel" "fields" "[I"), (Jvm.Cond.fieldLink "KindJudgeModel" (25 : Nat) "KindJudgeModel" "fieldType" "[I"), (Jvm.Cond.fieldLink "KindJudgeModel" (28 : Nat) "KindJudgeModel" "selParams" "[I"), (Jvm.Cond.fieldLink "KindJudgeModel" (31 : Nat) "KindJudgeModel" "selType" "[I"), (Jvm.Cond.fieldLink "KindJudgeModel" (34 : Nat) "KindJudgeModel" "selReturn" "[I"), (Jvm.Cond.fieldLink "KindJudgeModel" (37 : Nat) "KindJudgeModel" "params" "[I"), (Jvm.Cond.fieldLink "KindJudgeModel" (40 : Nat) "KindJudgeModel" "paramType" "[I"), (Jvm.Cond.fieldLink "KindJudgeModel" (43 : Nat) "KindJudgeModel" "returns" "[I"), (Jvm.Cond.fieldLink "KindJudgeModel" (46 : Nat) "KindJudgeModel" "locals" "[I"), (Jvm.Cond.fieldLink "KindJudgeModel" (49 : Nat) "KindJudgeModel" "most" "[I"), (Jvm.Cond.fieldLink "KindJudgeModel" (52 : Nat) "KindJudgeModel" "size" "[I"), (Jvm.Cond.fieldLink "KindJudgeModel" (55 : Nat) "KindJudgeModel" "code" "[I"), (Jvm.Cond.arrayClass Jvm.ClassFile.FieldType.boolean), (Jvm.Cond.fieldLink "KindJudgeModel" (58 : Nat) "KindJudgeModel" "begins" "[Z"), (Jvm.Cond.fieldLink "KindJudgeModel" (62 : Nat) "KindJudgeModel" "table" "[I"), (Jvm.Cond.fieldLink "KindJudgeModel" (65 : Nat) "KindJudgeModel" "height" "[I"), (Jvm.Cond.fieldLink "KindJudgeModel" (68 : Nat) "KindJudgeModel" "kinds" "[I"), (Jvm.Cond.fieldLink "KindJudgeModel" (71 : Nat) "KindJudgeModel" "next" "[I")]
set_option maxRecDepth 100000 in
set_option maxHeartbeats 4000000 in
theorem kjS_100 : ∀ w ∈ kjW_100, w ∈ lw_tbl := mv_sub_of [828, 74, 829, 87, 88, 141, 833, 834, 836, 843, 844, 845, 847, 848, 849, 851, 852, 853, 854, 855, 856, 857, 232, 858, 859, 860, 861, 862] (by decide +kernel)
set_option maxRecDepth 100000 in
set_option maxHeartbeats 4000000 in
theorem kjH_100 : mv_hdB kjW_100 kjM_100 = true := by decide +kernel
set_option maxRecDepth 100000 in
set_option maxHeartbeats 4000000 in
theorem kjK_100_0 : (kjT_100.take 40).all (mv_rowB kjW_100 kjCl kjKd kjP kjStn kjM_100) = true := by decide +kernel
set_option maxRecDepth 100000 in
set_option maxHeartbeats 4000000 in
theorem kjK_100_40 : ((kjT_100.drop 40).take 40).all (mv_rowB kjW_100 kjCl kjKd kjP kjStn kjM_100) = true := by decide +kernel
set_option maxRecDepth 100000 in
set_option maxHeartbeats 4000000 in
theorem kjK_100_80 : (kjT_100.drop 80).all (mv_rowB kjW_100 kjCl kjKd kjP kjStn kjM_100) = true := by decide +kernel
set_option maxRecDepth 100000 in
set_option maxHeartbeats 4000000 in
theorem kjK_100 : mv_mkB kjW_100 kjCl kjKd kjP kjStn kjM_100 = true := mv_mkB_of kjH_100 (mv_all_split (l := kjT_100) 40 kjK_100_0 (mv_all_split (l := (kjT_100.drop 40)) 40 kjK_100_40 (show ((kjT_100.drop 40).drop 40).all _ = true by rw [List.drop_drop]; exact kjK_100_80)))
def kjW_101 : List Jvm.Cond := [(Jvm.Cond.code ({ cls := "KindJudgeModel", name := "thrown", desc := "()I" } : Jvm.MethodName) prog_11_method_2_code (1 : Nat) (Option.some Jvm.ClassFile.FieldType.int)), (Jvm.Cond.initialized "KindJudgeModel"), (Jvm.Cond.fieldLink "KindJudgeModel" (74 : Nat) "KindJudgeModel" "thrown" "I")]
set_option maxRecDepth 100000 in
set_option maxHeartbeats 4000000 in
theorem kjS_101 : ∀ w ∈ kjW_101, w ∈ lw_tbl := mv_sub_of [945, 74, 830] (by decide +kernel)
set_option maxRecDepth 100000 in
set_option maxHeartbeats 4000000 in
theorem kjK_101 : mv_mkB kjW_101 kjCl kjKd kjP kjStn kjM_101 = true := by decide +kernel
def kjW_102 : List Jvm.Cond := [(Jvm.Cond.code ({ cls := "KindJudgeModel", name := "raise", desc := "(I)I" } : Jvm.MethodName) prog_11_method_3_code (2 : Nat) (Option.some Jvm.ClassFile.FieldType.int)), (Jvm.Cond.initialized "KindJudgeModel"), (Jvm.Cond.fieldLink "KindJudgeModel" (74 : Nat) "KindJudgeModel" "thrown" "I")]
set_option maxRecDepth 100000 in
set_option maxHeartbeats 4000000 in
theorem kjS_102 : ∀ w ∈ kjW_102, w ∈ lw_tbl := mv_sub_of [1087, 74, 830] (by decide +kernel)
set_option maxRecDepth 100000 in
set_option maxHeartbeats 4000000 in
theorem kjK_102 : mv_mkB kjW_102 kjCl kjKd kjP kjStn kjM_102 = true := by decide +kernel
def kjW_103 : List Jvm.Cond := [(Jvm.Cond.code ({ cls := "KindJudgeModel", name := "within", desc := "(III)Z" } : Jvm.MethodName) prog_11_method_4_code (3 : Nat) (Option.some Jvm.ClassFile.FieldType.boolean)), (Jvm.Cond.initialized "KindJudgeModel")]
set_option maxRecDepth 100000 in
set_option maxHeartbeats 4000000 in
theorem kjS_103 : ∀ w ∈ kjW_103, w ∈ lw_tbl := mv_sub_of [969, 74] (by decide +kernel)
set_option maxRecDepth 100000 in
set_option maxHeartbeats 4000000 in
theorem kjK_103 : mv_mkB kjW_103 kjCl kjKd kjP kjStn kjM_103 = true := by decide +kernel
def kjW_104 : List Jvm.Cond := [(Jvm.Cond.code ({ cls := "KindJudgeModel", name := "put", desc := "(JI)Z" } : Jvm.MethodName) prog_11_method_5_code (5 : Nat) (Option.some Jvm.ClassFile.FieldType.boolean)), (Jvm.Cond.initialized "KindJudgeModel"), (Jvm.Cond.fieldLink "KindJudgeModel" (74 : Nat) "KindJudgeModel" "thrown" "I"), (Jvm.Cond.fieldLink "KindJudgeModel" (78 : Nat) "KindJudgeModel" "together" "I"), (Jvm.Cond.fieldLink "KindJudgeModel" (7 : Nat) "KindJudgeModel" "bytes" "[I"), (Jvm.Cond.constantLong "KindJudgeModel" (81 : Nat) (255 : Int64))]
set_option maxRecDepth 100000 in
set_option maxHeartbeats 4000000 in
theorem kjS_104 : ∀ w ∈ kjW_104, w ∈ lw_tbl := mv_sub_of [949, 74, 830, 832, 833, 950] (by decide +kernel)
set_option maxRecDepth 100000 in
set_option maxHeartbeats 4000000 in
theorem kjK_104 : mv_mkB kjW_104 kjCl kjKd kjP kjStn kjM_104 = true := by decide +kernel
