set_option maxRecDepth 100000 in
set_option maxHeartbeats 4000000 in
theorem kjK_100_80 : (kjT_100.drop 80).all (mv_rowB kjW_100 kjCl kjKd kjP kjStn kjM_100) = true := by decide +kernel
set_option maxRecDepth 100000 in
set_option maxHeartbeats 4000000 in
theorem kjK_100 : mv_mkB kjW_100 kjCl kjKd kjP kjStn kjM_100 = true := mv_mkB_of kjH_100 (mv_all_split (l := kjT_100) 40 kjK_100_0 (mv_all_split (l := (kjT_100.drop 40)) 40 kjK_100_40 (show ((kjT_100.drop 40).drop 40).all _ = true by rw [List.drop_drop]; exact kjK_100_80)))
def kjW_101 : List Jvm.Cond := [(Jvm.Cond.code ({ cls := "KindJudgeModel", name := "thrown", desc := "()I" } : Jvm.MethodName) prog_11_method_2_code (1 : Nat) (Option.some Jvm.ClassFile.FieldType.int)), (Jvm.Cond.initialized "KindJudgeModel"), (Jvm.Cond.fieldLink "KindJudgeModel" (74 : Nat) "KindJudgeModel" "thrown" "I")]
set_option maxRecDepth 100000 in
set_option maxHeartbeats 4000000 in
theorem kjS_101 : ∀ w ∈ kjW_101, w ∈ lw_tbl := mv_sub_of [945, 74, 830] (by decide +kernel)
set_option maxRecDepth 100000 in
set_option maxHeartbeats 4000000 in
theorem kjK_101 : mv_mkB kjW_101 kjCl kjKd kjP kjStn kjM_101 = true := by decide +kernel
def kjW_102 : List Jvm.Cond := [(Jvm.Cond.code ({ cls := "KindJudgeModel", name := "raise", desc := "(I)I" } : Jvm.MethodName) prog_11_method_3_code (2 : Nat) (Option.some Jvm.ClassFile.FieldType.int)), (Jvm.Cond.initialized "KindJudgeModel"), (Jvm.Cond.fieldLink "KindJudgeModel" (74 : Nat) "KindJudgeModel" "thrown" "I")]
set_option maxRecDepth 100000 in
set_option maxHeartbeats 4000000 in
theorem kjS_102 : ∀ w ∈ kjW_102, w ∈ lw_tbl := mv_sub_of [1087, 74, 830] (by decide +kernel)
set_option maxRecDepth 100000 in
set_option maxHeartbeats 4000000 in
theorem kjK_102 : mv_mkB kjW_102 kjCl kjKd kjP kjStn kjM_102 = true := by decide +kernel
def kjW_104 : List Jvm.Cond := [(Jvm.Cond.code ({ cls := "KindJudgeModel", name := "put", desc := "(JI)Z" } : Jvm.MethodName) prog_11_method_5_code (5 : Nat) (Option.some Jvm.ClassFile.FieldType.boolean)), (Jvm.Cond.initialized "KindJudgeModel"), (Jvm.Cond.fieldLink "KindJudgeModel" (74 : Nat) "KindJudgeModel" "thrown" "I"), (Jvm.Cond.fieldLink "KindJudgeModel" (78 : Nat) "KindJudgeModel" "together" "I"), (Jvm.Cond.fieldLink "KindJudgeModel" (7 : Nat) "KindJudgeModel" "bytes" "[I"), (Jvm.Cond.constantLong "KindJudgeModel" (81 : Nat) (255 : Int64))]
set_option maxRecDepth 100000 in
set_option maxHeartbeats 4000000 in
theorem kjS_104 : ∀ w ∈ kjW_104, w ∈ lw_tbl := mv_sub_of [949, 74, 830, 832, 833, 950] (by decide +kernel)
set_option maxRecDepth 100000 in
set_option maxHeartbeats 4000000 in
theorem kjK_104 : mv_mkB kjW_104 kjCl kjKd kjP kjStn kjM_104 = true := by decide +kernel
def kjW_105 : List Jvm.Cond := [(Jvm.Cond.code ({ cls := "KindJudgeModel", name := "next", desc := "(II)I" } : Jvm.MethodName) prog_11_method_6_code (3 : Nat) (Option.some Jvm.ClassFile.FieldType.int)), (Jvm.Cond.initialized "KindJudgeModel"), (Jvm.Cond.fieldLink "KindJudgeModel" (83 : Nat) "KindJudgeModel" "bad" "Z"), (Jvm.Cond.fieldLink "KindJudgeModel" (87 : Nat) "KindJudgeModel" "at" "I"), (Jvm.Cond.fieldLink "KindJudgeModel" (90 : Nat) "KindJudgeModel" "readLong" "I")]
set_option maxRecDepth 100000 in
set_option maxHeartbeats 4000000 in
theorem kjS_105 : ∀ w ∈ kjW_105, w ∈ lw_tbl := mv_sub_of [966, 74, 866, 865, 835] (by decide +kernel)
set_option maxRecDepth 100000 in
set_option maxHeartbeats 4000000 in
theorem kjK_105 : mv_mkB kjW_105 kjCl kjKd kjP kjStn kjM_105 = true := by decide +kernel
def kjW_114 : List Jvm.Cond := [(Jvm.Cond.code ({ cls := "KindJudgeModel", name := "takeApart", desc := "()Z" } : Jvm.MethodName) prog_11_method_15_code (2 : Nat) (Option.some Jvm.ClassFile.FieldType.boolean)), (Jvm.Cond.initialized "KindJudgeModel"), (Jvm.Cond.fieldLink "KindJudgeModel" (87 : Nat) "KindJudgeModel" "at" "I"), (Jvm.Cond.fieldLink "KindJudgeModel" (83 : Nat) "KindJudgeModel" "bad" "Z"), (Jvm.Cond.fieldLink "KindJudgeModel" (97 : Nat) "KindJudgeModel" "classes" "I"), (Jvm.Cond.methodLink "KindJudgeModel" (100 : Nat) ({ cls := "KindJudgeModel", name := "next", desc := "(II)I" } : Jvm.MethodName)), (Jvm.Cond.instanceMethod ({ cls := "KindJudgeModel", name := "next", desc := "(II)I" } : Jvm.MethodName)), (Jvm.Cond.selects "KindJudgeModel" ({ cls := "KindJudgeModel", name := "next", desc := "(II)I" } : Jvm.MethodName) ({ cls := "KindJudgeModel", name := "next", desc := "(II)I" } : Jvm.MethodName)), (Jvm.Cond.fieldLink "KindJudgeModel" (124 : Nat) "KindJudgeModel" "selectors" "I"), (Jvm.Cond.fieldLink "KindJudgeModel" (114 : Nat) "KindJudgeModel" "methods" "I")]
set_option maxRecDepth 100000 in
set_option maxHeartbeats 4000000 in
theorem kjS_114 : ∀ w ∈ kjW_114, w ∈ lw_tbl := mv_sub_of [962, 74, 865, 866, 842, 963, 965, 29, 846, 850] (by decide +kernel)
set_option maxRecDepth 100000 in
set_option maxHeartbeats 4000000 in
theorem kjH_114 : mv_hdB kjW_114 kjM_114 = true := by decide +kernel
set_option maxRecDepth 100000 in
set_option maxHeartbeats 4000000 in
theorem kjK_114_0 : (kjT_114.take 40).all (mv_rowB kjW_114 kjCl kjKd kjP kjStn kjM_114) = true := by decide +kernel
set_option maxRecDepth 100000 in
set_option maxHeartbeats 4000000 in
theorem kjK_114_40 : (kjT_114.drop 40).all (mv_rowB kjW_114 kjCl kjKd kjP kjStn kjM_114) = true := by decide +kernel
set_option maxRecDepth 100000 in
set_option maxHeartbeats 4000000 in
theorem kjK_114 : mv_mkB kjW_114 kjCl kjKd kjP kjStn kjM_114 = true := mv_mkB_of kjH_114 (mv_all_split (l := kjT_114) 40 kjK_114_0 kjK_114_40)
def kjW_121 : List Jvm.Cond := [(Jvm.Cond.code ({ cls := "KindJudgeModel", name := "findFault", desc := "(III)Z" } : Jvm.MethodName) prog_11_method_22_code (4 : Nat) (Option.some Jvm.ClassFile.FieldType.boolean)), (Jvm.Cond.initialized "KindJudgeModel"), (Jvm.Cond.fieldLink "KindJudgeModel" (150 : Nat) "KindJudgeModel" "fault" "I"), (Jvm.Cond.fieldLink "KindJudgeModel" (153 : Nat) "KindJudgeModel" "faultMethod" "I"), (Jvm.Cond.fieldLink "KindJudgeModel" (156 : Nat) "KindJudgeModel" "faultPlace" "I")]
set_option maxRecDepth 100000 in
set_option maxHeartbeats 4000000 in
theorem kjS_121 : ∀ w ∈ kjW_121, w ∈ lw_tbl := mv_sub_of [1005, 74, 839, 841, 840] (by decide +kernel)
set_option maxRecDepth 100000 in
set_option maxHeartbeats 4000000 in
theorem kjK_121 : mv_mkB kjW_121 kjCl kjKd kjP kjStn kjM_121 = true := by decide +kernel
def kjW_122 : List Jvm.Cond := [(Jvm.Cond.code ({ cls := "KindJudgeModel", name := "isFine", desc := "()Z" } : Jvm.MethodName) prog_11_method_23_code (3 : Nat) (Option.some Jvm.ClassFile.FieldType.boolean)), (Jvm.Cond.initialized "KindJudgeModel"), (Jvm.Cond.methodLink "KindJudgeModel" (159 : Nat) ({ cls := "KindJudgeModel", name := "takeApart", desc := "()Z" } : Jvm.MethodName)), (Jvm.Cond.instanceMethod ({ cls := "KindJudgeModel", name := "takeApart", desc := "()Z" } : Jvm.MethodName)), (Jvm.Cond.selects "KindJudgeModel" ({ cls := "KindJudgeModel", name := "takeApart", desc := "()Z" } : Jvm.MethodName) ({ cls := "KindJudgeModel", name := "takeApart", desc := "()Z" } : Jvm.MethodName)), (Jvm.Cond.fieldLink "KindJudgeModel" (87 : Nat) "KindJudgeModel" "at" "I"), (Jvm.Cond.methodLink "KindJudgeModel" (163 : Nat) ({ cls := "KindJudgeModel", name := "findFault", desc := "(III)Z" } : Jvm.MethodName)), (Jvm.Cond.instanceMethod ({ cls := "KindJudgeModel", name := "findFault", desc := "(III)Z" } : Jvm.MethodName)), (Jvm.Cond.selects "KindJudgeModel" ({ cls := "KindJudgeModel", name := "findFault", desc := "(III)Z" } : Jvm.MethodName) ({ cls := "KindJudgeModel", name := "findFault", desc := "(III)Z" } : Jvm.MethodName))]
set_option maxRecDepth 100000 in
set_option maxHeartbeats 4000000 in
theorem kjS_122 : ∀ w ∈ kjW_122, w ∈ lw_tbl := mv_sub_of [958, 74, 959, 961, 28, 865, 1002, 1004, 38] (by decide +kernel)
set_option maxRecDepth 100000 in
set_option maxHeartbeats 4000000 in
theorem kjK_122 : mv_mkB kjW_122 kjCl kjKd kjP kjStn kjM_122 = true := by decide +kernel
def kjW_123 : List Jvm.Cond := [(Jvm.Cond.code ({ cls := "KindJudgeModel", name := "load", desc := "()I" } : Jvm.MethodName) prog_11_method_24_code (3 : Nat) (Option.some Jvm.ClassFile.FieldType.int)), (Jvm.Cond.initialized "KindJudgeModel"), (Jvm.Cond.fieldLink "KindJudgeModel" (78 : Nat) "KindJudgeModel" "together" "I"), (Jvm.Cond.fieldLink "KindJudgeModel" (90 : Nat) "KindJudgeModel" "readLong" "I"), (Jvm.Cond.methodLink "KindJudgeModel" (178 : Nat) ({ cls := "KindJudgeModel", name := "isFine", desc := "()Z" } : Jvm.MethodName)), (Jvm.Cond.instanceMethod ({ cls := "KindJudgeModel", name := "isFine", desc := "()Z" } : Jvm.MethodName)), (Jvm.Cond.selects "KindJudgeModel" ({ cls := "KindJudgeModel", name := "isFine", desc := "()Z" } : Jvm.MethodName) ({ cls := "KindJudgeModel", name := "isFine", desc := "()Z" } : Jvm.MethodName)), (Jvm.Cond.fieldLink "KindJudgeModel" (184 : Nat) "KindJudgeModel" "isFile" "Z"), (Jvm.Cond.methodLink "KindJudgeModel" (193 : Nat) ({ cls := "KindJudgeModel", name := "raise", desc := "(I)I" } : Jvm.MethodName)), (Jvm.Cond.instanceMethod ({ cls := "KindJudgeModel", name := "raise", desc := "(I)I" } : Jvm.MethodName)), (Jvm.Cond.selects "KindJudgeModel" ({ cls := "KindJudgeModel", name := "raise", desc := "(I)I" } : Jvm.MethodName) ({ cls := "KindJudgeModel", name := "raise", desc := "(I)I" } : Jvm.MethodName))]
set_option maxRecDepth 100000 in
set_option maxHeartbeats 4000000 in
theorem kjS_123 : ∀ w ∈ kjW_123, w ∈ lw_tbl := mv_sub_of [954, 74, 832, 835, 955, 957, 27, 838, 1084, 1086, 57] (by decide +kernel)
set_option maxRecDepth 100000 in
set_option maxHeartbeats 4000000 in
theorem kjK_123 : mv_mkB kjW_123 kjCl kjKd kjP kjStn kjM_123 = true := by decide +kernel
def kjW_125 : List Jvm.Cond := [(Jvm.Cond.code ({ cls := "KindJudgeModel", name := "fault", desc := "(I)I" } : Jvm.MethodName) prog_11_method_26_code (2 : Nat) (Option.some Jvm.ClassFile.FieldType.int)), (Jvm.Cond.initialized "KindJudgeModel"), (Jvm.Cond.fieldLink "KindJudgeModel" (74 : Nat) "KindJudgeModel" "thrown" "I"), (Jvm.Cond.fieldLink "KindJudgeModel" (150 : Nat) "KindJudgeModel" "fault" "I"), (Jvm.Cond.fieldLink "KindJudgeModel" (156 : Nat) "KindJudgeModel" "faultPlace" "I"), (Jvm.Cond.fieldLink "KindJudgeModel" (153 : Nat) "KindJudgeModel" "faultMethod" "I")]
set_option maxRecDepth 100000 in
set_option maxHeartbeats 4000000 in
theorem kjS_125 : ∀ w ∈ kjW_125, w ∈ lw_tbl := mv_sub_of [1091, 74, 830, 839, 840, 841] (by decide +kernel)
set_option maxRecDepth 100000 in
set_option maxHeartbeats 4000000 in
theorem kjK_125 : mv_mkB kjW_125 kjCl kjKd kjP kjStn kjM_125 = true := by decide +kernel
def kjW_139 : List Jvm.Cond := [(Jvm.Cond.code ({ cls := "KindJudgeModel", name := "kind", desc := "(III)I" } : Jvm.MethodName) prog_11_method_40_code (5 : Nat) (Option.some Jvm.ClassFile.FieldType.int)), (Jvm.Cond.initialized "KindJudgeModel"), (Jvm.Cond.fieldLink "KindJudgeModel" (74 : Nat) "KindJudgeModel" "thrown" "I"), (Jvm.Cond.fieldLink "KindJudgeModel" (184 : Nat) "KindJudgeModel" "isFile" "Z")]
set_option maxRecDepth 100000 in
set_option maxHeartbeats 4000000 in
theorem kjS_139 : ∀ w ∈ kjW_139, w ∈ lw_tbl := mv_sub_of [1095, 74, 830, 838] (by decide +kernel)
set_option maxRecDepth 100000 in
set_option maxHeartbeats 4000000 in
theorem kjK_139 : mv_mkB kjW_139 kjCl kjKd kjP kjStn kjM_139 = true := by decide +kernel
def kjW_140 : List Jvm.Cond := [(Jvm.Cond.code ({ cls := "KindJudgeModel", name := "isMethod", desc := "(I)Z" } : Jvm.MethodName) prog_11_method_41_code (2 : Nat) (Option.some Jvm.ClassFile.FieldType.boolean)), (Jvm.Cond.initialized "KindJudgeModel"), (Jvm.Cond.fieldLink "KindJudgeModel" (184 : Nat) "KindJudgeModel" "isFile" "Z")]
set_option maxRecDepth 100000 in
set_option maxHeartbeats 4000000 in
theorem kjS_140 : ∀ w ∈ kjW_140, w ∈ lw_tbl := mv_sub_of [1107, 74, 838] (by decide +kernel)
set_option maxRecDepth 100000 in
set_option maxHeartbeats 4000000 in
theorem kjK_140 : mv_mkB kjW_140 kjCl kjKd kjP kjStn kjM_140 = true := by decide +kernel
def kjW_141 : List Jvm.Cond := [(Jvm.Cond.code ({ cls := "KindJudgeModel", name := "isBegun", desc := "(II)Z" } : Jvm.MethodName) prog_11_method_42_code (3 : Nat) (Option.some Jvm.ClassFile.FieldType.boolean)), (Jvm.Cond.initialized "KindJudgeModel"), (Jvm.Cond.methodLink "KindJudgeModel" (238 : Nat) ({ cls := "KindJudgeModel", name := "isMethod", desc := "(I)Z" } : Jvm.MethodName)), (Jvm.Cond.instanceMethod ({ cls := "KindJudgeModel", name := "isMethod", desc := "(I)Z" } : Jvm.MethodName)), (Jvm.Cond.selects "KindJudgeModel" ({ cls := "KindJudgeModel", name := "isMethod", desc := "(I)Z" } : Jvm.MethodName) ({ cls := "KindJudgeModel", name := "isMethod", desc := "(I)Z" } : Jvm.MethodName))]
set_option maxRecDepth 100000 in
set_option maxHeartbeats 4000000 in
theorem kjS_141 : ∀ w ∈ kjW_141, w ∈ lw_tbl := mv_sub_of [1103, 74, 1104, 1106, 59] (by decide +kernel)
set_option maxRecDepth 100000 in
set_option maxHeartbeats 4000000 in
theorem kjK_141 : mv_mkB kjW_141 kjCl kjKd kjP kjStn kjM_141 = true := by decide +kernel
def kjW_144 : List Jvm.Cond := [(Jvm.Cond.code ({ cls := "KindJudgeModel", name := "look", desc := "(III)I" } : Jvm.MethodName) prog_11_method_45_code (4 : Nat) (Option.some Jvm.ClassFile.FieldType.int)), (Jvm.Cond.initialized "KindJudgeModel"), (Jvm.Cond.methodLink "KindJudgeModel" (241 : Nat) ({ cls := "KindJudgeModel", name := "isBegun", desc := "(II)Z" } : Jvm.MethodName)), (Jvm.Cond.instanceMethod ({ cls := "KindJudgeModel", name := "isBegun", desc := "(II)Z" } : Jvm.MethodName)), (Jvm.Cond.selects "KindJudgeModel" ({ cls := "KindJudgeModel", name := "isBegun", desc := "(II)Z" } : Jvm.MethodName) ({ cls := "KindJudgeModel", name := "isBegun", desc := "(II)Z" } : Jvm.MethodName)), (Jvm.Cond.fieldLink "KindJudgeModel" (74 : Nat) "KindJudgeModel" "thrown" "I")]
set_option maxRecDepth 100000 in
set_option maxHeartbeats 4000000 in
theorem kjS_144 : ∀ w ∈ kjW_144, w ∈ lw_tbl := mv_sub_of [1099, 74, 1100, 1102, 58, 830] (by decide +kernel)
set_option maxRecDepth 100000 in
set_option maxHeartbeats 4000000 in
theorem kjK_144 : mv_mkB kjW_144 kjCl kjKd kjP kjStn kjM_144 = true := by decide +kernel
