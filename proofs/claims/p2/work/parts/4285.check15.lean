set_option maxRecDepth 100000 in
set_option maxHeartbeats 4000000 in
theorem kjK_100_80 : (kjT_100.drop 80).all (mv_rowB kjW_100 kjCl kjKd kjP kjStn kjM_100) = true := by decide +kernel
set_option maxRecDepth 100000 in
set_option maxHeartbeats 4000000 in
theorem kjK_100 : mv_mkB kjW_100 kjCl kjKd kjP kjStn kjM_100 = true := mv_mkB_of kjH_100 (mv_all_split (l := kjT_100) 20 kjK_100_0 (mv_all_split (l := (kjT_100.drop 20)) 20 kjK_100_20 (show ((kjT_100.drop 20).drop 20).all _ = true by rw [List.drop_drop]; exact (mv_all_split (l := (kjT_100.drop 40)) 20 kjK_100_40 (show ((kjT_100.drop 40).drop 20).all _ = true by rw [List.drop_drop]; exact (mv_all_split (l := (kjT_100.drop 60)) 20 kjK_100_60 (show ((kjT_100.drop 60).drop 20).all _ = true by rw [List.drop_drop]; exact kjK_100_80)))))))
def kjW_101 : List Jvm.Cond := [(Jvm.Cond.code ({ cls := "KindJudgeModel", name := "raise", desc := "(I)I" } : Jvm.MethodName) prog_11_method_3_code (2 : Nat) (Option.some Jvm.ClassFile.FieldType.int)), (Jvm.Cond.initialized "KindJudgeModel"), (Jvm.Cond.fieldLink "KindJudgeModel" (74 : Nat) "KindJudgeModel" "thrown" "I")]
set_option maxRecDepth 100000 in
set_option maxHeartbeats 4000000 in
theorem kjS_101 : ∀ w ∈ kjW_101, w ∈ lw_tbl := mv_sub_of [1083, 74, 830] (by decide +kernel)
set_option maxRecDepth 100000 in
set_option maxHeartbeats 4000000 in
theorem kjK_101 : mv_mkB kjW_101 kjCl kjKd kjP kjStn kjM_101 = true := by decide +kernel
def kjW_102 : List Jvm.Cond := [(Jvm.Cond.code ({ cls := "KindJudgeModel", name := "within", desc := "(III)Z" } : Jvm.MethodName) prog_11_method_4_code (3 : Nat) (Option.some Jvm.ClassFile.FieldType.boolean)), (Jvm.Cond.initialized "KindJudgeModel")]
set_option maxRecDepth 100000 in
set_option maxHeartbeats 4000000 in
theorem kjS_102 : ∀ w ∈ kjW_102, w ∈ lw_tbl := mv_sub_of [965, 74] (by decide +kernel)
set_option maxRecDepth 100000 in
set_option maxHeartbeats 4000000 in
theorem kjK_102 : mv_mkB kjW_102 kjCl kjKd kjP kjStn kjM_102 = true := by decide +kernel
def kjW_103 : List Jvm.Cond := [(Jvm.Cond.code ({ cls := "KindJudgeModel", name := "put", desc := "(JI)Z" } : Jvm.MethodName) prog_11_method_5_code (5 : Nat) (Option.some Jvm.ClassFile.FieldType.boolean)), (Jvm.Cond.initialized "KindJudgeModel"), (Jvm.Cond.fieldLink "KindJudgeModel" (74 : Nat) "KindJudgeModel" "thrown" "I"), (Jvm.Cond.fieldLink "KindJudgeModel" (78 : Nat) "KindJudgeModel" "together" "I"), (Jvm.Cond.fieldLink "KindJudgeModel" (7 : Nat) "KindJudgeModel" "bytes" "[I"), (Jvm.Cond.constantLong "KindJudgeModel" (81 : Nat) (255 : Int64))]
set_option maxRecDepth 100000 in
set_option maxHeartbeats 4000000 in
theorem kjS_103 : ∀ w ∈ kjW_103, w ∈ lw_tbl := mv_sub_of [945, 74, 830, 832, 833, 946] (by decide +kernel)
set_option maxRecDepth 100000 in
set_option maxHeartbeats 4000000 in
theorem kjK_103 : mv_mkB kjW_103 kjCl kjKd kjP kjStn kjM_103 = true := by decide +kernel
def kjW_104 : List Jvm.Cond := [(Jvm.Cond.code ({ cls := "KindJudgeModel", name := "next", desc := "(II)I" } : Jvm.MethodName) prog_11_method_6_code (3 : Nat) (Option.some Jvm.ClassFile.FieldType.int)), (Jvm.Cond.initialized "KindJudgeModel"), (Jvm.Cond.fieldLink "KindJudgeModel" (83 : Nat) "KindJudgeModel" "bad" "Z"), (Jvm.Cond.fieldLink "KindJudgeModel" (87 : Nat) "KindJudgeModel" "at" "I"), (Jvm.Cond.fieldLink "KindJudgeModel" (90 : Nat) "KindJudgeModel" "readLong" "I"), (Jvm.Cond.fieldLink "KindJudgeModel" (13 : Nat) "KindJudgeModel" "read" "[I"), (Jvm.Cond.methodLink "KindJudgeModel" (93 : Nat) ({ cls := "KindJudgeModel", name := "within", desc := "(III)Z" } : Jvm.MethodName)), (Jvm.Cond.static ({ cls := "KindJudgeModel", name := "within", desc := "(III)Z" } : Jvm.MethodName))]
set_option maxRecDepth 100000 in
set_option maxHeartbeats 4000000 in
theorem kjS_104 : ∀ w ∈ kjW_104, w ∈ lw_tbl := mv_sub_of [962, 74, 866, 865, 835, 834, 963, 964] (by decide +kernel)
set_option maxRecDepth 100000 in
set_option maxHeartbeats 4000000 in
theorem kjK_104 : mv_mkB kjW_104 kjCl kjKd kjP kjStn kjM_104 = true := by decide +kernel
def kjW_105 : List Jvm.Cond := [(Jvm.Cond.code ({ cls := "KindJudgeModel", name := "readType", desc := "(Z)I" } : Jvm.MethodName) prog_11_method_7_code (4 : Nat) (Option.some Jvm.ClassFile.FieldType.int)), (Jvm.Cond.initialized "KindJudgeModel"), (Jvm.Cond.fieldLink "KindJudgeModel" (83 : Nat) "KindJudgeModel" "bad" "Z"), (Jvm.Cond.fieldLink "KindJudgeModel" (87 : Nat) "KindJudgeModel" "at" "I"), (Jvm.Cond.fieldLink "KindJudgeModel" (90 : Nat) "KindJudgeModel" "readLong" "I"), (Jvm.Cond.fieldLink "KindJudgeModel" (13 : Nat) "KindJudgeModel" "read" "[I"), (Jvm.Cond.fieldLink "KindJudgeModel" (97 : Nat) "KindJudgeModel" "classes" "I")]
set_option maxRecDepth 100000 in
set_option maxHeartbeats 4000000 in
theorem kjS_105 : ∀ w ∈ kjW_105, w ∈ lw_tbl := mv_sub_of [973, 74, 866, 865, 835, 834, 842] (by decide +kernel)
set_option maxRecDepth 100000 in
set_option maxHeartbeats 4000000 in
theorem kjK_105 : mv_mkB kjW_105 kjCl kjKd kjP kjStn kjM_105 = true := by decide +kernel
def kjW_106 : List Jvm.Cond := [(Jvm.Cond.code ({ cls := "KindJudgeModel", name := "readClass", desc := "(I)V" } : Jvm.MethodName) prog_11_method_8_code (7 : Nat) (Option.none : Option Jvm.ClassFile.FieldType)), (Jvm.Cond.initialized "KindJudgeModel"), (Jvm.Cond.methodLink "KindJudgeModel" (100 : Nat) ({ cls := "KindJudgeModel", name := "next", desc := "(II)I" } : Jvm.MethodName)), (Jvm.Cond.instanceMethod ({ cls := "KindJudgeModel", name := "next", desc := "(II)I" } : Jvm.MethodName)), (Jvm.Cond.selects "KindJudgeModel" ({ cls := "KindJudgeModel", name := "next", desc := "(II)I" } : Jvm.MethodName) ({ cls := "KindJudgeModel", name := "next", desc := "(II)I" } : Jvm.MethodName)), (Jvm.Cond.fieldLink "KindJudgeModel" (19 : Nat) "KindJudgeModel" "above" "[I"), (Jvm.Cond.fieldLink "KindJudgeModel" (22 : Nat) "KindJudgeModel" "fields" "[I"), (Jvm.Cond.fieldLink "KindJudgeModel" (25 : Nat) "KindJudgeModel" "fieldType" "[I"), (Jvm.Cond.methodLink "KindJudgeModel" (103 : Nat) ({ cls := "KindJudgeModel", name := "readType", desc := "(Z)I" } : Jvm.MethodName)), (Jvm.Cond.instanceMethod ({ cls := "KindJudgeModel", name := "readType", desc := "(Z)I" } : Jvm.MethodName)), (Jvm.Cond.selects "KindJudgeModel" ({ cls := "KindJudgeModel", name := "readType", desc := "(Z)I" } : Jvm.MethodName) ({ cls := "KindJudgeModel", name := "readType", desc := "(Z)I" } : Jvm.MethodName))]
set_option maxRecDepth 100000 in
set_option maxHeartbeats 4000000 in
theorem kjS_106 : ∀ w ∈ kjW_106, w ∈ lw_tbl := mv_sub_of [969, 74, 959, 961, 29, 843, 844, 845, 970, 972, 31] (by decide +kernel)
set_option maxRecDepth 100000 in
set_option maxHeartbeats 4000000 in
theorem kjH_106 : mv_hdB kjW_106 kjM_106 = true := by decide +kernel
set_option maxRecDepth 100000 in
set_option maxHeartbeats 4000000 in
theorem kjK_106_0 : (kjT_106.take 20).all (mv_rowB kjW_106 kjCl kjKd kjP kjStn kjM_106) = true := by decide +kernel
set_option maxRecDepth 100000 in
set_option maxHeartbeats 4000000 in
theorem kjK_106_20 : ((kjT_106.drop 20).take 20).all (mv_rowB kjW_106 kjCl kjKd kjP kjStn kjM_106) = true := by decide +kernel
set_option maxRecDepth 100000 in
set_option maxHeartbeats 4000000 in
theorem kjK_106_40 : ((kjT_106.drop 40).take 20).all (mv_rowB kjW_106 kjCl kjKd kjP kjStn kjM_106) = true := by decide +kernel
set_option maxRecDepth 100000 in
set_option maxHeartbeats 4000000 in
theorem kjK_106_60 : ((kjT_106.drop 60).take 20).all (mv_rowB kjW_106 kjCl kjKd kjP kjStn kjM_106) = true := by decide +kernel
