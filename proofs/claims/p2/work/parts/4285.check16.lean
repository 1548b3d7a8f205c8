set_option maxRecDepth 100000 in
set_option maxHeartbeats 4000000 in
theorem kjK_106_80 : (kjT_106.drop 80).all (mv_rowB kjW_106 kjCl kjKd kjP kjStn kjM_106) = true := by decide +kernel
set_option maxRecDepth 100000 in
set_option maxHeartbeats 4000000 in
theorem kjK_106 : mv_mkB kjW_106 kjCl kjKd kjP kjStn kjM_106 = true := mv_mkB_of kjH_106 (mv_all_split (l := kjT_106) 20 kjK_106_0 (mv_all_split (l := (kjT_106.drop 20)) 20 kjK_106_20 (show ((kjT_106.drop 20).drop 20).all _ = true by rw [List.drop_drop]; exact (mv_all_split (l := (kjT_106.drop 40)) 20 kjK_106_40 (show ((kjT_106.drop 40).drop 20).all _ = true by rw [List.drop_drop]; exact (mv_all_split (l := (kjT_106.drop 60)) 20 kjK_106_60 (show ((kjT_106.drop 60).drop 20).all _ = true by rw [List.drop_drop]; exact kjK_106_80)))))))
def kjW_107 : List Jvm.Cond := [(Jvm.Cond.code ({ cls := "KindJudgeModel", name := "readSelector", desc := "(I)V" } : Jvm.MethodName) prog_11_method_9_code (3 : Nat) (Option.none : Option Jvm.ClassFile.FieldType)), (Jvm.Cond.initialized "KindJudgeModel"), (Jvm.Cond.fieldLink "KindJudgeModel" (28 : Nat) "KindJudgeModel" "selParams" "[I"), (Jvm.Cond.methodLink "KindJudgeModel" (100 : Nat) ({ cls := "KindJudgeModel", name := "next", desc := "(II)I" } : Jvm.MethodName)), (Jvm.Cond.instanceMethod ({ cls := "KindJudgeModel", name := "next", desc := "(II)I" } : Jvm.MethodName)), (Jvm.Cond.selects "KindJudgeModel" ({ cls := "KindJudgeModel", name := "next", desc := "(II)I" } : Jvm.MethodName) ({ cls := "KindJudgeModel", name := "next", desc := "(II)I" } : Jvm.MethodName)), (Jvm.Cond.fieldLink "KindJudgeModel" (31 : Nat) "KindJudgeModel" "selType" "[I"), (Jvm.Cond.methodLink "KindJudgeModel" (103 : Nat) ({ cls := "KindJudgeModel", name := "readType", desc := "(Z)I" } : Jvm.MethodName)), (Jvm.Cond.instanceMethod ({ cls := "KindJudgeModel", name := "readType", desc := "(Z)I" } : Jvm.MethodName)), (Jvm.Cond.selects "KindJudgeModel" ({ cls := "KindJudgeModel", name := "readType", desc := "(Z)I" } : Jvm.MethodName) ({ cls := "KindJudgeModel", name := "readType", desc := "(Z)I" } : Jvm.MethodName)), (Jvm.Cond.fieldLink "KindJudgeModel" (34 : Nat) "KindJudgeModel" "selReturn" "[I")]
set_option maxRecDepth 100000 in
set_option maxHeartbeats 4000000 in
theorem kjS_107 : ∀ w ∈ kjW_107, w ∈ lw_tbl := mv_sub_of [977, 74, 847, 959, 961, 29, 848, 970, 972, 31, 849] (by decide +kernel)
set_option maxRecDepth 100000 in
set_option maxHeartbeats 4000000 in
theorem kjK_107 : mv_mkB kjW_107 kjCl kjKd kjP kjStn kjM_107 = true := by decide +kernel
def kjW_108 : List Jvm.Cond := [(Jvm.Cond.code ({ cls := "KindJudgeModel", name := "readMethod", desc := "(I)V" } : Jvm.MethodName) prog_11_method_10_code (3 : Nat) (Option.none : Option Jvm.ClassFile.FieldType)), (Jvm.Cond.initialized "KindJudgeModel"), (Jvm.Cond.fieldLink "KindJudgeModel" (37 : Nat) "KindJudgeModel" "params" "[I"), (Jvm.Cond.methodLink "KindJudgeModel" (100 : Nat) ({ cls := "KindJudgeModel", name := "next", desc := "(II)I" } : Jvm.MethodName)), (Jvm.Cond.instanceMethod ({ cls := "KindJudgeModel", name := "next", desc := "(II)I" } : Jvm.MethodName)), (Jvm.Cond.selects "KindJudgeModel" ({ cls := "KindJudgeModel", name := "next", desc := "(II)I" } : Jvm.MethodName) ({ cls := "KindJudgeModel", name := "next", desc := "(II)I" } : Jvm.MethodName)), (Jvm.Cond.fieldLink "KindJudgeModel" (40 : Nat) "KindJudgeModel" "paramType" "[I"), (Jvm.Cond.methodLink "KindJudgeModel" (103 : Nat) ({ cls := "KindJudgeModel", name := "readType", desc := "(Z)I" } : Jvm.MethodName)), (Jvm.Cond.instanceMethod ({ cls := "KindJudgeModel", name := "readType", desc := "(Z)I" } : Jvm.MethodName)), (Jvm.Cond.selects "KindJudgeModel" ({ cls := "KindJudgeModel", name := "readType", desc := "(Z)I" } : Jvm.MethodName) ({ cls := "KindJudgeModel", name := "readType", desc := "(Z)I" } : Jvm.MethodName)), (Jvm.Cond.fieldLink "KindJudgeModel" (43 : Nat) "KindJudgeModel" "returns" "[I"), (Jvm.Cond.fieldLink "KindJudgeModel" (46 : Nat) "KindJudgeModel" "locals" "[I"), (Jvm.Cond.fieldLink "KindJudgeModel" (49 : Nat) "KindJudgeModel" "most" "[I"), (Jvm.Cond.fieldLink "KindJudgeModel" (52 : Nat) "KindJudgeModel" "size" "[I"), (Jvm.Cond.fieldLink "KindJudgeModel" (55 : Nat) "KindJudgeModel" "code" "[I")]
set_option maxRecDepth 100000 in
set_option maxHeartbeats 4000000 in
theorem kjS_108 : ∀ w ∈ kjW_108, w ∈ lw_tbl := mv_sub_of [981, 74, 851, 959, 961, 29, 852, 970, 972, 31, 853, 854, 855, 856, 857] (by decide +kernel)
set_option maxRecDepth 100000 in
set_option maxHeartbeats 4000000 in
theorem kjH_108 : mv_hdB kjW_108 kjM_108 = true := by decide +kernel
set_option maxRecDepth 100000 in
set_option maxHeartbeats 4000000 in
theorem kjK_108_0 : (kjT_108.take 20).all (mv_rowB kjW_108 kjCl kjKd kjP kjStn kjM_108) = true := by decide +kernel
set_option maxRecDepth 100000 in
set_option maxHeartbeats 4000000 in
theorem kjK_108_20 : ((kjT_108.drop 20).take 20).all (mv_rowB kjW_108 kjCl kjKd kjP kjStn kjM_108) = true := by decide +kernel
set_option maxRecDepth 100000 in
set_option maxHeartbeats 4000000 in
theorem kjK_108_40 : ((kjT_108.drop 40).take 20).all (mv_rowB kjW_108 kjCl kjKd kjP kjStn kjM_108) = true := by decide +kernel
set_option maxRecDepth 100000 in
set_option maxHeartbeats 4000000 in
theorem kjK_108_60 : ((kjT_108.drop 60).take 20).all (mv_rowB kjW_108 kjCl kjKd kjP kjStn kjM_108) = true := by decide +kernel
set_option maxRecDepth 100000 in
set_option maxHeartbeats 4000000 in
theorem kjK_108_80 : (kjT_108.drop 80).all (mv_rowB kjW_108 kjCl kjKd kjP kjStn kjM_108) = true := by decide +kernel
set_option maxRecDepth 100000 in
set_option maxHeartbeats 4000000 in
theorem kjK_108 : mv_mkB kjW_108 kjCl kjKd kjP kjStn kjM_108 = true := mv_mkB_of kjH_108 (mv_all_split (l := kjT_108) 20 kjK_108_0 (mv_all_split (l := (kjT_108.drop 20)) 20 kjK_108_20 (show ((kjT_108.drop 20).drop 20).all _ = true by rw [List.drop_drop]; exact (mv_all_split (l := (kjT_108.drop 40)) 20 kjK_108_40 (show ((kjT_108.drop 40).drop 20).all _ = true by rw [List.drop_drop]; exact (mv_all_split (l := (kjT_108.drop 60)) 20 kjK_108_60 (show ((kjT_108.drop 60).drop 20).all _ = true by rw [List.drop_drop]; exact kjK_108_80)))))))
def kjW_109 : List Jvm.Cond := [(Jvm.Cond.code ({ cls := "KindJudgeModel", name := "isBelow", desc := "(II)Z" } : Jvm.MethodName) prog_11_method_11_code (4 : Nat) (Option.some Jvm.ClassFile.FieldType.boolean)), (Jvm.Cond.initialized "KindJudgeModel"), (Jvm.Cond.fieldLink "KindJudgeModel" (19 : Nat) "KindJudgeModel" "above" "[I")]
set_option maxRecDepth 100000 in
set_option maxHeartbeats 4000000 in
theorem kjS_109 : ∀ w ∈ kjW_109, w ∈ lw_tbl := mv_sub_of [997, 74, 843] (by decide +kernel)
set_option maxRecDepth 100000 in
set_option maxHeartbeats 4000000 in
theorem kjK_109 : mv_mkB kjW_109 kjCl kjKd kjP kjStn kjM_109 = true := by decide +kernel
def kjW_110 : List Jvm.Cond := [(Jvm.Cond.code ({ cls := "KindJudgeModel", name := "isOf", desc := "(II)Z" } : Jvm.MethodName) prog_11_method_12_code (3 : Nat) (Option.some Jvm.ClassFile.FieldType.boolean)), (Jvm.Cond.initialized "KindJudgeModel"), (Jvm.Cond.methodLink "KindJudgeModel" (107 : Nat) ({ cls := "KindJudgeModel", name := "isBelow", desc := "(II)Z" } : Jvm.MethodName)), (Jvm.Cond.instanceMethod ({ cls := "KindJudgeModel", name := "isBelow", desc := "(II)Z" } : Jvm.MethodName)), (Jvm.Cond.selects "KindJudgeModel" ({ cls := "KindJudgeModel", name := "isBelow", desc := "(II)Z" } : Jvm.MethodName) ({ cls := "KindJudgeModel", name := "isBelow", desc := "(II)Z" } : Jvm.MethodName))]
set_option maxRecDepth 100000 in
set_option maxHeartbeats 4000000 in
theorem kjS_110 : ∀ w ∈ kjW_110, w ∈ lw_tbl := mv_sub_of [993, 74, 994, 996, 37] (by decide +kernel)
set_option maxRecDepth 100000 in
set_option maxHeartbeats 4000000 in
theorem kjK_110 : mv_mkB kjW_110 kjCl kjKd kjP kjStn kjM_110 = true := by decide +kernel
def kjW_111 : List Jvm.Cond := [(Jvm.Cond.code ({ cls := "KindJudgeModel", name := "mayStand", desc := "(III)Z" } : Jvm.MethodName) prog_11_method_13_code (5 : Nat) (Option.some Jvm.ClassFile.FieldType.boolean)), (Jvm.Cond.initialized "KindJudgeModel"), (Jvm.Cond.fieldLink "KindJudgeModel" (37 : Nat) "KindJudgeModel" "params" "[I"), (Jvm.Cond.fieldLink "KindJudgeModel" (28 : Nat) "KindJudgeModel" "selParams" "[I"), (Jvm.Cond.fieldLink "KindJudgeModel" (43 : Nat) "KindJudgeModel" "returns" "[I"), (Jvm.Cond.fieldLink "KindJudgeModel" (34 : Nat) "KindJudgeModel" "selReturn" "[I"), (Jvm.Cond.fieldLink "KindJudgeModel" (40 : Nat) "KindJudgeModel" "paramType" "[I"), (Jvm.Cond.methodLink "KindJudgeModel" (111 : Nat) ({ cls := "KindJudgeModel", name := "isOf", desc := "(II)Z" } : Jvm.MethodName)), (Jvm.Cond.instanceMethod ({ cls := "KindJudgeModel", name := "isOf", desc := "(II)Z" } : Jvm.MethodName)), (Jvm.Cond.selects "KindJudgeModel" ({ cls := "KindJudgeModel", name := "isOf", desc := "(II)Z" } : Jvm.MethodName) ({ cls := "KindJudgeModel", name := "isOf", desc := "(II)Z" } : Jvm.MethodName)), (Jvm.Cond.fieldLink "KindJudgeModel" (31 : Nat) "KindJudgeModel" "selType" "[I")]
set_option maxRecDepth 100000 in
set_option maxHeartbeats 4000000 in
theorem kjS_111 : ∀ w ∈ kjW_111, w ∈ lw_tbl := mv_sub_of [989, 74, 851, 847, 853, 849, 852, 990, 992, 36, 848] (by decide +kernel)
set_option maxRecDepth 100000 in
set_option maxHeartbeats 4000000 in
theorem kjH_111 : mv_hdB kjW_111 kjM_111 = true := by decide +kernel
set_option maxRecDepth 100000 in
set_option maxHeartbeats 4000000 in
theorem kjK_111_0 : (kjT_111.take 20).all (mv_rowB kjW_111 kjCl kjKd kjP kjStn kjM_111) = true := by decide +kernel
set_option maxRecDepth 100000 in
set_option maxHeartbeats 4000000 in
theorem kjK_111_20 : ((kjT_111.drop 20).take 20).all (mv_rowB kjW_111 kjCl kjKd kjP kjStn kjM_111) = true := by decide +kernel
set_option maxRecDepth 100000 in
set_option maxHeartbeats 4000000 in
theorem kjK_111_40 : ((kjT_111.drop 40).take 20).all (mv_rowB kjW_111 kjCl kjKd kjP kjStn kjM_111) = true := by decide +kernel
