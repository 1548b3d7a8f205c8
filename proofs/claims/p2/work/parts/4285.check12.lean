set_option maxRecDepth 100000 in
set_option maxHeartbeats 4000000 in
theorem kjK_90_80 : (kjT_90.drop 80).all (mv_rowB kjW_90 kjCl kjKd kjP kjStn kjM_90) = true := by decide +kernel
set_option maxRecDepth 100000 in
set_option maxHeartbeats 4000000 in
theorem kjK_90 : mv_mkB kjW_90 kjCl kjKd kjP kjStn kjM_90 = true := mv_mkB_of kjH_90 (mv_all_split (l := kjT_90) 20 kjK_90_0 (mv_all_split (l := (kjT_90.drop 20)) 20 kjK_90_20 (show ((kjT_90.drop 20).drop 20).all _ = true by rw [List.drop_drop]; exact (mv_all_split (l := (kjT_90.drop 40)) 20 kjK_90_40 (show ((kjT_90.drop 40).drop 20).all _ = true by rw [List.drop_drop]; exact (mv_all_split (l := (kjT_90.drop 60)) 20 kjK_90_60 (show ((kjT_90.drop 60).drop 20).all _ = true by rw [List.drop_drop]; exact kjK_90_80)))))))
def kjW_91 : List Jvm.Cond := [(Jvm.Cond.code ({ cls := "KindJudge$Flow", name := "kindPut", desc := "()I" } : Jvm.MethodName) prog_6_method_15_code (1 : Nat) (Option.some Jvm.ClassFile.FieldType.int)), (Jvm.Cond.initialized "KindJudge$Flow"), (Jvm.Cond.fieldLink "KindJudge$Flow" (108 : Nat) "KindJudge$Flow" "op" "I"), (Jvm.Cond.fieldLink "KindJudge$Flow" (120 : Nat) "KindJudge$Flow" "frame" "J"), (Jvm.Cond.fieldLink "KindJudge$Flow" (111 : Nat) "KindJudge$Flow" "first" "I"), (Jvm.Cond.methodLink "KindJudge$Flow" (51 : Nat) ({ cls := "KindJudge$Flow", name := "kindIn", desc := "(JI)I" } : Jvm.MethodName)), (Jvm.Cond.static ({ cls := "KindJudge$Flow", name := "kindIn", desc := "(JI)I" } : Jvm.MethodName)), (Jvm.Cond.fieldLink "KindJudge$Flow" (27 : Nat) "KindJudge$Flow" "layout" "LKindJudge$Layout;"), (Jvm.Cond.fieldLink "KindJudge$Flow" (157 : Nat) "KindJudge$Layout" "classes" "LKindJudge$Classes;"), (Jvm.Cond.fieldLink "KindJudge$Flow" (114 : Nat) "KindJudge$Flow" "second" "I"), (Jvm.Cond.methodLink "KindJudge$Flow" (173 : Nat) ({ cls := "KindJudge$Classes", name := "fieldType", desc := "(II)I" } : Jvm.MethodName)), (Jvm.Cond.instanceMethod ({ cls := "KindJudge$Classes", name := "fieldType", desc := "(II)I" } : Jvm.MethodName)), (Jvm.Cond.selects "KindJudge$Classes" ({ cls := "KindJudge$Classes", name := "fieldType", desc := "(II)I" } : Jvm.MethodName) ({ cls := "KindJudge$Classes", name := "fieldType", desc := "(II)I" } : Jvm.MethodName)), (Jvm.Cond.fieldLink "KindJudge$Flow" (86 : Nat) "KindJudge$Layout" "methods" "LKindJudge$Signatures;"), (Jvm.Cond.methodLink "KindJudge$Flow" (176 : Nat) ({ cls := "KindJudge$Signatures", name := "returnedBy", desc := "(I)I" } : Jvm.MethodName)), (Jvm.Cond.instanceMethod ({ cls := "KindJudge$Signatures", name := "returnedBy", desc := "(I)I" } : Jvm.MethodName)), (Jvm.Cond.selects "KindJudge$Signatures" ({ cls := "KindJudge$Signatures", name := "returnedBy", desc := "(I)I" } : Jvm.MethodName) ({ cls := "KindJudge$Signatures", name := "returnedBy", desc := "(I)I" } : Jvm.MethodName)), (Jvm.Cond.fieldLink "KindJudge$Flow" (179 : Nat) "KindJudge$Layout" "selectors" "LKindJudge$Signatures;")]
set_option maxRecDepth 100000 in
set_option maxHeartbeats 4000000 in
theorem kjS_91 : ∀ w ∈ kjW_91, w ∈ lw_tbl := mv_sub_of [694, 73, 244, 250, 245, 358, 359, 239, 182, 246, 695, 514, 515, 190, 696, 443, 444, 186] (by decide +kernel)
set_option maxRecDepth 100000 in
set_option maxHeartbeats 4000000 in
theorem kjK_91 : mv_mkB kjW_91 kjCl kjKd kjP kjStn kjM_91 = true := by decide +kernel
def kjW_92 : List Jvm.Cond := [(Jvm.Cond.code ({ cls := "KindJudge$Flow", name := "taken", desc := "(I)I" } : Jvm.MethodName) prog_6_method_16_code (2 : Nat) (Option.some Jvm.ClassFile.FieldType.int)), (Jvm.Cond.initialized "KindJudge$Flow"), (Jvm.Cond.fieldLink "KindJudge$Flow" (127 : Nat) "KindJudge$Flow" "low" "I"), (Jvm.Cond.fieldLink "KindJudge$Flow" (117 : Nat) "KindJudge$Flow" "height" "I"), (Jvm.Cond.fieldLink "KindJudge$Flow" (120 : Nat) "KindJudge$Flow" "frame" "J"), (Jvm.Cond.methodLink "KindJudge$Flow" (51 : Nat) ({ cls := "KindJudge$Flow", name := "kindIn", desc := "(JI)I" } : Jvm.MethodName)), (Jvm.Cond.static ({ cls := "KindJudge$Flow", name := "kindIn", desc := "(JI)I" } : Jvm.MethodName))]
set_option maxRecDepth 100000 in
set_option maxHeartbeats 4000000 in
theorem kjS_92 : ∀ w ∈ kjW_92, w ∈ lw_tbl := mv_sub_of [690, 73, 248, 247, 250, 358, 359] (by decide +kernel)
set_option maxRecDepth 100000 in
set_option maxHeartbeats 4000000 in
theorem kjK_92 : mv_mkB kjW_92 kjCl kjKd kjP kjStn kjM_92 = true := by decide +kernel
def kjW_93 : List Jvm.Cond := [(Jvm.Cond.code ({ cls := "KindJudge$Flow", name := "takesWhatIsFit", desc := "(I)Z" } : Jvm.MethodName) prog_6_method_17_code (4 : Nat) (Option.some Jvm.ClassFile.FieldType.boolean)), (Jvm.Cond.initialized "KindJudge$Flow"), (Jvm.Cond.methodLink "KindJudge$Flow" (166 : Nat) ({ cls := "KindJudge$Flow", name := "taken", desc := "(I)I" } : Jvm.MethodName)), (Jvm.Cond.instanceMethod ({ cls := "KindJudge$Flow", name := "taken", desc := "(I)I" } : Jvm.MethodName)), (Jvm.Cond.selects "KindJudge$Flow" ({ cls := "KindJudge$Flow", name := "taken", desc := "(I)I" } : Jvm.MethodName) ({ cls := "KindJudge$Flow", name := "taken", desc := "(I)I" } : Jvm.MethodName)), (Jvm.Cond.fieldLink "KindJudge$Flow" (108 : Nat) "KindJudge$Flow" "op" "I"), (Jvm.Cond.fieldLink "KindJudge$Flow" (120 : Nat) "KindJudge$Flow" "frame" "J"), (Jvm.Cond.fieldLink "KindJudge$Flow" (111 : Nat) "KindJudge$Flow" "first" "I"), (Jvm.Cond.methodLink "KindJudge$Flow" (51 : Nat) ({ cls := "KindJudge$Flow", name := "kindIn", desc := "(JI)I" } : Jvm.MethodName)), (Jvm.Cond.static ({ cls := "KindJudge$Flow", name := "kindIn", desc := "(JI)I" } : Jvm.MethodName)), (Jvm.Cond.methodLink "KindJudge$Flow" (182 : Nat) ({ cls := "KindJudge$Flow", name := "areInts", desc := "(I)Z" } : Jvm.MethodName)), (Jvm.Cond.instanceMethod ({ cls := "KindJudge$Flow", name := "areInts", desc := "(I)Z" } : Jvm.MethodName)), (Jvm.Cond.selects "KindJudge$Flow" ({ cls := "KindJudge$Flow", name := "areInts", desc := "(I)Z" } : Jvm.MethodName) ({ cls := "KindJudge$Flow", name := "areInts", desc := "(I)Z" } : Jvm.MethodName)), (Jvm.Cond.methodLink "KindJudge$Flow" (185 : Nat) ({ cls := "KindJudge$Flow", name := "isArrayOrObject", desc := "(I)Z" } : Jvm.MethodName)), (Jvm.Cond.static ({ cls := "KindJudge$Flow", name := "isArrayOrObject", desc := "(I)Z" } : Jvm.MethodName)), (Jvm.Cond.methodLink "KindJudge$Flow" (188 : Nat) ({ cls := "KindJudge$Flow", name := "fitsItsTypes", desc := "(III)Z" } : Jvm.MethodName)), (Jvm.Cond.instanceMethod ({ cls := "KindJudge$Flow", name := "fitsItsTypes", desc := "(III)Z" } : Jvm.MethodName)), (Jvm.Cond.selects "KindJudge$Flow" ({ cls := "KindJudge$Flow", name := "fitsItsTypes", desc := "(III)Z" } : Jvm.MethodName) ({ cls := "KindJudge$Flow", name := "fitsItsTypes", desc := "(III)Z" } : Jvm.MethodName))]
set_option maxRecDepth 100000 in
set_option maxHeartbeats 4000000 in
theorem kjS_93 : ∀ w ∈ kjW_93, w ∈ lw_tbl := mv_sub_of [708, 73, 687, 689, 20, 244, 250, 245, 358, 359, 709, 711, 23, 713, 714, 716, 718, 24] (by decide +kernel)
set_option maxRecDepth 100000 in
set_option maxHeartbeats 4000000 in
theorem kjH_93 : mv_hdB kjW_93 kjM_93 = true := by decide +kernel
set_option maxRecDepth 100000 in
set_option maxHeartbeats 4000000 in
theorem kjK_93_0 : (kjT_93.take 20).all (mv_rowB kjW_93 kjCl kjKd kjP kjStn kjM_93) = true := by decide +kernel
set_option maxRecDepth 100000 in
set_option maxHeartbeats 4000000 in
theorem kjK_93_20 : ((kjT_93.drop 20).take 20).all (mv_rowB kjW_93 kjCl kjKd kjP kjStn kjM_93) = true := by decide +kernel
set_option maxRecDepth 100000 in
set_option maxHeartbeats 4000000 in
theorem kjK_93_40 : ((kjT_93.drop 40).take 20).all (mv_rowB kjW_93 kjCl kjKd kjP kjStn kjM_93) = true := by decide +kernel
set_option maxRecDepth 100000 in
set_option maxHeartbeats 4000000 in
theorem kjK_93_60 : ((kjT_93.drop 60).take 20).all (mv_rowB kjW_93 kjCl kjKd kjP kjStn kjM_93) = true := by decide +kernel
set_option maxRecDepth 100000 in
set_option maxHeartbeats 4000000 in
theorem kjK_93_80 : ((kjT_93.drop 80).take 20).all (mv_rowB kjW_93 kjCl kjKd kjP kjStn kjM_93) = true := by decide +kernel
