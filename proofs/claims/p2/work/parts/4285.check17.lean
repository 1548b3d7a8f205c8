set_option maxRecDepth 100000 in
set_option maxHeartbeats 4000000 in
theorem kjK_111_60 : (kjT_111.drop 60).all (mv_rowB kjW_111 kjCl kjKd kjP kjStn kjM_111) = true := by decide +kernel
set_option maxRecDepth 100000 in
set_option maxHeartbeats 4000000 in
theorem kjK_111 : mv_mkB kjW_111 kjCl kjKd kjP kjStn kjM_111 = true := mv_mkB_of kjH_111 (mv_all_split (l := kjT_111) 20 kjK_111_0 (mv_all_split (l := (kjT_111.drop 20)) 20 kjK_111_20 (show ((kjT_111.drop 20).drop 20).all _ = true by rw [List.drop_drop]; exact (mv_all_split (l := (kjT_111.drop 40)) 20 kjK_111_40 (show ((kjT_111.drop 40).drop 20).all _ = true by rw [List.drop_drop]; exact kjK_111_60)))))
def kjW_112 : List Jvm.Cond := [(Jvm.Cond.code ({ cls := "KindJudgeModel", name := "readTable", desc := "(II)V" } : Jvm.MethodName) prog_11_method_14_code (4 : Nat) (Option.none : Option Jvm.ClassFile.FieldType)), (Jvm.Cond.initialized "KindJudgeModel"), (Jvm.Cond.fieldLink "KindJudgeModel" (114 : Nat) "KindJudgeModel" "methods" "I"), (Jvm.Cond.methodLink "KindJudgeModel" (100 : Nat) ({ cls := "KindJudgeModel", name := "next", desc := "(II)I" } : Jvm.MethodName)), (Jvm.Cond.instanceMethod ({ cls := "KindJudgeModel", name := "next", desc := "(II)I" } : Jvm.MethodName)), (Jvm.Cond.selects "KindJudgeModel" ({ cls := "KindJudgeModel", name := "next", desc := "(II)I" } : Jvm.MethodName) ({ cls := "KindJudgeModel", name := "next", desc := "(II)I" } : Jvm.MethodName)), (Jvm.Cond.fieldLink "KindJudgeModel" (62 : Nat) "KindJudgeModel" "table" "[I"), (Jvm.Cond.fieldLink "KindJudgeModel" (83 : Nat) "KindJudgeModel" "bad" "Z"), (Jvm.Cond.methodLink "KindJudgeModel" (117 : Nat) ({ cls := "KindJudgeModel", name := "mayStand", desc := "(III)Z" } : Jvm.MethodName)), (Jvm.Cond.instanceMethod ({ cls := "KindJudgeModel", name := "mayStand", desc := "(III)Z" } : Jvm.MethodName)), (Jvm.Cond.selects "KindJudgeModel" ({ cls := "KindJudgeModel", name := "mayStand", desc := "(III)Z" } : Jvm.MethodName) ({ cls := "KindJudgeModel", name := "mayStand", desc := "(III)Z" } : Jvm.MethodName)), (Jvm.Cond.fieldLink "KindJudgeModel" (87 : Nat) "KindJudgeModel" "at" "I")]
set_option maxRecDepth 100000 in
set_option maxHeartbeats 4000000 in
theorem kjS_112 : ∀ w ∈ kjW_112, w ∈ lw_tbl := mv_sub_of [985, 74, 850, 959, 961, 29, 859, 866, 986, 988, 35, 865] (by decide +kernel)
set_option maxRecDepth 100000 in
set_option maxHeartbeats 4000000 in
theorem kjK_112 : mv_mkB kjW_112 kjCl kjKd kjP kjStn kjM_112 = true := by decide +kernel
def kjW_113 : List Jvm.Cond := [(Jvm.Cond.code ({ cls := "KindJudgeModel", name := "takeApart", desc := "()Z" } : Jvm.MethodName) prog_11_method_15_code (2 : Nat) (Option.some Jvm.ClassFile.FieldType.boolean)), (Jvm.Cond.initialized "KindJudgeModel"), (Jvm.Cond.fieldLink "KindJudgeModel" (87 : Nat) "KindJudgeModel" "at" "I"), (Jvm.Cond.fieldLink "KindJudgeModel" (83 : Nat) "KindJudgeModel" "bad" "Z"), (Jvm.Cond.fieldLink "KindJudgeModel" (97 : Nat) "KindJudgeModel" "classes" "I"), (Jvm.Cond.methodLink "KindJudgeModel" (100 : Nat) ({ cls := "KindJudgeModel", name := "next", desc := "(II)I" } : Jvm.MethodName)), (Jvm.Cond.instanceMethod ({ cls := "KindJudgeModel", name := "next", desc := "(II)I" } : Jvm.MethodName)), (Jvm.Cond.selects "KindJudgeModel" ({ cls := "KindJudgeModel", name := "next", desc := "(II)I" } : Jvm.MethodName) ({ cls := "KindJudgeModel", name := "next", desc := "(II)I" } : Jvm.MethodName)), (Jvm.Cond.methodLink "KindJudgeModel" (120 : Nat) ({ cls := "KindJudgeModel", name := "readClass", desc := "(I)V" } : Jvm.MethodName)), (Jvm.Cond.instanceMethod ({ cls := "KindJudgeModel", name := "readClass", desc := "(I)V" } : Jvm.MethodName)), (Jvm.Cond.selects "KindJudgeModel" ({ cls := "KindJudgeModel", name := "readClass", desc := "(I)V" } : Jvm.MethodName) ({ cls := "KindJudgeModel", name := "readClass", desc := "(I)V" } : Jvm.MethodName)), (Jvm.Cond.fieldLink "KindJudgeModel" (124 : Nat) "KindJudgeModel" "selectors" "I"), (Jvm.Cond.methodLink "KindJudgeModel" (127 : Nat) ({ cls := "KindJudgeModel", name := "readSelector", desc := "(I)V" } : Jvm.MethodName)), (Jvm.Cond.instanceMethod ({ cls := "KindJudgeModel", name := "readSelector", desc := "(I)V" } : Jvm.MethodName)), (Jvm.Cond.selects "KindJudgeModel" ({ cls := "KindJudgeModel", name := "readSelector", desc := "(I)V" } : Jvm.MethodName) ({ cls := "KindJudgeModel", name := "readSelector", desc := "(I)V" } : Jvm.MethodName)), (Jvm.Cond.fieldLink "KindJudgeModel" (114 : Nat) "KindJudgeModel" "methods" "I"), (Jvm.Cond.methodLink "KindJudgeModel" (130 : Nat) ({ cls := "KindJudgeModel", name := "readMethod", desc := "(I)V" } : Jvm.MethodName)), (Jvm.Cond.instanceMethod ({ cls := "KindJudgeModel", name := "readMethod", desc := "(I)V" } : Jvm.MethodName)), (Jvm.Cond.selects "KindJudgeModel" ({ cls := "KindJudgeModel", name := "readMethod", desc := "(I)V" } : Jvm.MethodName) ({ cls := "KindJudgeModel", name := "readMethod", desc := "(I)V" } : Jvm.MethodName)), (Jvm.Cond.methodLink "KindJudgeModel" (133 : Nat) ({ cls := "KindJudgeModel", name := "readTable", desc := "(II)V" } : Jvm.MethodName)), (Jvm.Cond.instanceMethod ({ cls := "KindJudgeModel", name := "readTable", desc := "(II)V" } : Jvm.MethodName)), (Jvm.Cond.selects "KindJudgeModel" ({ cls := "KindJudgeModel", name := "readTable", desc := "(II)V" } : Jvm.MethodName) ({ cls := "KindJudgeModel", name := "readTable", desc := "(II)V" } : Jvm.MethodName)), (Jvm.Cond.fieldLink "KindJudgeModel" (90 : Nat) "KindJudgeModel" "readLong" "I")]
set_option maxRecDepth 100000 in
set_option maxHeartbeats 4000000 in
theorem kjS_113 : ∀ w ∈ kjW_113, w ∈ lw_tbl := mv_sub_of [958, 74, 865, 866, 842, 959, 961, 29, 966, 968, 30, 846, 974, 976, 32, 850, 978, 980, 33, 982, 984, 34, 835] (by decide +kernel)
set_option maxRecDepth 100000 in
set_option maxHeartbeats 4000000 in
theorem kjH_113 : mv_hdB kjW_113 kjM_113 = true := by decide +kernel
set_option maxRecDepth 100000 in
set_option maxHeartbeats 4000000 in
theorem kjK_113_0 : (kjT_113.take 20).all (mv_rowB kjW_113 kjCl kjKd kjP kjStn kjM_113) = true := by decide +kernel
set_option maxRecDepth 100000 in
set_option maxHeartbeats 4000000 in
theorem kjK_113_20 : ((kjT_113.drop 20).take 20).all (mv_rowB kjW_113 kjCl kjKd kjP kjStn kjM_113) = true := by decide +kernel
set_option maxRecDepth 100000 in
set_option maxHeartbeats 4000000 in
theorem kjK_113_40 : ((kjT_113.drop 40).take 20).all (mv_rowB kjW_113 kjCl kjKd kjP kjStn kjM_113) = true := by decide +kernel
set_option maxRecDepth 100000 in
set_option maxHeartbeats 4000000 in
theorem kjK_113_60 : ((kjT_113.drop 60).take 20).all (mv_rowB kjW_113 kjCl kjKd kjP kjStn kjM_113) = true := by decide +kernel
set_option maxRecDepth 100000 in
set_option maxHeartbeats 4000000 in
theorem kjK_113_80 : ((kjT_113.drop 80).take 20).all (mv_rowB kjW_113 kjCl kjKd kjP kjStn kjM_113) = true := by decide +kernel
set_option maxRecDepth 100000 in
set_option maxHeartbeats 4000000 in
theorem kjK_113_100 : (kjT_113.drop 100).all (mv_rowB kjW_113 kjCl kjKd kjP kjStn kjM_113) = true := by decide +kernel
set_option maxRecDepth 100000 in
set_option maxHeartbeats 4000000 in
theorem kjK_113 : mv_mkB kjW_113 kjCl kjKd kjP kjStn kjM_113 = true := mv_mkB_of kjH_113 (mv_all_split (l := kjT_113) 20 kjK_113_0 (mv_all_split (l := (kjT_113.drop 20)) 20 kjK_113_20 (show ((kjT_113.drop 20).drop 20).all _ = true by rw [List.drop_drop]; exact (mv_all_split (l := (kjT_113.drop 40)) 20 kjK_113_40 (show ((kjT_113.drop 40).drop 20).all _ = true by rw [List.drop_drop]; exact (mv_all_split (l := (kjT_113.drop 60)) 20 kjK_113_60 (show ((kjT_113.drop 60).drop 20).all _ = true by rw [List.drop_drop]; exact (mv_all_split (l := (kjT_113.drop 80)) 20 kjK_113_80 (show ((kjT_113.drop 80).drop 20).all _ = true by rw [List.drop_drop]; exact kjK_113_100)))))))))
def kjW_114 : List Jvm.Cond := [(Jvm.Cond.code ({ cls := "KindJudgeModel", name := "opLong", desc := "(I)I" } : Jvm.MethodName) prog_11_method_16_code (1 : Nat) (Option.some Jvm.ClassFile.FieldType.int)), (Jvm.Cond.initialized "KindJudgeModel")]
set_option maxRecDepth 100000 in
set_option maxHeartbeats 4000000 in
theorem kjS_114 : ∀ w ∈ kjW_114, w ∈ lw_tbl := mv_sub_of [1016, 74] (by decide +kernel)
set_option maxRecDepth 100000 in
set_option maxHeartbeats 4000000 in
theorem kjK_114 : mv_mkB kjW_114 kjCl kjKd kjP kjStn kjM_114 = true := by decide +kernel
