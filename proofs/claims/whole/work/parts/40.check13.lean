set_option maxRecDepth 100000 in
set_option maxHeartbeats 4000000 in
theorem kjK_94_40 : ((kjT_94.drop 40).take 40).all (mv_rowB kjW_94 kjCl kjKd kjP kjStn kjM_94) = true := by decide +kernel
set_option maxRecDepth 100000 in
set_option maxHeartbeats 4000000 in
theorem kjK_94_80 : ((kjT_94.drop 80).take 40).all (mv_rowB kjW_94 kjCl kjKd kjP kjStn kjM_94) = true := by decide +kernel
set_option maxRecDepth 100000 in
set_option maxHeartbeats 4000000 in
theorem kjK_94_120 : (kjT_94.drop 120).all (mv_rowB kjW_94 kjCl kjKd kjP kjStn kjM_94) = true := by decide +kernel
set_option maxRecDepth 100000 in
set_option maxHeartbeats 4000000 in
theorem kjK_94 : mv_mkB kjW_94 kjCl kjKd kjP kjStn kjM_94 = true := mv_mkB_of kjH_94 (mv_all_split (l := kjT_94) 40 kjK_94_0 (mv_all_split (l := (kjT_94.drop 40)) 40 kjK_94_40 (show ((kjT_94.drop 40).drop 40).all _ = true by rw [List.drop_drop]; exact (mv_all_split (l := (kjT_94.drop 80)) 40 kjK_94_80 (show ((kjT_94.drop 80).drop 40).all _ = true by rw [List.drop_drop]; exact kjK_94_120)))))
def kjW_95 : List Jvm.Cond := [(Jvm.Cond.code ({ cls := "KindJudge$Flow", name := "areInts", desc := "(I)Z" } : Jvm.MethodName) prog_6_method_19_code (3 : Nat) (Option.some Jvm.ClassFile.FieldType.boolean)), (Jvm.Cond.initialized "KindJudge$Flow"), (Jvm.Cond.fieldLink "KindJudge$Flow" (127 : Nat) "KindJudge$Flow" "low" "I"), (Jvm.Cond.fieldLink "KindJudge$Flow" (117 : Nat) "KindJudge$Flow" "height" "I"), (Jvm.Cond.methodLink "KindJudge$Flow" (166 : Nat) ({ cls := "KindJudge$Flow", name := "taken", desc := "(I)I" } : Jvm.MethodName)), (Jvm.Cond.instanceMethod ({ cls := "KindJudge$Flow", name := "taken", desc := "(I)I" } : Jvm.MethodName)), (Jvm.Cond.selects "KindJudge$Flow" ({ cls := "KindJudge$Flow", name := "taken", desc := "(I)I" } : Jvm.MethodName) ({ cls := "KindJudge$Flow", name := "taken", desc := "(I)I" } : Jvm.MethodName))]
set_option maxRecDepth 100000 in
set_option maxHeartbeats 4000000 in
theorem kjS_95 : ∀ w ∈ kjW_95, w ∈ lw_tbl := mv_sub_of [712, 73, 248, 247, 687, 689, 20] (by decide +kernel)
set_option maxRecDepth 100000 in
set_option maxHeartbeats 4000000 in
theorem kjK_95 : mv_mkB kjW_95 kjCl kjKd kjP kjStn kjM_95 = true := by decide +kernel
