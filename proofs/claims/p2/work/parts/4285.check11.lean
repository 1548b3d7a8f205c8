def kjW_88 : List Jvm.Cond := [(Jvm.Cond.code ({ cls := "KindJudge$Flow", name := "arrive", desc := "(IIIJ)V" } : Jvm.MethodName) prog_6_method_12_code (11 : Nat) (Option.none : Option Jvm.ClassFile.FieldType)), (Jvm.Cond.initialized "KindJudge$Flow"), (Jvm.Cond.fieldLink "KindJudge$Flow" (27 : Nat) "KindJudge$Flow" "layout" "LKindJudge$Layout;"), (Jvm.Cond.methodLink "KindJudge$Flow" (35 : Nat) ({ cls := "KindJudge$Layout", name := "offset", desc := "(II)I" } : Jvm.MethodName)), (Jvm.Cond.instanceMethod ({ cls := "KindJudge$Layout", name := "offset", desc := "(II)I" } : Jvm.MethodName)), (Jvm.Cond.selects "KindJudge$Layout" ({ cls := "KindJudge$Layout", name := "offset", desc := "(II)I" } : Jvm.MethodName) ({ cls := "KindJudge$Layout", name := "offset", desc := "(II)I" } : Jvm.MethodName)), (Jvm.Cond.fieldLink "KindJudge$Flow" (11 : Nat) "KindJudge$Flow" "heights" "[B"), (Jvm.Cond.fieldLink "KindJudge$Flow" (17 : Nat) "KindJudge$Flow" "frames" "[J"), (Jvm.Cond.fieldLink "KindJudge$Flow" (23 : Nat) "KindJudge$Flow" "changed" "[Z"), (Jvm.Cond.methodLink "KindJudge$Flow" (153 : Nat) ({ cls := "KindJudge$Flow", name := "bothFrames", desc := "(JJ)J" } : Jvm.MethodName)), (Jvm.Cond.instanceMethod ({ cls := "KindJudge$Flow", name := "bothFrames", desc := "(JJ)J" } : Jvm.MethodName)), (Jvm.Cond.selects "KindJudge$Flow" ({ cls := "KindJudge$Flow", name := "bothFrames", desc := "(JJ)J" } : Jvm.MethodName) ({ cls := "KindJudge$Flow", name := "bothFrames", desc := "(JJ)J" } : Jvm.MethodName))]
set_option maxRecDepth 100000 in
set_option maxHeartbeats 4000000 in
theorem kjS_88 : ∀ w ∈ kjW_88, w ∈ lw_tbl := mv_sub_of [672, 73, 239, 345, 334, 335, 241, 242, 243, 673, 675, 17] (by decide +kernel)
set_option maxRecDepth 100000 in
set_option maxHeartbeats 4000000 in
theorem kjH_88 : mv_hdB kjW_88 kjM_88 = true := by decide +kernel
set_option maxRecDepth 100000 in
set_option maxHeartbeats 4000000 in
theorem kjK_88_0 : (kjT_88.take 20).all (mv_rowB kjW_88 kjCl kjKd kjP kjStn kjM_88) = true := by decide +kernel
set_option maxRecDepth 100000 in
set_option maxHeartbeats 4000000 in
theorem kjK_88_20 : ((kjT_88.drop 20).take 20).all (mv_rowB kjW_88 kjCl kjKd kjP kjStn kjM_88) = true := by decide +kernel
set_option maxRecDepth 100000 in
set_option maxHeartbeats 4000000 in
theorem kjK_88_40 : ((kjT_88.drop 40).take 20).all (mv_rowB kjW_88 kjCl kjKd kjP kjStn kjM_88) = true := by decide +kernel
set_option maxRecDepth 100000 in
set_option maxHeartbeats 4000000 in
theorem kjK_88_60 : ((kjT_88.drop 60).take 20).all (mv_rowB kjW_88 kjCl kjKd kjP kjStn kjM_88) = true := by decide +kernel
set_option maxRecDepth 100000 in
set_option maxHeartbeats 4000000 in
theorem kjK_88_80 : (kjT_88.drop 80).all (mv_rowB kjW_88 kjCl kjKd kjP kjStn kjM_88) = true := by decide +kernel
set_option maxRecDepth 100000 in
set_option maxHeartbeats 4000000 in
theorem kjK_88 : mv_mkB kjW_88 kjCl kjKd kjP kjStn kjM_88 = true := mv_mkB_of kjH_88 (mv_all_split (l := kjT_88) 20 kjK_88_0 (mv_all_split (l := (kjT_88.drop 20)) 20 kjK_88_20 (show ((kjT_88.drop 20).drop 20).all _ = true by rw [List.drop_drop]; exact (mv_all_split (l := (kjT_88.drop 40)) 20 kjK_88_40 (show ((kjT_88.drop 40).drop 20).all _ = true by rw [List.drop_drop]; exact (mv_all_split (l := (kjT_88.drop 60)) 20 kjK_88_60 (show ((kjT_88.drop 60).drop 20).all _ = true by rw [List.drop_drop]; exact kjK_88_80)))))))
def kjW_89 : List Jvm.Cond := [(Jvm.Cond.code ({ cls := "KindJudge$Flow", name := "bothFrames", desc := "(JJ)J" } : Jvm.MethodName) prog_6_method_13_code (8 : Nat) (Option.some Jvm.ClassFile.FieldType.long)), (Jvm.Cond.initialized "KindJudge$Flow"), (Jvm.Cond.fieldLink "KindJudge$Flow" (27 : Nat) "KindJudge$Flow" "layout" "LKindJudge$Layout;"), (Jvm.Cond.fieldLink "KindJudge$Flow" (157 : Nat) "KindJudge$Layout" "classes" "LKindJudge$Classes;"), (Jvm.Cond.methodLink "KindJudge$Flow" (51 : Nat) ({ cls := "KindJudge$Flow", name := "kindIn", desc := "(JI)I" } : Jvm.MethodName)), (Jvm.Cond.static ({ cls := "KindJudge$Flow", name := "kindIn", desc := "(JI)I" } : Jvm.MethodName)), (Jvm.Cond.methodLink "KindJudge$Flow" (161 : Nat) ({ cls := "KindJudge$Classes", name := "together", desc := "(II)I" } : Jvm.MethodName)), (Jvm.Cond.instanceMethod ({ cls := "KindJudge$Classes", name := "together", desc := "(II)I" } : Jvm.MethodName)), (Jvm.Cond.selects "KindJudge$Classes" ({ cls := "KindJudge$Classes", name := "together", desc := "(II)I" } : Jvm.MethodName) ({ cls := "KindJudge$Classes", name := "together", desc := "(II)I" } : Jvm.MethodName)), (Jvm.Cond.methodLink "KindJudge$Flow" (98 : Nat) ({ cls := "KindJudge$Flow", name := "with", desc := "(JII)J" } : Jvm.MethodName)), (Jvm.Cond.static ({ cls := "KindJudge$Flow", name := "with", desc := "(JII)J" } : Jvm.MethodName))]
set_option maxRecDepth 100000 in
set_option maxHeartbeats 4000000 in
theorem kjS_89 : ∀ w ∈ kjW_89, w ∈ lw_tbl := mv_sub_of [676, 73, 239, 182, 358, 359, 677, 481, 482, 664, 665] (by decide +kernel)
set_option maxRecDepth 100000 in
set_option maxHeartbeats 4000000 in
theorem kjK_89 : mv_mkB kjW_89 kjCl kjKd kjP kjStn kjM_89 = true := by decide +kernel
def kjW_90 : List Jvm.Cond := [(Jvm.Cond.code ({ cls := "KindJudge$Flow", name := "frameBehind", desc := "()J" } : Jvm.MethodName) prog_6_method_14_code (5 : Nat) (Option.some Jvm.ClassFile.FieldType.long)), (Jvm.Cond.initialized "KindJudge$Flow"), (Jvm.Cond.methodLink "KindJudge$Flow" (166 : Nat) ({ cls := "KindJudge$Flow", name := "taken", desc := "(I)I" } : Jvm.MethodName)), (Jvm.Cond.instanceMethod ({ cls := "KindJudge$Flow", name := "taken", desc := "(I)I" } : Jvm.MethodName)), (Jvm.Cond.selects "KindJudge$Flow" ({ cls := "KindJudge$Flow", name := "taken", desc := "(I)I" } : Jvm.MethodName) ({ cls := "KindJudge$Flow", name := "taken", desc := "(I)I" } : Jvm.MethodName)), (Jvm.Cond.fieldLink "KindJudge$Flow" (120 : Nat) "KindJudge$Flow" "frame" "J"), (Jvm.Cond.fieldLink "KindJudge$Flow" (127 : Nat) "KindJudge$Flow" "low" "I"), (Jvm.Cond.fieldLink "KindJudge$Flow" (117 : Nat) "KindJudge$Flow" "height" "I"), (Jvm.Cond.methodLink "KindJudge$Flow" (98 : Nat) ({ cls := "KindJudge$Flow", name := "with", desc := "(JII)J" } : Jvm.MethodName)), (Jvm.Cond.static ({ cls := "KindJudge$Flow", name := "with", desc := "(JII)J" } : Jvm.MethodName)), (Jvm.Cond.fieldLink "KindJudge$Flow" (108 : Nat) "KindJudge$Flow" "op" "I"), (Jvm.Cond.fieldLink "KindJudge$Flow" (111 : Nat) "KindJudge$Flow" "first" "I"), (Jvm.Cond.fieldLink "KindJudge$Flow" (43 : Nat) "KindJudge$Flow" "behind" "I"), (Jvm.Cond.methodLink "KindJudge$Flow" (169 : Nat) ({ cls := "KindJudge$Flow", name := "kindPut", desc := "()I" } : Jvm.MethodName)), (Jvm.Cond.instanceMethod ({ cls := "KindJudge$Flow", name := "kindPut", desc := "()I" } : Jvm.MethodName)), (Jvm.Cond.selects "KindJudge$Flow" ({ cls := "KindJudge$Flow", name := "kindPut", desc := "()I" } : Jvm.MethodName) ({ cls := "KindJudge$Flow", name := "kindPut", desc := "()I" } : Jvm.MethodName))]
set_option maxRecDepth 100000 in
set_option maxHeartbeats 4000000 in
theorem kjS_90 : ∀ w ∈ kjW_90, w ∈ lw_tbl := mv_sub_of [686, 73, 687, 689, 20, 250, 248, 247, 664, 665, 244, 245, 249, 691, 693, 21] (by decide +kernel)
set_option maxRecDepth 100000 in
set_option maxHeartbeats 4000000 in
theorem kjH_90 : mv_hdB kjW_90 kjM_90 = true := by decide +kernel
set_option maxRecDepth 100000 in
set_option maxHeartbeats 4000000 in
theorem kjK_90_0 : (kjT_90.take 20).all (mv_rowB kjW_90 kjCl kjKd kjP kjStn kjM_90) = true := by decide +kernel
set_option maxRecDepth 100000 in
set_option maxHeartbeats 4000000 in
theorem kjK_90_20 : ((kjT_90.drop 20).take 20).all (mv_rowB kjW_90 kjCl kjKd kjP kjStn kjM_90) = true := by decide +kernel
set_option maxRecDepth 100000 in
set_option maxHeartbeats 4000000 in
theorem kjK_90_40 : ((kjT_90.drop 40).take 20).all (mv_rowB kjW_90 kjCl kjKd kjP kjStn kjM_90) = true := by decide +kernel
set_option maxRecDepth 100000 in
set_option maxHeartbeats 4000000 in
theorem kjK_90_60 : ((kjT_90.drop 60).take 20).all (mv_rowB kjW_90 kjCl kjKd kjP kjStn kjM_90) = true := by decide +kernel
