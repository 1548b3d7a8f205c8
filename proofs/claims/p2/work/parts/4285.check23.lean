set_option maxRecDepth 100000 in
set_option maxHeartbeats 4000000 in
theorem kjK_129_80 : ((kjT_129.drop 80).take 20).all (mv_rowB kjW_129 kjCl kjKd kjP kjStn kjM_129) = true := by decide +kernel
set_option maxRecDepth 100000 in
set_option maxHeartbeats 4000000 in
theorem kjK_129_100 : ((kjT_129.drop 100).take 20).all (mv_rowB kjW_129 kjCl kjKd kjP kjStn kjM_129) = true := by decide +kernel
set_option maxRecDepth 100000 in
set_option maxHeartbeats 4000000 in
theorem kjK_129_120 : (kjT_129.drop 120).all (mv_rowB kjW_129 kjCl kjKd kjP kjStn kjM_129) = true := by decide +kernel
set_option maxRecDepth 100000 in
set_option maxHeartbeats 4000000 in
theorem kjK_129 : mv_mkB kjW_129 kjCl kjKd kjP kjStn kjM_129 = true := mv_mkB_of kjH_129 (mv_all_split (l := kjT_129) 20 kjK_129_0 (mv_all_split (l := (kjT_129.drop 20)) 20 kjK_129_20 (show ((kjT_129.drop 20).drop 20).all _ = true by rw [List.drop_drop]; exact (mv_all_split (l := (kjT_129.drop 40)) 20 kjK_129_40 (show ((kjT_129.drop 40).drop 20).all _ = true by rw [List.drop_drop]; exact (mv_all_split (l := (kjT_129.drop 60)) 20 kjK_129_60 (show ((kjT_129.drop 60).drop 20).all _ = true by rw [List.drop_drop]; exact (mv_all_split (l := (kjT_129.drop 80)) 20 kjK_129_80 (show ((kjT_129.drop 80).drop 20).all _ = true by rw [List.drop_drop]; exact (mv_all_split (l := (kjT_129.drop 100)) 20 kjK_129_100 (show ((kjT_129.drop 100).drop 20).all _ = true by rw [List.drop_drop]; exact kjK_129_120)))))))))))
def kjW_130 : List Jvm.Cond := [(Jvm.Cond.code ({ cls := "KindJudgeModel", name := "popKind", desc := "()I" } : Jvm.MethodName) prog_11_method_32_code (1 : Nat) (Option.some Jvm.ClassFile.FieldType.int)), (Jvm.Cond.initialized "KindJudgeModel"), (Jvm.Cond.fieldLink "KindJudgeModel" (196 : Nat) "KindJudgeModel" "nextHeight" "I"), (Jvm.Cond.fieldLink "KindJudgeModel" (212 : Nat) "KindJudgeModel" "breaks" "Z"), (Jvm.Cond.fieldLink "KindJudgeModel" (71 : Nat) "KindJudgeModel" "next" "[I")]
set_option maxRecDepth 100000 in
set_option maxHeartbeats 4000000 in
theorem kjS_130 : ∀ w ∈ kjW_130, w ∈ lw_tbl := mv_sub_of [1056, 74, 863, 864, 862] (by decide +kernel)
set_option maxRecDepth 100000 in
set_option maxHeartbeats 4000000 in
theorem kjK_130 : mv_mkB kjW_130 kjCl kjKd kjP kjStn kjM_130 = true := by decide +kernel
def kjW_131 : List Jvm.Cond := [(Jvm.Cond.code ({ cls := "KindJudgeModel", name := "pushKind", desc := "(I)V" } : Jvm.MethodName) prog_11_method_33_code (2 : Nat) (Option.none : Option Jvm.ClassFile.FieldType)), (Jvm.Cond.initialized "KindJudgeModel"), (Jvm.Cond.fieldLink "KindJudgeModel" (196 : Nat) "KindJudgeModel" "nextHeight" "I"), (Jvm.Cond.fieldLink "KindJudgeModel" (71 : Nat) "KindJudgeModel" "next" "[I")]
set_option maxRecDepth 100000 in
set_option maxHeartbeats 4000000 in
theorem kjS_131 : ∀ w ∈ kjW_131, w ∈ lw_tbl := mv_sub_of [1060, 74, 863, 862] (by decide +kernel)
set_option maxRecDepth 100000 in
set_option maxHeartbeats 4000000 in
theorem kjK_131 : mv_mkB kjW_131 kjCl kjKd kjP kjStn kjM_131 = true := by decide +kernel
def kjW_132 : List Jvm.Cond := [(Jvm.Cond.code ({ cls := "KindJudgeModel", name := "drop", desc := "(I)V" } : Jvm.MethodName) prog_11_method_34_code (3 : Nat) (Option.none : Option Jvm.ClassFile.FieldType)), (Jvm.Cond.initialized "KindJudgeModel"), (Jvm.Cond.methodLink "KindJudgeModel" (215 : Nat) ({ cls := "KindJudgeModel", name := "popKind", desc := "()I" } : Jvm.MethodName)), (Jvm.Cond.instanceMethod ({ cls := "KindJudgeModel", name := "popKind", desc := "()I" } : Jvm.MethodName)), (Jvm.Cond.selects "KindJudgeModel" ({ cls := "KindJudgeModel", name := "popKind", desc := "()I" } : Jvm.MethodName) ({ cls := "KindJudgeModel", name := "popKind", desc := "()I" } : Jvm.MethodName))]
set_option maxRecDepth 100000 in
set_option maxHeartbeats 4000000 in
theorem kjS_132 : ∀ w ∈ kjW_132, w ∈ lw_tbl := mv_sub_of [1052, 74, 1053, 1055, 51] (by decide +kernel)
set_option maxRecDepth 100000 in
set_option maxHeartbeats 4000000 in
theorem kjK_132 : mv_mkB kjW_132 kjCl kjKd kjP kjStn kjM_132 = true := by decide +kernel
def kjW_133 : List Jvm.Cond := [(Jvm.Cond.code ({ cls := "KindJudgeModel", name := "takes", desc := "(II)I" } : Jvm.MethodName) prog_11_method_35_code (4 : Nat) (Option.some Jvm.ClassFile.FieldType.int)), (Jvm.Cond.initialized "KindJudgeModel"), (Jvm.Cond.methodLink "KindJudgeModel" (137 : Nat) ({ cls := "KindJudgeModel", name := "byteAt", desc := "(II)I" } : Jvm.MethodName)), (Jvm.Cond.instanceMethod ({ cls := "KindJudgeModel", name := "byteAt", desc := "(II)I" } : Jvm.MethodName)), (Jvm.Cond.selects "KindJudgeModel" ({ cls := "KindJudgeModel", name := "byteAt", desc := "(II)I" } : Jvm.MethodName) ({ cls := "KindJudgeModel", name := "byteAt", desc := "(II)I" } : Jvm.MethodName)), (Jvm.Cond.fieldLink "KindJudgeModel" (37 : Nat) "KindJudgeModel" "params" "[I"), (Jvm.Cond.fieldLink "KindJudgeModel" (28 : Nat) "KindJudgeModel" "selParams" "[I")]
set_option maxRecDepth 100000 in
set_option maxHeartbeats 4000000 in
theorem kjS_133 : ∀ w ∈ kjW_133, w ∈ lw_tbl := mv_sub_of [1048, 74, 1010, 1012, 41, 851, 847] (by decide +kernel)
set_option maxRecDepth 100000 in
set_option maxHeartbeats 4000000 in
theorem kjK_133 : mv_mkB kjW_133 kjCl kjKd kjP kjStn kjM_133 = true := by decide +kernel
