set_option maxRecDepth 100000 in
set_option maxHeartbeats 4000000 in
theorem kjK_24_40 : ((kjT_24.drop 40).take 20).all (mv_rowB kjW_24 kjCl kjKd kjP kjStn kjM_24) = true := by decide +kernel
set_option maxRecDepth 100000 in
set_option maxHeartbeats 4000000 in
theorem kjK_24_60 : ((kjT_24.drop 60).take 20).all (mv_rowB kjW_24 kjCl kjKd kjP kjStn kjM_24) = true := by decide +kernel
set_option maxRecDepth 100000 in
set_option maxHeartbeats 4000000 in
theorem kjK_24_80 : (kjT_24.drop 80).all (mv_rowB kjW_24 kjCl kjKd kjP kjStn kjM_24) = true := by decide +kernel
set_option maxRecDepth 100000 in
set_option maxHeartbeats 4000000 in
theorem kjK_24 : mv_mkB kjW_24 kjCl kjKd kjP kjStn kjM_24 = true := mv_mkB_of kjH_24 (mv_all_split (l := kjT_24) 20 kjK_24_0 (mv_all_split (l := (kjT_24.drop 20)) 20 kjK_24_20 (show ((kjT_24.drop 20).drop 20).all _ = true by rw [List.drop_drop]; exact (mv_all_split (l := (kjT_24.drop 40)) 20 kjK_24_40 (show ((kjT_24.drop 40).drop 20).all _ = true by rw [List.drop_drop]; exact (mv_all_split (l := (kjT_24.drop 60)) 20 kjK_24_60 (show ((kjT_24.drop 60).drop 20).all _ = true by rw [List.drop_drop]; exact kjK_24_80)))))))
def kjW_25 : List Jvm.Cond := [(Jvm.Cond.code ({ cls := "KindJudge$Layout", name := "faultPlace", desc := "()I" } : Jvm.MethodName) prog_7_method_3_code (1 : Nat) (Option.some Jvm.ClassFile.FieldType.int)), (Jvm.Cond.initialized "KindJudge$Layout"), (Jvm.Cond.fieldLink "KindJudge$Layout" (49 : Nat) "KindJudge$Layout" "reader" "LKindJudge$Reader;"), (Jvm.Cond.methodLink "KindJudge$Layout" (87 : Nat) ({ cls := "KindJudge$Reader", name := "place", desc := "()I" } : Jvm.MethodName)), (Jvm.Cond.instanceMethod ({ cls := "KindJudge$Reader", name := "place", desc := "()I" } : Jvm.MethodName)), (Jvm.Cond.selects "KindJudge$Reader" ({ cls := "KindJudge$Reader", name := "place", desc := "()I" } : Jvm.MethodName) ({ cls := "KindJudge$Reader", name := "place", desc := "()I" } : Jvm.MethodName))]
set_option maxRecDepth 100000 in
set_option maxHeartbeats 4000000 in
theorem kjS_25 : ∀ w ∈ kjW_25, w ∈ lw_tbl := mv_sub_of [626, 68, 191, 593, 594, 595] (by decide +kernel)
set_option maxRecDepth 100000 in
set_option maxHeartbeats 4000000 in
theorem kjK_25 : mv_mkB kjW_25 kjCl kjKd kjP kjStn kjM_25 = true := by decide +kernel
def kjW_26 : List Jvm.Cond := [(Jvm.Cond.code ({ cls := "KindJudge$Layout", name := "readMethod", desc := "(I)V" } : Jvm.MethodName) prog_7_method_4_code (2 : Nat) (Option.none : Option Jvm.ClassFile.FieldType)), (Jvm.Cond.initialized "KindJudge$Layout"), (Jvm.Cond.fieldLink "KindJudge$Layout" (25 : Nat) "KindJudge$Layout" "methods" "LKindJudge$Signatures;"), (Jvm.Cond.fieldLink "KindJudge$Layout" (49 : Nat) "KindJudge$Layout" "reader" "LKindJudge$Reader;"), (Jvm.Cond.fieldLink "KindJudge$Layout" (12 : Nat) "KindJudge$Layout" "classes" "LKindJudge$Classes;"), (Jvm.Cond.fieldLinkNest "KindJudge$Layout" (72 : Nat) "KindJudge$Classes" "number" "I" "KindJudge"), (Jvm.Cond.methodLink "KindJudge$Layout" (73 : Nat) ({ cls := "KindJudge$Signatures", name := "readOne", desc := "(LKindJudge$Reader;III)V" } : Jvm.MethodName)), (Jvm.Cond.instanceMethod ({ cls := "KindJudge$Signatures", name := "readOne", desc := "(LKindJudge$Reader;III)V" } : Jvm.MethodName)), (Jvm.Cond.selects "KindJudge$Signatures" ({ cls := "KindJudge$Signatures", name := "readOne", desc := "(LKindJudge$Reader;III)V" } : Jvm.MethodName) ({ cls := "KindJudge$Signatures", name := "readOne", desc := "(LKindJudge$Reader;III)V" } : Jvm.MethodName)), (Jvm.Cond.methodLink "KindJudge$Layout" (91 : Nat) ({ cls := "KindJudge$Signatures", name := "has", desc := "(I)Z" } : Jvm.MethodName)), (Jvm.Cond.instanceMethod ({ cls := "KindJudge$Signatures", name := "has", desc := "(I)Z" } : Jvm.MethodName)), (Jvm.Cond.selects "KindJudge$Signatures" ({ cls := "KindJudge$Signatures", name := "has", desc := "(I)Z" } : Jvm.MethodName) ({ cls := "KindJudge$Signatures", name := "has", desc := "(I)Z" } : Jvm.MethodName)), (Jvm.Cond.fieldLink "KindJudge$Layout" (28 : Nat) "KindJudge$Layout" "locals" "[I"), (Jvm.Cond.methodLink "KindJudge$Layout" (95 : Nat) ({ cls := "KindJudge$Signatures", name := "parametersOf", desc := "(I)I" } : Jvm.MethodName)), (Jvm.Cond.instanceMethod ({ cls := "KindJudge$Signatures", name := "parametersOf", desc := "(I)I" } : Jvm.MethodName)), (Jvm.Cond.selects "KindJudge$Signatures" ({ cls := "KindJudge$Signatures", name := "parametersOf", desc := "(I)I" } : Jvm.MethodName) ({ cls := "KindJudge$Signatures", name := "parametersOf", desc := "(I)I" } : Jvm.MethodName)), (Jvm.Cond.methodLink "KindJudge$Layout" (99 : Nat) ({ cls := "KindJudge$Reader", name := "number", desc := "(II)I" } : Jvm.MethodName)), (Jvm.Cond.instanceMethod ({ cls := "KindJudge$Reader", name := "number", desc := "(II)I" } : Jvm.MethodName)), (Jvm.Cond.selects "KindJudge$Reader" ({ cls := "KindJudge$Reader", name := "number", desc := "(II)I" } : Jvm.MethodName) ({ cls := "KindJudge$Reader", name := "number", desc := "(II)I" } : Jvm.MethodName)), (Jvm.Cond.fieldLink "KindJudge$Layout" (32 : Nat) "KindJudge$Layout" "stacks" "[I"), (Jvm.Cond.fieldLink "KindJudge$Layout" (38 : Nat) "KindJudge$Layout" "lengths" "[I"), (Jvm.Cond.fieldLink "KindJudge$Layout" (35 : Nat) "KindJudge$Layout" "starts" "[I"), (Jvm.Cond.methodLink "KindJudge$Layout" (87 : Nat) ({ cls := "KindJudge$Reader", name := "place", desc := "()I" } : Jvm.MethodName)), (Jvm.Cond.instanceMethod ({ cls := "KindJudge$Reader", name := "place", desc := "()I" } : Jvm.MethodName)), (Jvm.Cond.selects "KindJudge$Reader" ({ cls := "KindJudge$Reader", name := "place", desc := "()I" } : Jvm.MethodName) ({ cls := "KindJudge$Reader", name := "place", desc := "()I" } : Jvm.MethodName)), (Jvm.Cond.methodLink "KindJudge$Layout" (102 : Nat) ({ cls := "KindJudge$Reader", name := "skip", desc := "(I)V" } : Jvm.MethodName)), (Jvm.Cond.instanceMethod ({ cls := "KindJudge$Reader", name := "skip", desc := "(I)V" } : Jvm.MethodName)), (Jvm.Cond.selects "KindJudge$Reader" ({ cls := "KindJudge$Reader", name := "skip", desc := "(I)V" } : Jvm.MethodName) ({ cls := "KindJudge$Reader", name := "skip", desc := "(I)V" } : Jvm.MethodName))]
set_option maxRecDepth 100000 in
set_option maxHeartbeats 4000000 in
theorem kjS_26 : ∀ w ∈ kjW_26, w ∈ lw_tbl := mv_sub_of [590, 68, 187, 191, 179, 128, 582, 583, 584, 499, 409, 410, 192, 591, 433, 434, 592, 551, 552, 193, 195, 194, 593, 594, 595, 597, 598, 599] (by decide +kernel)
set_option maxRecDepth 100000 in
set_option maxHeartbeats 4000000 in
theorem kjH_26 : mv_hdB kjW_26 kjM_26 = true := by decide +kernel
set_option maxRecDepth 100000 in
set_option maxHeartbeats 4000000 in
theorem kjK_26_0 : (kjT_26.take 20).all (mv_rowB kjW_26 kjCl kjKd kjP kjStn kjM_26) = true := by decide +kernel
set_option maxRecDepth 100000 in
set_option maxHeartbeats 4000000 in
theorem kjK_26_20 : ((kjT_26.drop 20).take 20).all (mv_rowB kjW_26 kjCl kjKd kjP kjStn kjM_26) = true := by decide +kernel
set_option maxRecDepth 100000 in
set_option maxHeartbeats 4000000 in
theorem kjK_26_40 : ((kjT_26.drop 40).take 20).all (mv_rowB kjW_26 kjCl kjKd kjP kjStn kjM_26) = true := by decide +kernel
set_option maxRecDepth 100000 in
set_option maxHeartbeats 4000000 in
theorem kjK_26_60 : (kjT_26.drop 60).all (mv_rowB kjW_26 kjCl kjKd kjP kjStn kjM_26) = true := by decide +kernel
set_option maxRecDepth 100000 in
set_option maxHeartbeats 4000000 in
theorem kjK_26 : mv_mkB kjW_26 kjCl kjKd kjP kjStn kjM_26 = true := mv_mkB_of kjH_26 (mv_all_split (l := kjT_26) 20 kjK_26_0 (mv_all_split (l := (kjT_26.drop 20)) 20 kjK_26_20 (show ((kjT_26.drop 20).drop 20).all _ = true by rw [List.drop_drop]; exact (mv_all_split (l := (kjT_26.drop 40)) 20 kjK_26_40 (show ((kjT_26.drop 40).drop 20).all _ = true by rw [List.drop_drop]; exact kjK_26_60)))))
def kjW_27 : List Jvm.Cond := [(Jvm.Cond.code ({ cls := "KindJudge$Layout", name := "readTableOf", desc := "(I)V" } : Jvm.MethodName) prog_7_method_5_code (6 : Nat) (Option.none : Option Jvm.ClassFile.FieldType)), (Jvm.Cond.initialized "KindJudge$Layout"), (Jvm.Cond.fieldLink "KindJudge$Layout" (12 : Nat) "KindJudge$Layout" "classes" "LKindJudge$Classes;"), (Jvm.Cond.methodLink "KindJudge$Layout" (105 : Nat) ({ cls := "KindJudge$Classes", name := "superOf", desc := "(I)I" } : Jvm.MethodName)), (Jvm.Cond.instanceMethod ({ cls := "KindJudge$Classes", name := "superOf", desc := "(I)I" } : Jvm.MethodName)), (Jvm.Cond.selects "KindJudge$Classes" ({ cls := "KindJudge$Classes", name := "superOf", desc := "(I)I" } : Jvm.MethodName) ({ cls := "KindJudge$Classes", name := "superOf", desc := "(I)I" } : Jvm.MethodName)), (Jvm.Cond.fieldLink "KindJudge$Layout" (21 : Nat) "KindJudge$Layout" "selectors" "LKindJudge$Signatures;"), (Jvm.Cond.fieldLinkNest "KindJudge$Layout" (64 : Nat) "KindJudge$Signatures" "number" "I" "KindJudge"), (Jvm.Cond.fieldLink "KindJudge$Layout" (49 : Nat) "KindJudge$Layout" "reader" "LKindJudge$Reader;"), (Jvm.Cond.methodLink "KindJudge$Layout" (68 : Nat) ({ cls := "KindJudge$Reader", name := "goesOn", desc := "()Z" } : Jvm.MethodName)), (Jvm.Cond.instanceMethod ({ cls := "KindJudge$Reader", name := "goesOn", desc := "()Z" } : Jvm.MethodName)), (Jvm.Cond.selects "KindJudge$Reader" ({ cls := "KindJudge$Reader", name := "goesOn", desc := "()Z" } : Jvm.MethodName) ({ cls := "KindJudge$Reader", name := "goesOn", desc := "()Z" } : Jvm.MethodName)), (Jvm.Cond.methodLink "KindJudge$Layout" (108 : Nat) ({ cls := "KindJudge$Reader", name := "ahead", desc := "()I" } : Jvm.MethodName)), (Jvm.Cond.instanceMethod ({ cls := "KindJudge$Reader", name := "ahead", desc := "()I" } : Jvm.MethodName)), (Jvm.Cond.selects "KindJudge$Reader" ({ cls := "KindJudge$Reader", name := "ahead", desc := "()I" } : Jvm.MethodName) ({ cls := "KindJudge$Reader", name := "ahead", desc := "()I" } : Jvm.MethodName)), (Jvm.Cond.methodLink "KindJudge$Layout" (111 : Nat) ({ cls := "KindJudge$Layout", name := "isGoodFor", desc := "(III)Z" } : Jvm.MethodName)), (Jvm.Cond.instanceMethod ({ cls := "KindJudge$Layout", name := "isGoodFor", desc := "(III)Z" } : Jvm.MethodName)), (Jvm.Cond.selects "KindJudge$Layout" ({ cls := "KindJudge$Layout", name := "isGoodFor", desc := "(III)Z" } : Jvm.MethodName) ({ cls := "KindJudge$Layout", name := "isGoodFor", desc := "(III)Z" } : Jvm.MethodName)), (Jvm.Cond.methodLink "KindJudge$Layout" (115 : Nat) ({ cls := "KindJudge$Reader", name := "pass", desc := "(Z)Z" } : Jvm.MethodName)), (Jvm.Cond.instanceMethod ({ cls := "KindJudge$Reader", name := "pass", desc := "(Z)Z" } : Jvm.MethodName)), (Jvm.Cond.selects "KindJudge$Reader" ({ cls := "KindJudge$Reader", name := "pass", desc := "(Z)Z" } : Jvm.MethodName) ({ cls := "KindJudge$Reader", name := "pass", desc := "(Z)Z" } : Jvm.MethodName)), (Jvm.Cond.fieldLink "KindJudge$Layout" (41 : Nat) "KindJudge$Layout" "table" "[I")]
set_option maxRecDepth 100000 in
set_option maxHeartbeats 4000000 in
theorem kjS_27 : ∀ w ∈ kjW_27, w ∈ lw_tbl := mv_sub_of [604, 68, 179, 605, 506, 507, 183, 152, 191, 581, 564, 565, 606, 555, 556, 607, 609, 10, 618, 560, 561, 196] (by decide +kernel)
set_option maxRecDepth 100000 in
set_option maxHeartbeats 4000000 in
theorem kjH_27 : mv_hdB kjW_27 kjM_27 = true := by decide +kernel
set_option maxRecDepth 100000 in
set_option maxHeartbeats 4000000 in
theorem kjK_27_0 : (kjT_27.take 20).all (mv_rowB kjW_27 kjCl kjKd kjP kjStn kjM_27) = true := by decide +kernel
set_option maxRecDepth 100000 in
set_option maxHeartbeats 4000000 in
theorem kjK_27_20 : ((kjT_27.drop 20).take 20).all (mv_rowB kjW_27 kjCl kjKd kjP kjStn kjM_27) = true := by decide +kernel
set_option maxRecDepth 100000 in
set_option maxHeartbeats 4000000 in
theorem kjK_27_40 : ((kjT_27.drop 40).take 20).all (mv_rowB kjW_27 kjCl kjKd kjP kjStn kjM_27) = true := by decide +kernel
set_option maxRecDepth 100000 in
set_option maxHeartbeats 4000000 in
theorem kjK_27_60 : (kjT_27.drop 60).all (mv_rowB kjW_27 kjCl kjKd kjP kjStn kjM_27) = true := by decide +kernel
