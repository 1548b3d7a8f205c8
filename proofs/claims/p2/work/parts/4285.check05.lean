set_option maxRecDepth 100000 in
set_option maxHeartbeats 4000000 in
theorem kjK_27 : mv_mkB kjW_27 kjCl kjKd kjP kjStn kjM_27 = true := mv_mkB_of kjH_27 (mv_all_split (l := kjT_27) 20 kjK_27_0 (mv_all_split (l := (kjT_27.drop 20)) 20 kjK_27_20 (show ((kjT_27.drop 20).drop 20).all _ = true by rw [List.drop_drop]; exact (mv_all_split (l := (kjT_27.drop 40)) 20 kjK_27_40 (show ((kjT_27.drop 40).drop 20).all _ = true by rw [List.drop_drop]; exact kjK_27_60)))))
def kjW_28 : List Jvm.Cond := [(Jvm.Cond.code ({ cls := "KindJudge$Layout", name := "isGoodFor", desc := "(III)Z" } : Jvm.MethodName) prog_7_method_6_code (6 : Nat) (Option.some Jvm.ClassFile.FieldType.boolean)), (Jvm.Cond.initialized "KindJudge$Layout"), (Jvm.Cond.fieldLink "KindJudge$Layout" (21 : Nat) "KindJudge$Layout" "selectors" "LKindJudge$Signatures;"), (Jvm.Cond.methodLink "KindJudge$Layout" (95 : Nat) ({ cls := "KindJudge$Signatures", name := "parametersOf", desc := "(I)I" } : Jvm.MethodName)), (Jvm.Cond.instanceMethod ({ cls := "KindJudge$Signatures", name := "parametersOf", desc := "(I)I" } : Jvm.MethodName)), (Jvm.Cond.selects "KindJudge$Signatures" ({ cls := "KindJudge$Signatures", name := "parametersOf", desc := "(I)I" } : Jvm.MethodName) ({ cls := "KindJudge$Signatures", name := "parametersOf", desc := "(I)I" } : Jvm.MethodName)), (Jvm.Cond.fieldLink "KindJudge$Layout" (25 : Nat) "KindJudge$Layout" "methods" "LKindJudge$Signatures;"), (Jvm.Cond.methodLink "KindJudge$Layout" (91 : Nat) ({ cls := "KindJudge$Signatures", name := "has", desc := "(I)Z" } : Jvm.MethodName)), (Jvm.Cond.instanceMethod ({ cls := "KindJudge$Signatures", name := "has", desc := "(I)Z" } : Jvm.MethodName)), (Jvm.Cond.selects "KindJudge$Signatures" ({ cls := "KindJudge$Signatures", name := "has", desc := "(I)Z" } : Jvm.MethodName) ({ cls := "KindJudge$Signatures", name := "has", desc := "(I)Z" } : Jvm.MethodName)), (Jvm.Cond.methodLink "KindJudge$Layout" (119 : Nat) ({ cls := "KindJudge$Signatures", name := "returnedBy", desc := "(I)I" } : Jvm.MethodName)), (Jvm.Cond.instanceMethod ({ cls := "KindJudge$Signatures", name := "returnedBy", desc := "(I)I" } : Jvm.MethodName)), (Jvm.Cond.selects "KindJudge$Signatures" ({ cls := "KindJudge$Signatures", name := "returnedBy", desc := "(I)I" } : Jvm.MethodName) ({ cls := "KindJudge$Signatures", name := "returnedBy", desc := "(I)I" } : Jvm.MethodName)), (Jvm.Cond.methodLink "KindJudge$Layout" (122 : Nat) ({ cls := "KindJudge$Signatures", name := "parameter", desc := "(II)I" } : Jvm.MethodName)), (Jvm.Cond.instanceMethod ({ cls := "KindJudge$Signatures", name := "parameter", desc := "(II)I" } : Jvm.MethodName)), (Jvm.Cond.selects "KindJudge$Signatures" ({ cls := "KindJudge$Signatures", name := "parameter", desc := "(II)I" } : Jvm.MethodName) ({ cls := "KindJudge$Signatures", name := "parameter", desc := "(II)I" } : Jvm.MethodName)), (Jvm.Cond.fieldLink "KindJudge$Layout" (12 : Nat) "KindJudge$Layout" "classes" "LKindJudge$Classes;"), (Jvm.Cond.methodLink "KindJudge$Layout" (125 : Nat) ({ cls := "KindJudge$Classes", name := "isOrIsBelow", desc := "(II)Z" } : Jvm.MethodName)), (Jvm.Cond.instanceMethod ({ cls := "KindJudge$Classes", name := "isOrIsBelow", desc := "(II)Z" } : Jvm.MethodName)), (Jvm.Cond.selects "KindJudge$Classes" ({ cls := "KindJudge$Classes", name := "isOrIsBelow", desc := "(II)Z" } : Jvm.MethodName) ({ cls := "KindJudge$Classes", name := "isOrIsBelow", desc := "(II)Z" } : Jvm.MethodName))]
set_option maxRecDepth 100000 in
set_option maxHeartbeats 4000000 in
theorem kjS_28 : ∀ w ∈ kjW_28, w ∈ lw_tbl := mv_sub_of [610, 68, 183, 591, 433, 434, 187, 499, 409, 410, 611, 443, 444, 612, 613, 614, 179, 617, 473, 474] (by decide +kernel)
set_option maxRecDepth 100000 in
set_option maxHeartbeats 4000000 in
theorem kjH_28 : mv_hdB kjW_28 kjM_28 = true := by decide +kernel
set_option maxRecDepth 100000 in
set_option maxHeartbeats 4000000 in
theorem kjK_28_0 : (kjT_28.take 20).all (mv_rowB kjW_28 kjCl kjKd kjP kjStn kjM_28) = true := by decide +kernel
set_option maxRecDepth 100000 in
set_option maxHeartbeats 4000000 in
theorem kjK_28_20 : ((kjT_28.drop 20).take 20).all (mv_rowB kjW_28 kjCl kjKd kjP kjStn kjM_28) = true := by decide +kernel
set_option maxRecDepth 100000 in
set_option maxHeartbeats 4000000 in
theorem kjK_28_40 : ((kjT_28.drop 40).take 20).all (mv_rowB kjW_28 kjCl kjKd kjP kjStn kjM_28) = true := by decide +kernel
set_option maxRecDepth 100000 in
set_option maxHeartbeats 4000000 in
theorem kjK_28_60 : (kjT_28.drop 60).all (mv_rowB kjW_28 kjCl kjKd kjP kjStn kjM_28) = true := by decide +kernel
set_option maxRecDepth 100000 in
set_option maxHeartbeats 4000000 in
theorem kjK_28 : mv_mkB kjW_28 kjCl kjKd kjP kjStn kjM_28 = true := mv_mkB_of kjH_28 (mv_all_split (l := kjT_28) 20 kjK_28_0 (mv_all_split (l := (kjT_28.drop 20)) 20 kjK_28_20 (show ((kjT_28.drop 20).drop 20).all _ = true by rw [List.drop_drop]; exact (mv_all_split (l := (kjT_28.drop 40)) 20 kjK_28_40 (show ((kjT_28.drop 40).drop 20).all _ = true by rw [List.drop_drop]; exact kjK_28_60)))))
def kjW_29 : List Jvm.Cond := [(Jvm.Cond.code ({ cls := "KindJudge$Layout", name := "methodFor", desc := "(II)I" } : Jvm.MethodName) prog_7_method_7_code (3 : Nat) (Option.some Jvm.ClassFile.FieldType.int)), (Jvm.Cond.initialized "KindJudge$Layout"), (Jvm.Cond.fieldLink "KindJudge$Layout" (12 : Nat) "KindJudge$Layout" "classes" "LKindJudge$Classes;"), (Jvm.Cond.methodLink "KindJudge$Layout" (129 : Nat) ({ cls := "KindJudge$Classes", name := "has", desc := "(I)Z" } : Jvm.MethodName)), (Jvm.Cond.instanceMethod ({ cls := "KindJudge$Classes", name := "has", desc := "(I)Z" } : Jvm.MethodName)), (Jvm.Cond.selects "KindJudge$Classes" ({ cls := "KindJudge$Classes", name := "has", desc := "(I)Z" } : Jvm.MethodName) ({ cls := "KindJudge$Classes", name := "has", desc := "(I)Z" } : Jvm.MethodName)), (Jvm.Cond.fieldLink "KindJudge$Layout" (21 : Nat) "KindJudge$Layout" "selectors" "LKindJudge$Signatures;"), (Jvm.Cond.methodLink "KindJudge$Layout" (91 : Nat) ({ cls := "KindJudge$Signatures", name := "has", desc := "(I)Z" } : Jvm.MethodName)), (Jvm.Cond.instanceMethod ({ cls := "KindJudge$Signatures", name := "has", desc := "(I)Z" } : Jvm.MethodName)), (Jvm.Cond.selects "KindJudge$Signatures" ({ cls := "KindJudge$Signatures", name := "has", desc := "(I)Z" } : Jvm.MethodName) ({ cls := "KindJudge$Signatures", name := "has", desc := "(I)Z" } : Jvm.MethodName)), (Jvm.Cond.fieldLink "KindJudge$Layout" (41 : Nat) "KindJudge$Layout" "table" "[I")]
set_option maxRecDepth 100000 in
set_option maxHeartbeats 4000000 in
theorem kjS_29 : ∀ w ∈ kjW_29, w ∈ lw_tbl := mv_sub_of [494, 68, 179, 495, 496, 497, 183, 499, 409, 410, 196] (by decide +kernel)
set_option maxRecDepth 100000 in
set_option maxHeartbeats 4000000 in
theorem kjK_29 : mv_mkB kjW_29 kjCl kjKd kjP kjStn kjM_29 = true := by decide +kernel
def kjW_30 : List Jvm.Cond := [(Jvm.Cond.code ({ cls := "KindJudge$Layout", name := "localsOf", desc := "(I)I" } : Jvm.MethodName) prog_7_method_8_code (2 : Nat) (Option.some Jvm.ClassFile.FieldType.int)), (Jvm.Cond.initialized "KindJudge$Layout"), (Jvm.Cond.fieldLink "KindJudge$Layout" (25 : Nat) "KindJudge$Layout" "methods" "LKindJudge$Signatures;"), (Jvm.Cond.fieldLinkNest "KindJudge$Layout" (64 : Nat) "KindJudge$Signatures" "number" "I" "KindJudge"), (Jvm.Cond.fieldLink "KindJudge$Layout" (28 : Nat) "KindJudge$Layout" "locals" "[I")]
set_option maxRecDepth 100000 in
set_option maxHeartbeats 4000000 in
theorem kjS_30 : ∀ w ∈ kjW_30, w ∈ lw_tbl := mv_sub_of [349, 68, 187, 152, 192] (by decide +kernel)
set_option maxRecDepth 100000 in
set_option maxHeartbeats 4000000 in
theorem kjK_30 : mv_mkB kjW_30 kjCl kjKd kjP kjStn kjM_30 = true := by decide +kernel
def kjW_31 : List Jvm.Cond := [(Jvm.Cond.code ({ cls := "KindJudge$Layout", name := "stackOf", desc := "(I)I" } : Jvm.MethodName) prog_7_method_9_code (2 : Nat) (Option.some Jvm.ClassFile.FieldType.int)), (Jvm.Cond.initialized "KindJudge$Layout"), (Jvm.Cond.fieldLink "KindJudge$Layout" (25 : Nat) "KindJudge$Layout" "methods" "LKindJudge$Signatures;"), (Jvm.Cond.fieldLinkNest "KindJudge$Layout" (64 : Nat) "KindJudge$Signatures" "number" "I" "KindJudge"), (Jvm.Cond.fieldLink "KindJudge$Layout" (32 : Nat) "KindJudge$Layout" "stacks" "[I")]
set_option maxRecDepth 100000 in
set_option maxHeartbeats 4000000 in
theorem kjS_31 : ∀ w ∈ kjW_31, w ∈ lw_tbl := mv_sub_of [449, 68, 187, 152, 193] (by decide +kernel)
set_option maxRecDepth 100000 in
set_option maxHeartbeats 4000000 in
theorem kjK_31 : mv_mkB kjW_31 kjCl kjKd kjP kjStn kjM_31 = true := by decide +kernel
def kjW_32 : List Jvm.Cond := [(Jvm.Cond.code ({ cls := "KindJudge$Layout", name := "lengthOf", desc := "(I)I" } : Jvm.MethodName) prog_7_method_10_code (2 : Nat) (Option.some Jvm.ClassFile.FieldType.int)), (Jvm.Cond.initialized "KindJudge$Layout"), (Jvm.Cond.fieldLink "KindJudge$Layout" (25 : Nat) "KindJudge$Layout" "methods" "LKindJudge$Signatures;"), (Jvm.Cond.fieldLinkNest "KindJudge$Layout" (64 : Nat) "KindJudge$Signatures" "number" "I" "KindJudge"), (Jvm.Cond.fieldLink "KindJudge$Layout" (38 : Nat) "KindJudge$Layout" "lengths" "[I")]
set_option maxRecDepth 100000 in
set_option maxHeartbeats 4000000 in
theorem kjS_32 : ∀ w ∈ kjW_32, w ∈ lw_tbl := mv_sub_of [340, 68, 187, 152, 195] (by decide +kernel)
set_option maxRecDepth 100000 in
set_option maxHeartbeats 4000000 in
theorem kjK_32 : mv_mkB kjW_32 kjCl kjKd kjP kjStn kjM_32 = true := by decide +kernel
def kjW_33 : List Jvm.Cond := [(Jvm.Cond.code ({ cls := "KindJudge$Layout", name := "offset", desc := "(II)I" } : Jvm.MethodName) prog_7_method_11_code (3 : Nat) (Option.some Jvm.ClassFile.FieldType.int)), (Jvm.Cond.initialized "KindJudge$Layout"), (Jvm.Cond.methodLink "KindJudge$Layout" (130 : Nat) ({ cls := "KindJudge$Layout", name := "lengthOf", desc := "(I)I" } : Jvm.MethodName)), (Jvm.Cond.instanceMethod ({ cls := "KindJudge$Layout", name := "lengthOf", desc := "(I)I" } : Jvm.MethodName)), (Jvm.Cond.selects "KindJudge$Layout" ({ cls := "KindJudge$Layout", name := "lengthOf", desc := "(I)I" } : Jvm.MethodName) ({ cls := "KindJudge$Layout", name := "lengthOf", desc := "(I)I" } : Jvm.MethodName)), (Jvm.Cond.fieldLink "KindJudge$Layout" (35 : Nat) "KindJudge$Layout" "starts" "[I")]
set_option maxRecDepth 100000 in
set_option maxHeartbeats 4000000 in
theorem kjS_33 : ∀ w ∈ kjW_33, w ∈ lw_tbl := mv_sub_of [336, 68, 337, 338, 339, 194] (by decide +kernel)
set_option maxRecDepth 100000 in
set_option maxHeartbeats 4000000 in
theorem kjK_33 : mv_mkB kjW_33 kjCl kjKd kjP kjStn kjM_33 = true := by decide +kernel
def kjW_34 : List Jvm.Cond := [(Jvm.Cond.code ({ cls := "KindJudge$Classes", name := "<init>", desc := "()V" } : Jvm.MethodName) prog_4_method_1_code (1 : Nat) (Option.none : Option Jvm.ClassFile.FieldType)), (Jvm.Cond.initialized "KindJudge$Classes"), (Jvm.Cond.methodLink "KindJudge$Classes" (3 : Nat) ({ cls := "java/lang/Object", name := "<init>", desc := "()V" } : Jvm.MethodName)), (Jvm.Cond.instanceMethod ({ cls := "java/lang/Object", name := "<init>", desc := "()V" } : Jvm.MethodName)), (Jvm.Cond.code ({ cls := "java/lang/Object", name := "<init>", desc := "()V" } : Jvm.MethodName) object_method_1_code (1 : Nat) (Option.none : Option Jvm.ClassFile.FieldType)), (Jvm.Cond.arrayClass Jvm.ClassFile.FieldType.int), (Jvm.Cond.fieldLink "KindJudge$Classes" (11 : Nat) "KindJudge$Classes" "supers" "[I"), (Jvm.Cond.fieldLink "KindJudge$Classes" (15 : Nat) "KindJudge$Classes" "fieldCounts" "[I"), (Jvm.Cond.fieldLink "KindJudge$Classes" (18 : Nat) "KindJudge$Classes" "fieldTypes" "[I"), (Jvm.Cond.fieldLink "KindJudge$Classes" (21 : Nat) "KindJudge$Classes" "above" "[I")]
set_option maxRecDepth 100000 in
set_option maxHeartbeats 4000000 in
theorem kjS_34 : ∀ w ∈ kjW_34, w ∈ lw_tbl := mv_sub_of [121, 69, 122, 87, 88, 141, 123, 124, 125, 126] (by decide +kernel)
set_option maxRecDepth 100000 in
set_option maxHeartbeats 4000000 in
theorem kjK_34 : mv_mkB kjW_34 kjCl kjKd kjP kjStn kjM_34 = true := by decide +kernel
def kjW_35 : List Jvm.Cond := [(Jvm.Cond.code ({ cls := "KindJudge$Classes", name := "read", desc := "(LKindJudge$Reader;)V" } : Jvm.MethodName) prog_4_method_2_code (3 : Nat) (Option.none : Option Jvm.ClassFile.FieldType)), (Jvm.Cond.initialized "KindJudge$Classes"), (Jvm.Cond.methodLink "KindJudge$Classes" (24 : Nat) ({ cls := "KindJudge$Reader", name := "number", desc := "(II)I" } : Jvm.MethodName)), (Jvm.Cond.instanceMethod ({ cls := "KindJudge$Reader", name := "number", desc := "(II)I" } : Jvm.MethodName)), (Jvm.Cond.selects "KindJudge$Reader" ({ cls := "KindJudge$Reader", name := "number", desc := "(II)I" } : Jvm.MethodName) ({ cls := "KindJudge$Reader", name := "number", desc := "(II)I" } : Jvm.MethodName)), (Jvm.Cond.fieldLink "KindJudge$Classes" (30 : Nat) "KindJudge$Classes" "number" "I"), (Jvm.Cond.methodLink "KindJudge$Classes" (33 : Nat) ({ cls := "KindJudge$Reader", name := "goesOn", desc := "()Z" } : Jvm.MethodName)), (Jvm.Cond.instanceMethod ({ cls := "KindJudge$Reader", name := "goesOn", desc := "()Z" } : Jvm.MethodName)), (Jvm.Cond.selects "KindJudge$Reader" ({ cls := "KindJudge$Reader", name := "goesOn", desc := "()Z" } : Jvm.MethodName) ({ cls := "KindJudge$Reader", name := "goesOn", desc := "()Z" } : Jvm.MethodName)), (Jvm.Cond.methodLink "KindJudge$Classes" (37 : Nat) ({ cls := "KindJudge$Classes", name := "readOne", desc := "(LKindJudge$Reader;I)V" } : Jvm.MethodName)), (Jvm.Cond.instanceMethod ({ cls := "KindJudge$Classes", name := "readOne", desc := "(LKindJudge$Reader;I)V" } : Jvm.MethodName)), (Jvm.Cond.selects "KindJudge$Classes" ({ cls := "KindJudge$Classes", name := "readOne", desc := "(LKindJudge$Reader;I)V" } : Jvm.MethodName) ({ cls := "KindJudge$Classes", name := "readOne", desc := "(LKindJudge$Reader;I)V" } : Jvm.MethodName))]
set_option maxRecDepth 100000 in
set_option maxHeartbeats 4000000 in
theorem kjS_35 : ∀ w ∈ kjW_35, w ∈ lw_tbl := mv_sub_of [549, 69, 550, 551, 552, 127, 563, 564, 565, 567, 569, 7] (by decide +kernel)
set_option maxRecDepth 100000 in
set_option maxHeartbeats 4000000 in
theorem kjK_35 : mv_mkB kjW_35 kjCl kjKd kjP kjStn kjM_35 = true := by decide +kernel
def kjW_36 : List Jvm.Cond := [(Jvm.Cond.code ({ cls := "KindJudge$Classes", name := "readOne", desc := "(LKindJudge$Reader;I)V" } : Jvm.MethodName) prog_4_method_3_code (7 : Nat) (Option.none : Option Jvm.ClassFile.FieldType)), (Jvm.Cond.initialized "KindJudge$Classes"), (Jvm.Cond.methodLink "KindJudge$Classes" (24 : Nat) ({ cls := "KindJudge$Reader", name := "number", desc := "(II)I" } : Jvm.MethodName)), (Jvm.Cond.instanceMethod ({ cls := "KindJudge$Reader", name := "number", desc := "(II)I" } : Jvm.MethodName)), (Jvm.Cond.selects "KindJudge$Reader" ({ cls := "KindJudge$Reader", name := "number", desc := "(II)I" } : Jvm.MethodName) ({ cls := "KindJudge$Reader", name := "number", desc := "(II)I" } : Jvm.MethodName)), (Jvm.Cond.fieldLink "KindJudge$Classes" (15 : Nat) "KindJudge$Classes" "fieldCounts" "[I"), (Jvm.Cond.methodLink "KindJudge$Classes" (41 : Nat) ({ cls := "java/lang/Math", name := "min", desc := "(II)I" } : Jvm.MethodName)), (Jvm.Cond.static ({ cls := "java/lang/Math", name := "min", desc := "(II)I" } : Jvm.MethodName)), (Jvm.Cond.initialized "java/lang/Math"), (Jvm.Cond.code ({ cls := "java/lang/Math", name := "min", desc := "(II)I" } : Jvm.MethodName) prog_14_method_69_code (2 : Nat) (Option.some Jvm.ClassFile.FieldType.int)), (Jvm.Cond.fieldLink "KindJudge$Classes" (11 : Nat) "KindJudge$Classes" "supers" "[I"), (Jvm.Cond.fieldLink "KindJudge$Classes" (21 : Nat) "KindJudge$Classes" "above" "[I"), (Jvm.Cond.fieldLink "KindJudge$Classes" (18 : Nat) "KindJudge$Classes" "fieldTypes" "[I"), (Jvm.Cond.fieldLink "KindJudge$Classes" (30 : Nat) "KindJudge$Classes" "number" "I"), (Jvm.Cond.methodLink "KindJudge$Classes" (46 : Nat) ({ cls := "KindJudge$Reader", name := "typeAmong", desc := "(IZ)I" } : Jvm.MethodName)), (Jvm.Cond.instanceMethod ({ cls := "KindJudge$Reader", name := "typeAmong", desc := "(IZ)I" } : Jvm.MethodName)), (Jvm.Cond.selects "KindJudge$Reader" ({ cls := "KindJudge$Reader", name := "typeAmong", desc := "(IZ)I" } : Jvm.MethodName) ({ cls := "KindJudge$Reader", name := "typeAmong", desc := "(IZ)I" } : Jvm.MethodName))]
set_option maxRecDepth 100000 in
set_option maxHeartbeats 4000000 in
theorem kjS_36 : ∀ w ∈ kjW_36, w ∈ lw_tbl := mv_sub_of [570, 69, 550, 551, 552, 124, 484, 485, 75, 486, 123, 126, 125, 127, 571, 572, 573] (by decide +kernel)
set_option maxRecDepth 100000 in
set_option maxHeartbeats 4000000 in
theorem kjH_36 : mv_hdB kjW_36 kjM_36 = true := by decide +kernel
set_option maxRecDepth 100000 in
set_option maxHeartbeats 4000000 in
theorem kjK_36_0 : (kjT_36.take 20).all (mv_rowB kjW_36 kjCl kjKd kjP kjStn kjM_36) = true := by decide +kernel
set_option maxRecDepth 100000 in
set_option maxHeartbeats 4000000 in
theorem kjK_36_20 : ((kjT_36.drop 20).take 20).all (mv_rowB kjW_36 kjCl kjKd kjP kjStn kjM_36) = true := by decide +kernel
set_option maxRecDepth 100000 in
set_option maxHeartbeats 4000000 in
theorem kjK_36_40 : ((kjT_36.drop 40).take 20).all (mv_rowB kjW_36 kjCl kjKd kjP kjStn kjM_36) = true := by decide +kernel
set_option maxRecDepth 100000 in
set_option maxHeartbeats 4000000 in
theorem kjK_36_60 : ((kjT_36.drop 60).take 20).all (mv_rowB kjW_36 kjCl kjKd kjP kjStn kjM_36) = true := by decide +kernel
