set_option maxRecDepth 100000 in
set_option maxHeartbeats 4000000 in
theorem kjK_36_80 : ((kjT_36.drop 80).take 20).all (mv_rowB kjW_36 kjCl kjKd kjP kjStn kjM_36) = true := by decide +kernel
set_option maxRecDepth 100000 in
set_option maxHeartbeats 4000000 in
theorem kjK_36_100 : (kjT_36.drop 100).all (mv_rowB kjW_36 kjCl kjKd kjP kjStn kjM_36) = true := by decide +kernel
set_option maxRecDepth 100000 in
set_option maxHeartbeats 4000000 in
theorem kjK_36 : mv_mkB kjW_36 kjCl kjKd kjP kjStn kjM_36 = true := mv_mkB_of kjH_36 (mv_all_split (l := kjT_36) 20 kjK_36_0 (mv_all_split (l := (kjT_36.drop 20)) 20 kjK_36_20 (show ((kjT_36.drop 20).drop 20).all _ = true by rw [List.drop_drop]; exact (mv_all_split (l := (kjT_36.drop 40)) 20 kjK_36_40 (show ((kjT_36.drop 40).drop 20).all _ = true by rw [List.drop_drop]; exact (mv_all_split (l := (kjT_36.drop 60)) 20 kjK_36_60 (show ((kjT_36.drop 60).drop 20).all _ = true by rw [List.drop_drop]; exact (mv_all_split (l := (kjT_36.drop 80)) 20 kjK_36_80 (show ((kjT_36.drop 80).drop 20).all _ = true by rw [List.drop_drop]; exact kjK_36_100)))))))))
def kjW_37 : List Jvm.Cond := [(Jvm.Cond.code ({ cls := "KindJudge$Classes", name := "has", desc := "(I)Z" } : Jvm.MethodName) prog_4_method_4_code (2 : Nat) (Option.some Jvm.ClassFile.FieldType.boolean)), (Jvm.Cond.initialized "KindJudge$Classes"), (Jvm.Cond.fieldLink "KindJudge$Classes" (30 : Nat) "KindJudge$Classes" "number" "I")]
set_option maxRecDepth 100000 in
set_option maxHeartbeats 4000000 in
theorem kjS_37 : ∀ w ∈ kjW_37, w ∈ lw_tbl := mv_sub_of [498, 69, 127] (by decide +kernel)
set_option maxRecDepth 100000 in
set_option maxHeartbeats 4000000 in
theorem kjK_37 : mv_mkB kjW_37 kjCl kjKd kjP kjStn kjM_37 = true := by decide +kernel
def kjW_38 : List Jvm.Cond := [(Jvm.Cond.code ({ cls := "KindJudge$Classes", name := "superOf", desc := "(I)I" } : Jvm.MethodName) prog_4_method_5_code (2 : Nat) (Option.some Jvm.ClassFile.FieldType.int)), (Jvm.Cond.initialized "KindJudge$Classes"), (Jvm.Cond.fieldLink "KindJudge$Classes" (30 : Nat) "KindJudge$Classes" "number" "I"), (Jvm.Cond.fieldLink "KindJudge$Classes" (11 : Nat) "KindJudge$Classes" "supers" "[I")]
set_option maxRecDepth 100000 in
set_option maxHeartbeats 4000000 in
theorem kjS_38 : ∀ w ∈ kjW_38, w ∈ lw_tbl := mv_sub_of [508, 69, 127, 123] (by decide +kernel)
set_option maxRecDepth 100000 in
set_option maxHeartbeats 4000000 in
theorem kjK_38 : mv_mkB kjW_38 kjCl kjKd kjP kjStn kjM_38 = true := by decide +kernel
def kjW_39 : List Jvm.Cond := [(Jvm.Cond.code ({ cls := "KindJudge$Classes", name := "fieldsOf", desc := "(I)I" } : Jvm.MethodName) prog_4_method_6_code (2 : Nat) (Option.some Jvm.ClassFile.FieldType.int)), (Jvm.Cond.initialized "KindJudge$Classes"), (Jvm.Cond.fieldLink "KindJudge$Classes" (30 : Nat) "KindJudge$Classes" "number" "I"), (Jvm.Cond.fieldLink "KindJudge$Classes" (15 : Nat) "KindJudge$Classes" "fieldCounts" "[I")]
set_option maxRecDepth 100000 in
set_option maxHeartbeats 4000000 in
theorem kjS_39 : ∀ w ∈ kjW_39, w ∈ lw_tbl := mv_sub_of [512, 69, 127, 124] (by decide +kernel)
set_option maxRecDepth 100000 in
set_option maxHeartbeats 4000000 in
theorem kjK_39 : mv_mkB kjW_39 kjCl kjKd kjP kjStn kjM_39 = true := by decide +kernel
def kjW_40 : List Jvm.Cond := [(Jvm.Cond.code ({ cls := "KindJudge$Classes", name := "fieldType", desc := "(II)I" } : Jvm.MethodName) prog_4_method_7_code (3 : Nat) (Option.some Jvm.ClassFile.FieldType.int)), (Jvm.Cond.initialized "KindJudge$Classes"), (Jvm.Cond.methodLink "KindJudge$Classes" (50 : Nat) ({ cls := "KindJudge$Classes", name := "fieldsOf", desc := "(I)I" } : Jvm.MethodName)), (Jvm.Cond.instanceMethod ({ cls := "KindJudge$Classes", name := "fieldsOf", desc := "(I)I" } : Jvm.MethodName)), (Jvm.Cond.selects "KindJudge$Classes" ({ cls := "KindJudge$Classes", name := "fieldsOf", desc := "(I)I" } : Jvm.MethodName) ({ cls := "KindJudge$Classes", name := "fieldsOf", desc := "(I)I" } : Jvm.MethodName)), (Jvm.Cond.fieldLink "KindJudge$Classes" (18 : Nat) "KindJudge$Classes" "fieldTypes" "[I")]
set_option maxRecDepth 100000 in
set_option maxHeartbeats 4000000 in
theorem kjS_40 : ∀ w ∈ kjW_40, w ∈ lw_tbl := mv_sub_of [516, 69, 517, 510, 511, 125] (by decide +kernel)
set_option maxRecDepth 100000 in
set_option maxHeartbeats 4000000 in
theorem kjK_40 : mv_mkB kjW_40 kjCl kjKd kjP kjStn kjM_40 = true := by decide +kernel
def kjW_41 : List Jvm.Cond := [(Jvm.Cond.code ({ cls := "KindJudge$Classes", name := "isOrIsBelow", desc := "(II)Z" } : Jvm.MethodName) prog_4_method_8_code (3 : Nat) (Option.some Jvm.ClassFile.FieldType.boolean)), (Jvm.Cond.initialized "KindJudge$Classes"), (Jvm.Cond.fieldLink "KindJudge$Classes" (30 : Nat) "KindJudge$Classes" "number" "I"), (Jvm.Cond.fieldLink "KindJudge$Classes" (21 : Nat) "KindJudge$Classes" "above" "[I")]
set_option maxRecDepth 100000 in
set_option maxHeartbeats 4000000 in
theorem kjS_41 : ∀ w ∈ kjW_41, w ∈ lw_tbl := mv_sub_of [475, 69, 127, 126] (by decide +kernel)
set_option maxRecDepth 100000 in
set_option maxHeartbeats 4000000 in
theorem kjK_41 : mv_mkB kjW_41 kjCl kjKd kjP kjStn kjM_41 = true := by decide +kernel
def kjW_42 : List Jvm.Cond := [(Jvm.Cond.code ({ cls := "KindJudge$Classes", name := "isKind", desc := "(I)Z" } : Jvm.MethodName) prog_4_method_9_code (2 : Nat) (Option.some Jvm.ClassFile.FieldType.boolean)), (Jvm.Cond.initialized "KindJudge$Classes"), (Jvm.Cond.methodLink "KindJudge$Classes" (54 : Nat) ({ cls := "KindJudge$Classes", name := "isType", desc := "(I)Z" } : Jvm.MethodName)), (Jvm.Cond.instanceMethod ({ cls := "KindJudge$Classes", name := "isType", desc := "(I)Z" } : Jvm.MethodName)), (Jvm.Cond.selects "KindJudge$Classes" ({ cls := "KindJudge$Classes", name := "isType", desc := "(I)Z" } : Jvm.MethodName) ({ cls := "KindJudge$Classes", name := "isType", desc := "(I)Z" } : Jvm.MethodName))]
set_option maxRecDepth 100000 in
set_option maxHeartbeats 4000000 in
theorem kjS_42 : ∀ w ∈ kjW_42, w ∈ lw_tbl := mv_sub_of [462, 69, 463, 464, 465] (by decide +kernel)
set_option maxRecDepth 100000 in
set_option maxHeartbeats 4000000 in
theorem kjK_42 : mv_mkB kjW_42 kjCl kjKd kjP kjStn kjM_42 = true := by decide +kernel
def kjW_43 : List Jvm.Cond := [(Jvm.Cond.code ({ cls := "KindJudge$Classes", name := "isType", desc := "(I)Z" } : Jvm.MethodName) prog_4_method_10_code (2 : Nat) (Option.some Jvm.ClassFile.FieldType.boolean)), (Jvm.Cond.initialized "KindJudge$Classes"), (Jvm.Cond.fieldLink "KindJudge$Classes" (30 : Nat) "KindJudge$Classes" "number" "I")]
set_option maxRecDepth 100000 in
set_option maxHeartbeats 4000000 in
theorem kjS_43 : ∀ w ∈ kjW_43, w ∈ lw_tbl := mv_sub_of [466, 69, 127] (by decide +kernel)
set_option maxRecDepth 100000 in
set_option maxHeartbeats 4000000 in
theorem kjK_43 : mv_mkB kjW_43 kjCl kjKd kjP kjStn kjM_43 = true := by decide +kernel
def kjW_44 : List Jvm.Cond := [(Jvm.Cond.code ({ cls := "KindJudge$Classes", name := "isFit", desc := "(II)Z" } : Jvm.MethodName) prog_4_method_11_code (3 : Nat) (Option.some Jvm.ClassFile.FieldType.boolean)), (Jvm.Cond.initialized "KindJudge$Classes"), (Jvm.Cond.methodLink "KindJudge$Classes" (58 : Nat) ({ cls := "KindJudge$Classes", name := "isOrIsBelow", desc := "(II)Z" } : Jvm.MethodName)), (Jvm.Cond.instanceMethod ({ cls := "KindJudge$Classes", name := "isOrIsBelow", desc := "(II)Z" } : Jvm.MethodName)), (Jvm.Cond.selects "KindJudge$Classes" ({ cls := "KindJudge$Classes", name := "isOrIsBelow", desc := "(II)Z" } : Jvm.MethodName) ({ cls := "KindJudge$Classes", name := "isOrIsBelow", desc := "(II)Z" } : Jvm.MethodName))]
set_option maxRecDepth 100000 in
set_option maxHeartbeats 4000000 in
theorem kjS_44 : ∀ w ∈ kjW_44, w ∈ lw_tbl := mv_sub_of [471, 69, 472, 473, 474] (by decide +kernel)
set_option maxRecDepth 100000 in
set_option maxHeartbeats 4000000 in
theorem kjK_44 : mv_mkB kjW_44 kjCl kjKd kjP kjStn kjM_44 = true := by decide +kernel
def kjW_45 : List Jvm.Cond := [(Jvm.Cond.code ({ cls := "KindJudge$Classes", name := "together", desc := "(II)I" } : Jvm.MethodName) prog_4_method_12_code (4 : Nat) (Option.some Jvm.ClassFile.FieldType.int)), (Jvm.Cond.initialized "KindJudge$Classes"), (Jvm.Cond.methodLink "KindJudge$Classes" (41 : Nat) ({ cls := "java/lang/Math", name := "min", desc := "(II)I" } : Jvm.MethodName)), (Jvm.Cond.static ({ cls := "java/lang/Math", name := "min", desc := "(II)I" } : Jvm.MethodName)), (Jvm.Cond.initialized "java/lang/Math"), (Jvm.Cond.code ({ cls := "java/lang/Math", name := "min", desc := "(II)I" } : Jvm.MethodName) prog_14_method_69_code (2 : Nat) (Option.some Jvm.ClassFile.FieldType.int)), (Jvm.Cond.methodLink "KindJudge$Classes" (58 : Nat) ({ cls := "KindJudge$Classes", name := "isOrIsBelow", desc := "(II)Z" } : Jvm.MethodName)), (Jvm.Cond.instanceMethod ({ cls := "KindJudge$Classes", name := "isOrIsBelow", desc := "(II)Z" } : Jvm.MethodName)), (Jvm.Cond.selects "KindJudge$Classes" ({ cls := "KindJudge$Classes", name := "isOrIsBelow", desc := "(II)Z" } : Jvm.MethodName) ({ cls := "KindJudge$Classes", name := "isOrIsBelow", desc := "(II)Z" } : Jvm.MethodName))]
set_option maxRecDepth 100000 in
set_option maxHeartbeats 4000000 in
theorem kjS_45 : ∀ w ∈ kjW_45, w ∈ lw_tbl := mv_sub_of [483, 69, 484, 485, 75, 486, 472, 473, 474] (by decide +kernel)
set_option maxRecDepth 100000 in
set_option maxHeartbeats 4000000 in
theorem kjH_45 : mv_hdB kjW_45 kjM_45 = true := by decide +kernel
set_option maxRecDepth 100000 in
set_option maxHeartbeats 4000000 in
theorem kjK_45_0 : (kjT_45.take 20).all (mv_rowB kjW_45 kjCl kjKd kjP kjStn kjM_45) = true := by decide +kernel
set_option maxRecDepth 100000 in
set_option maxHeartbeats 4000000 in
theorem kjK_45_20 : ((kjT_45.drop 20).take 20).all (mv_rowB kjW_45 kjCl kjKd kjP kjStn kjM_45) = true := by decide +kernel
set_option maxRecDepth 100000 in
set_option maxHeartbeats 4000000 in
theorem kjK_45_40 : ((kjT_45.drop 40).take 20).all (mv_rowB kjW_45 kjCl kjKd kjP kjStn kjM_45) = true := by decide +kernel
set_option maxRecDepth 100000 in
set_option maxHeartbeats 4000000 in
theorem kjK_45_60 : (kjT_45.drop 60).all (mv_rowB kjW_45 kjCl kjKd kjP kjStn kjM_45) = true := by decide +kernel
set_option maxRecDepth 100000 in
set_option maxHeartbeats 4000000 in
theorem kjK_45 : mv_mkB kjW_45 kjCl kjKd kjP kjStn kjM_45 = true := mv_mkB_of kjH_45 (mv_all_split (l := kjT_45) 20 kjK_45_0 (mv_all_split (l := (kjT_45.drop 20)) 20 kjK_45_20 (show ((kjT_45.drop 20).drop 20).all _ = true by rw [List.drop_drop]; exact (mv_all_split (l := (kjT_45.drop 40)) 20 kjK_45_40 (show ((kjT_45.drop 40).drop 20).all _ = true by rw [List.drop_drop]; exact kjK_45_60)))))
def kjW_46 : List Jvm.Cond := [(Jvm.Cond.code ({ cls := "KindJudge$Signatures", name := "<init>", desc := "()V" } : Jvm.MethodName) prog_9_method_1_code (1 : Nat) (Option.none : Option Jvm.ClassFile.FieldType)), (Jvm.Cond.initialized "KindJudge$Signatures"), (Jvm.Cond.methodLink "KindJudge$Signatures" (3 : Nat) ({ cls := "java/lang/Object", name := "<init>", desc := "()V" } : Jvm.MethodName)), (Jvm.Cond.instanceMethod ({ cls := "java/lang/Object", name := "<init>", desc := "()V" } : Jvm.MethodName)), (Jvm.Cond.code ({ cls := "java/lang/Object", name := "<init>", desc := "()V" } : Jvm.MethodName) object_method_1_code (1 : Nat) (Option.none : Option Jvm.ClassFile.FieldType)), (Jvm.Cond.arrayClass Jvm.ClassFile.FieldType.int), (Jvm.Cond.fieldLink "KindJudge$Signatures" (11 : Nat) "KindJudge$Signatures" "counts" "[I"), (Jvm.Cond.fieldLink "KindJudge$Signatures" (15 : Nat) "KindJudge$Signatures" "types" "[I"), (Jvm.Cond.fieldLink "KindJudge$Signatures" (18 : Nat) "KindJudge$Signatures" "returned" "[I")]
set_option maxRecDepth 100000 in
set_option maxHeartbeats 4000000 in
theorem kjS_46 : ∀ w ∈ kjW_46, w ∈ lw_tbl := mv_sub_of [146, 70, 147, 87, 88, 141, 148, 149, 150] (by decide +kernel)
set_option maxRecDepth 100000 in
set_option maxHeartbeats 4000000 in
theorem kjK_46 : mv_mkB kjW_46 kjCl kjKd kjP kjStn kjM_46 = true := by decide +kernel
