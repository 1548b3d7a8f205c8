def kjW_39 : List Jvm.Cond := [(Jvm.Cond.code ({ cls := "KindJudge$Classes", name := "fieldsOf", desc := "(I)I" } : Jvm.MethodName) prog_4_method_6_code (2 : Nat) (Option.some Jvm.ClassFile.FieldType.int)), (Jvm.Cond.initialized "KindJudge$Classes"), (Jvm.Cond.fieldLink "KindJudge$Classes" (30 : Nat) "KindJudge$Classes" "number" "I"), (Jvm.Cond.fieldLink "KindJudge$Classes" (15 : Nat) "KindJudge$Classes" "fieldCounts" "[I")]
set_option maxRecDepth 100000 in
set_option maxHeartbeats 4000000 in
theorem kjS_39 : ∀ w ∈ kjW_39, w ∈ lw_tbl := mv_sub_of [512, 69, 127, 124] (by decide +kernel)
set_option maxRecDepth 100000 in
set_option maxHeartbeats 4000000 in
theorem kjK_39 : mv_mkB kjW_39 kjCl kjKd kjP kjStn kjM_39 = true := by decide +kernel
def kjW_40 : List Jvm.Cond := [(Jvm.Cond.code ({ cls := "KindJudge$Classes", name := "fieldType", desc := "(II)I" } : Jvm.MethodName) prog_4_method_7_code (3 : Nat) (Option.some Jvm.ClassFile.FieldType.int)), (Jvm.Cond.initialized "KindJudge$Classes"), (Jvm.Cond.methodLink "KindJudge$Classes" (50 : Nat) ({ cls := "KindJudge$Classes", name := "fieldsOf", desc := "(I)I" } : Jvm.MethodName)), (Jvm.Cond.instanceMethod ({ cls := "KindJudge$Classes", name := "fieldsOf", desc := "(I)I" } : Jvm.MethodName)), (Jvm.Cond.selects "KindJudge$Classes" ({ cls := "KindJudge$Classes", name := "fieldsOf", desc := "(I)I" } : Jvm.MethodName) ({ cls := "KindJudge$Classes", name := "fieldsOf", desc := "(I)I" } : Jvm.MethodName)), (Jvm.Cond.fieldLink "KindJudge$Classes" (18 : Nat) "KindJudge$Classes" "fieldTypes" "[I")]
set_option maxRecDepth 100000 in
set_option maxHeartbeats 4000000 in
theorem kjS_40 : ∀ w ∈ kjW_40, w ∈ lw_tbl := mv_sub_of [516, 69, 517, 510, 511, 125] (by decide +kernel)
set_option maxRecDepth 100000 in
set_option maxHeartbeats 4000000 in
theorem kjK_40 : mv_mkB kjW_40 kjCl kjKd kjP kjStn kjM_40 = true := by decide +kernel
def kjW_41 : List Jvm.Cond := [(Jvm.Cond.code ({ cls := "KindJudge$Classes", name := "isOrIsBelow", desc := "(II)Z" } : Jvm.MethodName) prog_4_method_8_code (3 : Nat) (Option.some Jvm.ClassFile.FieldType.boolean)), (Jvm.Cond.initialized "KindJudge$Classes"), (Jvm.Cond.fieldLink "KindJudge$Classes" (30 : Nat) "KindJudge$Classes" "number" "I"), (Jvm.Cond.fieldLink "KindJudge$Classes" (21 : Nat) "KindJudge$Classes" "above" "[I")]
set_option maxRecDepth 100000 in
set_option maxHeartbeats 4000000 in
theorem kjS_41 : ∀ w ∈ kjW_41, w ∈ lw_tbl := mv_sub_of [475, 69, 127, 126] (by decide +kernel)
set_option maxRecDepth 100000 in
set_option maxHeartbeats 4000000 in
theorem kjK_41 : mv_mkB kjW_41 kjCl kjKd kjP kjStn kjM_41 = true := by decide +kernel
def kjW_42 : List Jvm.Cond := [(Jvm.Cond.code ({ cls := "KindJudge$Classes", name := "isKind", desc := "(I)Z" } : Jvm.MethodName) prog_4_method_9_code (2 : Nat) (Option.some Jvm.ClassFile.FieldType.boolean)), (Jvm.Cond.initialized "KindJudge$Classes"), (Jvm.Cond.methodLink "KindJudge$Classes" (54 : Nat) ({ cls := "KindJudge$Classes", name := "isType", desc := "(I)Z" } : Jvm.MethodName)), (Jvm.Cond.instanceMethod ({ cls := "KindJudge$Classes", name := "isType", desc := "(I)Z" } : Jvm.MethodName)), (Jvm.Cond.selects "KindJudge$Classes" ({ cls := "KindJudge$Classes", name := "isType", desc := "(I)Z" } : Jvm.MethodName) ({ cls := "KindJudge$Classes", name := "isType", desc := "(I)Z" } : Jvm.MethodName))]
set_option maxRecDepth 100000 in
set_option maxHeartbeats 4000000 in
theorem kjS_42 : ∀ w ∈ kjW_42, w ∈ lw_tbl := mv_sub_of [462, 69, 463, 464, 465] (by decide +kernel)
set_option maxRecDepth 100000 in
set_option maxHeartbeats 4000000 in
theorem kjK_42 : mv_mkB kjW_42 kjCl kjKd kjP kjStn kjM_42 = true := by decide +kernel
def kjW_43 : List Jvm.Cond := [(Jvm.Cond.code ({ cls := "KindJudge$Classes", name := "isType", desc := "(I)Z" } : Jvm.MethodName) prog_4_method_10_code (2 : Nat) (Option.some Jvm.ClassFile.FieldType.boolean)), (Jvm.Cond.initialized "KindJudge$Classes"), (Jvm.Cond.fieldLink "KindJudge$Classes" (30 : Nat) "KindJudge$Classes" "number" "I")]
set_option maxRecDepth 100000 in
set_option maxHeartbeats 4000000 in
theorem kjS_43 : ∀ w ∈ kjW_43, w ∈ lw_tbl := mv_sub_of [466, 69, 127] (by decide +kernel)
set_option maxRecDepth 100000 in
set_option maxHeartbeats 4000000 in
theorem kjK_43 : mv_mkB kjW_43 kjCl kjKd kjP kjStn kjM_43 = true := by decide +kernel
def kjW_44 : List Jvm.Cond := [(Jvm.Cond.code ({ cls := "KindJudge$Classes", name := "isFit", desc := "(II)Z" } : Jvm.MethodName) prog_4_method_11_code (3 : Nat) (Option.some Jvm.ClassFile.FieldType.boolean)), (Jvm.Cond.initialized "KindJudge$Classes"), (Jvm.Cond.methodLink "KindJudge$Classes" (58 : Nat) ({ cls := "KindJudge$Classes", name := "isOrIsBelow", desc := "(II)Z" } : Jvm.MethodName)), (Jvm.Cond.instanceMethod ({ cls := "KindJudge$Classes", name := "isOrIsBelow", desc := "(II)Z" } : Jvm.MethodName)), (Jvm.Cond.selects "KindJudge$Classes" ({ cls := "KindJudge$Classes", name := "isOrIsBelow", desc := "(II)Z" } : Jvm.MethodName) ({ cls := "KindJudge$Classes", name := "isOrIsBelow", desc := "(II)Z" } : Jvm.MethodName))]
set_option maxRecDepth 100000 in
set_option maxHeartbeats 4000000 in
theorem kjS_44 : ∀ w ∈ kjW_44, w ∈ lw_tbl := mv_sub_of [471, 69, 472, 473, 474] (by decide +kernel)
set_option maxRecDepth 100000 in
set_option maxHeartbeats 4000000 in
theorem kjK_44 : mv_mkB kjW_44 kjCl kjKd kjP kjStn kjM_44 = true := by decide +kernel
def kjW_45 : List Jvm.Cond := [(Jvm.Cond.code ({ cls := "KindJudge$Classes", name := "together", desc := "(II)I" } : Jvm.MethodName) prog_4_method_12_code (4 : Nat) (Option.some Jvm.ClassFile.FieldType.int)), (Jvm.Cond.initialized "KindJudge$Classes"), (Jvm.Cond.methodLink "KindJudge$Classes" (41 : Nat) ({ cls := "java/lang/Math", name := "min", desc := "(II)I" } : Jvm.MethodName)), (Jvm.Cond.static ({ cls := "java/lang/Math", name := "min", desc := "(II)I" } : Jvm.MethodName)), (Jvm.Cond.initialized "java/lang/Math"), (Jvm.Cond.code ({ cls := "java/lang/Math", name := "min", desc := "(II)I" } : Jvm.MethodName) prog_14_method_69_code (2 : Nat) (Option.some Jvm.ClassFile.FieldType.int)), (Jvm.Cond.methodLink "KindJudge$Classes" (58 : Nat) ({ cls := "KindJudge$Classes", name := "isOrIsBelow", desc := "(II)Z" } : Jvm.MethodName)), (Jvm.Cond.instanceMethod ({ cls := "KindJudge$Classes", name := "isOrIsBelow", desc := "(II)Z" } : Jvm.MethodName)), (Jvm.Cond.selects "KindJudge$Classes" ({ cls := "KindJudge$Classes", name := "isOrIsBelow", desc := "(II)Z" } : Jvm.MethodName) ({ cls := "KindJudge$Classes", name := "isOrIsBelow", desc := "(II)Z" } : Jvm.MethodName))]
set_option maxRecDepth 100000 in
set_option maxHeartbeats 4000000 in
theorem kjS_45 : ∀ w ∈ kjW_45, w ∈ lw_tbl := mv_sub_of [483, 69, 484, 485, 75, 486, 472, 473, 474] (by decide +kernel)
set_option maxRecDepth 100000 in
set_option maxHeartbeats 4000000 in
theorem kjH_45 : mv_hdB kjW_45 kjM_45 = true := by decide +kernel
set_option maxRecDepth 100000 in
set_option maxHeartbeats 4000000 in
theorem kjK_45_0 : (kjT_45.take 40).all (mv_rowB kjW_45 kjCl kjKd kjP kjStn kjM_45) = true := by decide +kernel
set_option maxRecDepth 100000 in
set_option maxHeartbeats 4000000 in
theorem kjK_45_40 : (kjT_45.drop 40).all (mv_rowB kjW_45 kjCl kjKd kjP kjStn kjM_45) = true := by decide +kernel
set_option maxRecDepth 100000 in
set_option maxHeartbeats 4000000 in
theorem kjK_45 : mv_mkB kjW_45 kjCl kjKd kjP kjStn kjM_45 = true := mv_mkB_of kjH_45 (mv_all_split (l := kjT_45) 40 kjK_45_0 kjK_45_40)
def kjW_46 : List Jvm.Cond := [(Jvm.Cond.code ({ cls := "KindJudge$Signatures", name := "<init>", desc := "()V" } : Jvm.MethodName) prog_9_method_1_code (1 : Nat) (Option.none : Option Jvm.ClassFile.FieldType)), (Jvm.Cond.initialized "KindJudge$Signatures"), (Jvm.Cond.methodLink "KindJudge$Signatures" (3 : Nat) ({ cls := "java/lang/Object", name := "<init>", desc := "()V" } : Jvm.MethodName)), (Jvm.Cond.instanceMethod ({ cls := "java/lang/Object", name := "<init>", desc := "()V" } : Jvm.MethodName)), (Jvm.Cond.code ({ cls := "java/lang/Object", name := "<init>", desc := "()V" } : Jvm.MethodName) object_method_1_code (1 : Nat) (Option.none : Option Jvm.ClassFile.FieldType)), (Jvm.Cond.arrayClass Jvm.ClassFile.FieldType.int), (Jvm.Cond.fieldLink "KindJudge$Signatures" (11 : Nat) "KindJudge$Signatures" "counts" "[I"), (Jvm.Cond.fieldLink "KindJudge$Signatures" (15 : Nat) "KindJudge$Signatures" "types" "[I"), (Jvm.Cond.fieldLink "KindJudge$Signatures" (18 : Nat) "KindJudge$Signatures" "returned" "[I")]
set_option maxRecDepth 100000 in
set_option maxHeartbeats 4000000 in
theorem kjS_46 : ∀ w ∈ kjW_46, w ∈ lw_tbl := mv_sub_of [146, 70, 147, 87, 88, 141, 148, 149, 150] (by decide +kernel)
set_option maxRecDepth 100000 in
set_option maxHeartbeats 4000000 in
theorem kjK_46 : mv_mkB kjW_46 kjCl kjKd kjP kjStn kjM_46 = true := by decide +kernel
def kjW_47 : List Jvm.Cond := [(Jvm.Cond.code ({ cls := "KindJudge$Signatures", name := "readNumber", desc := "(LKindJudge$Reader;II)V" } : Jvm.MethodName) prog_9_method_2_code (4 : Nat) (Option.none : Option Jvm.ClassFile.FieldType)), (Jvm.Cond.initialized "KindJudge$Signatures"), (Jvm.Cond.methodLink "KindJudge$Signatures" (21 : Nat) ({ cls := "java/lang/Math", name := "min", desc := "(II)I" } : Jvm.MethodName)), (Jvm.Cond.static ({ cls := "java/lang/Math", name := "min", desc := "(II)I" } : Jvm.MethodName)), (Jvm.Cond.initialized "java/lang/Math"), (Jvm.Cond.code ({ cls := "java/lang/Math", name := "min", desc := "(II)I" } : Jvm.MethodName) prog_14_method_69_code (2 : Nat) (Option.some Jvm.ClassFile.FieldType.int)), (Jvm.Cond.methodLink "KindJudge$Signatures" (27 : Nat) ({ cls := "KindJudge$Reader", name := "number", desc := "(II)I" } : Jvm.MethodName)), (Jvm.Cond.instanceMethod ({ cls := "KindJudge$Reader", name := "number", desc := "(II)I" } : Jvm.MethodName)), (Jvm.Cond.selects "KindJudge$Reader" ({ cls := "KindJudge$Reader", name := "number", desc := "(II)I" } : Jvm.MethodName) ({ cls := "KindJudge$Reader", name := "number", desc := "(II)I" } : Jvm.MethodName)), (Jvm.Cond.fieldLink "KindJudge$Signatures" (32 : Nat) "KindJudge$Signatures" "number" "I")]
set_option maxRecDepth 100000 in
set_option maxHeartbeats 4000000 in
theorem kjS_47 : ∀ w ∈ kjW_47, w ∈ lw_tbl := mv_sub_of [578, 70, 579, 485, 75, 486, 580, 551, 552, 151] (by decide +kernel)
set_option maxRecDepth 100000 in
set_option maxHeartbeats 4000000 in
theorem kjK_47 : mv_mkB kjW_47 kjCl kjKd kjP kjStn kjM_47 = true := by decide +kernel
def kjW_48 : List Jvm.Cond := [(Jvm.Cond.code ({ cls := "KindJudge$Signatures", name := "readOne", desc := "(LKindJudge$Reader;III)V" } : Jvm.MethodName) prog_9_method_3_code (6 : Nat) (Option.none : Option Jvm.ClassFile.FieldType)), (Jvm.Cond.initialized "KindJudge$Signatures"), (Jvm.Cond.fieldLink "KindJudge$Signatures" (11 : Nat) "KindJudge$Signatures" "counts" "[I"), (Jvm.Cond.methodLink "KindJudge$Signatures" (21 : Nat) ({ cls := "java/lang/Math", name := "min", desc := "(II)I" } : Jvm.MethodName)), (Jvm.Cond.static ({ cls := "java/lang/Math", name := "min", desc := "(II)I" } : Jvm.MethodName)), (Jvm.Cond.initialized "java/lang/Math"), (Jvm.Cond.code ({ cls := "java/lang/Math", name := "min", desc := "(II)I" } : Jvm.MethodName) prog_14_method_69_code (2 : Nat) (Option.some Jvm.ClassFile.FieldType.int)), (Jvm.Cond.methodLink "KindJudge$Signatures" (27 : Nat) ({ cls := "KindJudge$Reader", name := "number", desc := "(II)I" } : Jvm.MethodName)), (Jvm.Cond.instanceMethod ({ cls := "KindJudge$Reader", name := "number", desc := "(II)I" } : Jvm.MethodName)), (Jvm.Cond.selects "KindJudge$Reader" ({ cls := "KindJudge$Reader", name := "number", desc := "(II)I" } : Jvm.MethodName) ({ cls := "KindJudge$Reader", name := "number", desc := "(II)I" } : Jvm.MethodName)), (Jvm.Cond.fieldLink "KindJudge$Signatures" (15 : Nat) "KindJudge$Signatures" "types" "[I"), (Jvm.Cond.methodLink "KindJudge$Signatures" (35 : Nat) ({ cls := "KindJudge$Reader", name := "typeAmong", desc := "(IZ)I" } : Jvm.MethodName)), (Jvm.Cond.instanceMethod ({ cls := "KindJudge$Reader", name := "typeAmong", desc := "(IZ)I" } : Jvm.MethodName)), (Jvm.Cond.selects "KindJudge$Reader" ({ cls := "KindJudge$Reader", name := "typeAmong", desc := "(IZ)I" } : Jvm.MethodName) ({ cls := "KindJudge$Reader", name := "typeAmong", desc := "(IZ)I" } : Jvm.MethodName)), (Jvm.Cond.fieldLink "KindJudge$Signatures" (18 : Nat) "KindJudge$Signatures" "returned" "[I")]
set_option maxRecDepth 100000 in
set_option maxHeartbeats 4000000 in
theorem kjS_48 : ∀ w ∈ kjW_48, w ∈ lw_tbl := mv_sub_of [585, 70, 148, 579, 485, 75, 486, 580, 551, 552, 149, 586, 572, 573, 150] (by decide +kernel)
set_option maxRecDepth 100000 in
set_option maxHeartbeats 4000000 in
theorem kjK_48 : mv_mkB kjW_48 kjCl kjKd kjP kjStn kjM_48 = true := by decide +kernel
def kjW_49 : List Jvm.Cond := [(Jvm.Cond.code ({ cls := "KindJudge$Signatures", name := "has", desc := "(I)Z" } : Jvm.MethodName) prog_9_method_4_code (2 : Nat) (Option.some Jvm.ClassFile.FieldType.boolean)), (Jvm.Cond.initialized "KindJudge$Signatures"), (Jvm.Cond.fieldLink "KindJudge$Signatures" (32 : Nat) "KindJudge$Signatures" "number" "I")]
set_option maxRecDepth 100000 in
set_option maxHeartbeats 4000000 in
theorem kjS_49 : ∀ w ∈ kjW_49, w ∈ lw_tbl := mv_sub_of [411, 70, 151] (by decide +kernel)
set_option maxRecDepth 100000 in
set_option maxHeartbeats 4000000 in
theorem kjK_49 : mv_mkB kjW_49 kjCl kjKd kjP kjStn kjM_49 = true := by decide +kernel
def kjW_50 : List Jvm.Cond := [(Jvm.Cond.code ({ cls := "KindJudge$Signatures", name := "parametersOf", desc := "(I)I" } : Jvm.MethodName) prog_9_method_5_code (2 : Nat) (Option.some Jvm.ClassFile.FieldType.int)), (Jvm.Cond.initialized "KindJudge$Signatures"), (Jvm.Cond.fieldLink "KindJudge$Signatures" (32 : Nat) "KindJudge$Signatures" "number" "I"), (Jvm.Cond.fieldLink "KindJudge$Signatures" (11 : Nat) "KindJudge$Signatures" "counts" "[I")]
set_option maxRecDepth 100000 in
set_option maxHeartbeats 4000000 in
theorem kjS_50 : ∀ w ∈ kjW_50, w ∈ lw_tbl := mv_sub_of [435, 70, 151, 148] (by decide +kernel)
set_option maxRecDepth 100000 in
set_option maxHeartbeats 4000000 in
theorem kjK_50 : mv_mkB kjW_50 kjCl kjKd kjP kjStn kjM_50 = true := by decide +kernel
