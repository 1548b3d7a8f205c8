def kjW_24 : List Jvm.Cond := [(Jvm.Cond.code ({ cls := "KindJudge$Layout", name := "read", desc := "()Z" } : Jvm.MethodName) prog_7_method_2_code (2 : Nat) (Option.some Jvm.ClassFile.FieldType.boolean)), (Jvm.Cond.initialized "KindJudge$Layout"), (Jvm.Cond.fieldLink "KindJudge$Layout" (49 : Nat) "KindJudge$Layout" "reader" "LKindJudge$Reader;"), (Jvm.Cond.methodLink "KindJudge$Layout" (53 : Nat) ({ cls := "KindJudge$Reader", name := "begin", desc := "()V" } : Jvm.MethodName)), (Jvm.Cond.instanceMethod ({ cls := "KindJudge$Reader", name := "begin", desc := "()V" } : Jvm.MethodName)), (Jvm.Cond.selects "KindJudge$Reader" ({ cls := "KindJudge$Reader", name := "begin", desc := "()V" } : Jvm.MethodName) ({ cls := "KindJudge$Reader", name := "begin", desc := "()V" } : Jvm.MethodName)), (Jvm.Cond.fieldLink "KindJudge$Layout" (12 : Nat) "KindJudge$Layout" "classes" "LKindJudge$Classes;"), (Jvm.Cond.methodLink "KindJudge$Layout" (56 : Nat) ({ cls := "KindJudge$Classes", name := "read", desc := "(LKindJudge$Reader;)V" } : Jvm.MethodName)), (Jvm.Cond.instanceMethod ({ cls := "KindJudge$Classes", name := "read", desc := "(LKindJudge$Reader;)V" } : Jvm.MethodName)), (Jvm.Cond.selects "KindJudge$Classes" ({ cls := "KindJudge$Classes", name := "read", desc := "(LKindJudge$Reader;)V" } : Jvm.MethodName) ({ cls := "KindJudge$Classes", name := "read", desc := "(LKindJudge$Reader;)V" } : Jvm.MethodName)), (Jvm.Cond.fieldLink "KindJudge$Layout" (21 : Nat) "KindJudge$Layout" "selectors" "LKindJudge$Signatures;"), (Jvm.Cond.methodLink "KindJudge$Layout" (60 : Nat) ({ cls := "KindJudge$Signatures", name := "readNumber", desc := "(LKindJudge$Reader;II)V" } : Jvm.MethodName)), (Jvm.Cond.instanceMethod ({ cls := "KindJudge$Signatures", name := "readNumber", desc := "(LKindJudge$Reader;II)V" } : Jvm.MethodName)), (Jvm.Cond.selects "KindJudge$Signatures" ({ cls := "KindJudge$Signatures", name := "readNumber", desc := "(LKindJudge$Reader;II)V" } : Jvm.MethodName) ({ cls := "KindJudge$Signatures", name := "readNumber", desc := "(LKindJudge$Reader;II)V" } : Jvm.MethodName)), (Jvm.Cond.fieldLinkNest "KindJudge$Layout" (64 : Nat) "KindJudge$Signatures" "number" "I" "KindJudge"), (Jvm.Cond.fieldLink "KindJudge$Layout" (25 : Nat) "KindJudge$Layout" "methods" "LKindJudge$Signatures;"), (Jvm.Cond.methodLink "KindJudge$Layout" (68 : Nat) ({ cls := "KindJudge$Reader", name := "goesOn", desc := "()Z" } : Jvm.MethodName)), (Jvm.Cond.instanceMethod ({ cls := "KindJudge$Reader", name := "goesOn", desc := "()Z" } : Jvm.MethodName)), (Jvm.Cond.selects "KindJudge$Reader" ({ cls := "KindJudge$Reader", name := "goesOn", desc := "()Z" } : Jvm.MethodName) ({ cls := "KindJudge$Reader", name := "goesOn", desc := "()Z" } : Jvm.MethodName)), (Jvm.Cond.fieldLinkNest "KindJudge$Layout" (72 : Nat) "KindJudge$Classes" "number" "I" "KindJudge"), (Jvm.Cond.methodLink "KindJudge$Layout" (84 : Nat) ({ cls := "KindJudge$Reader", name := "isAtEnd", desc := "()Z" } : Jvm.MethodName)), (Jvm.Cond.instanceMethod ({ cls := "KindJudge$Reader", name := "isAtEnd", desc := "()Z" } : Jvm.MethodName)), (Jvm.Cond.selects "KindJudge$Reader" ({ cls := "KindJudge$Reader", name := "isAtEnd", desc := "()Z" } : Jvm.MethodName) ({ cls := "KindJudge$Reader", name := "isAtEnd", desc := "()Z" } : Jvm.MethodName))]
set_option maxRecDepth 100000 in
set_option maxHeartbeats 4000000 in
theorem kjS_24 : ∀ w ∈ kjW_24, w ∈ lw_tbl := mv_sub_of [541, 68, 191, 542, 543, 544, 179, 546, 547, 548, 183, 575, 576, 577, 152, 187, 581, 564, 565, 128, 619, 620, 621] (by decide +kernel)
set_option maxRecDepth 100000 in
set_option maxHeartbeats 4000000 in
theorem kjK_24 : mv_mkB kjW_24 kjCl kjKd kjP kjStn kjM_24 = true := by decide +kernel
def kjW_25 : List Jvm.Cond := [(Jvm.Cond.code ({ cls := "KindJudge$Layout", name := "faultPlace", desc := "()I" } : Jvm.MethodName) prog_7_method_3_code (1 : Nat) (Option.some Jvm.ClassFile.FieldType.int)), (Jvm.Cond.initialized "KindJudge$Layout"), (Jvm.Cond.fieldLink "KindJudge$Layout" (49 : Nat) "KindJudge$Layout" "reader" "LKindJudge$Reader;"), (Jvm.Cond.methodLink "KindJudge$Layout" (87 : Nat) ({ cls := "KindJudge$Reader", name := "place", desc := "()I" } : Jvm.MethodName)), (Jvm.Cond.instanceMethod ({ cls := "KindJudge$Reader", name := "place", desc := "()I" } : Jvm.MethodName)), (Jvm.Cond.selects "KindJudge$Reader" ({ cls := "KindJudge$Reader", name := "place", desc := "()I" } : Jvm.MethodName) ({ cls := "KindJudge$Reader", name := "place", desc := "()I" } : Jvm.MethodName))]
set_option maxRecDepth 100000 in
set_option maxHeartbeats 4000000 in
theorem kjS_25 : ∀ w ∈ kjW_25, w ∈ lw_tbl := mv_sub_of [626, 68, 191, 593, 594, 595] (by decide +kernel)
set_option maxRecDepth 100000 in
set_option maxHeartbeats 4000000 in
theorem kjK_25 : mv_mkB kjW_25 kjCl kjKd kjP kjStn kjM_25 = true := by decide +kernel
def kjW_29 : List Jvm.Cond := [(Jvm.Cond.code ({ cls := "KindJudge$Layout", name := "methodFor", desc := "(II)I" } : Jvm.MethodName) prog_7_method_7_code (3 : Nat) (Option.some Jvm.ClassFile.FieldType.int)), (Jvm.Cond.initialized "KindJudge$Layout"), (Jvm.Cond.fieldLink "KindJudge$Layout" (12 : Nat) "KindJudge$Layout" "classes" "LKindJudge$Classes;"), (Jvm.Cond.methodLink "KindJudge$Layout" (129 : Nat) ({ cls := "KindJudge$Classes", name := "has", desc := "(I)Z" } : Jvm.MethodName)), (Jvm.Cond.instanceMethod ({ cls := "KindJudge$Classes", name := "has", desc := "(I)Z" } : Jvm.MethodName)), (Jvm.Cond.selects "KindJudge$Classes" ({ cls := "KindJudge$Classes", name := "has", desc := "(I)Z" } : Jvm.MethodName) ({ cls := "KindJudge$Classes", name := "has", desc := "(I)Z" } : Jvm.MethodName))]
set_option maxRecDepth 100000 in
set_option maxHeartbeats 4000000 in
theorem kjS_29 : ∀ w ∈ kjW_29, w ∈ lw_tbl := mv_sub_of [494, 68, 179, 495, 496, 497] (by decide +kernel)
set_option maxRecDepth 100000 in
set_option maxHeartbeats 4000000 in
theorem kjK_29 : mv_mkB kjW_29 kjCl kjKd kjP kjStn kjM_29 = true := by decide +kernel
def kjW_32 : List Jvm.Cond := [(Jvm.Cond.code ({ cls := "KindJudge$Layout", name := "lengthOf", desc := "(I)I" } : Jvm.MethodName) prog_7_method_10_code (2 : Nat) (Option.some Jvm.ClassFile.FieldType.int)), (Jvm.Cond.initialized "KindJudge$Layout"), (Jvm.Cond.fieldLink "KindJudge$Layout" (25 : Nat) "KindJudge$Layout" "methods" "LKindJudge$Signatures;"), (Jvm.Cond.fieldLinkNest "KindJudge$Layout" (64 : Nat) "KindJudge$Signatures" "number" "I" "KindJudge")]
set_option maxRecDepth 100000 in
set_option maxHeartbeats 4000000 in
theorem kjS_32 : ∀ w ∈ kjW_32, w ∈ lw_tbl := mv_sub_of [340, 68, 187, 152] (by decide +kernel)
set_option maxRecDepth 100000 in
set_option maxHeartbeats 4000000 in
theorem kjK_32 : mv_mkB kjW_32 kjCl kjKd kjP kjStn kjM_32 = true := by decide +kernel
def kjW_33 : List Jvm.Cond := [(Jvm.Cond.code ({ cls := "KindJudge$Layout", name := "offset", desc := "(II)I" } : Jvm.MethodName) prog_7_method_11_code (3 : Nat) (Option.some Jvm.ClassFile.FieldType.int)), (Jvm.Cond.initialized "KindJudge$Layout"), (Jvm.Cond.methodLink "KindJudge$Layout" (130 : Nat) ({ cls := "KindJudge$Layout", name := "lengthOf", desc := "(I)I" } : Jvm.MethodName)), (Jvm.Cond.instanceMethod ({ cls := "KindJudge$Layout", name := "lengthOf", desc := "(I)I" } : Jvm.MethodName)), (Jvm.Cond.selects "KindJudge$Layout" ({ cls := "KindJudge$Layout", name := "lengthOf", desc := "(I)I" } : Jvm.MethodName) ({ cls := "KindJudge$Layout", name := "lengthOf", desc := "(I)I" } : Jvm.MethodName))]
set_option maxRecDepth 100000 in
set_option maxHeartbeats 4000000 in
theorem kjS_33 : ∀ w ∈ kjW_33, w ∈ lw_tbl := mv_sub_of [336, 68, 337, 338, 339] (by decide +kernel)
set_option maxRecDepth 100000 in
set_option maxHeartbeats 4000000 in
theorem kjK_33 : mv_mkB kjW_33 kjCl kjKd kjP kjStn kjM_33 = true := by decide +kernel
def kjW_34 : List Jvm.Cond := [(Jvm.Cond.code ({ cls := "KindJudge$Classes", name := "<init>", desc := "()V" } : Jvm.MethodName) prog_4_method_1_code (1 : Nat) (Option.none : Option Jvm.ClassFile.FieldType)), (Jvm.Cond.initialized "KindJudge$Classes"), (Jvm.Cond.methodLink "KindJudge$Classes" (3 : Nat) ({ cls := "java/lang/Object", name := "<init>", desc := "()V" } : Jvm.MethodName)), (Jvm.Cond.instanceMethod ({ cls := "java/lang/Object", name := "<init>", desc := "()V" } : Jvm.MethodName)), (Jvm.Cond.code ({ cls := "java/lang/Object", name := "<init>", desc := "()V" } : Jvm.MethodName) object_method_1_code (1 : Nat) (Option.none : Option Jvm.ClassFile.FieldType)), (Jvm.Cond.arrayClass Jvm.ClassFile.FieldType.int), (Jvm.Cond.fieldLink "KindJudge$Classes" (11 : Nat) "KindJudge$Classes" "supers" "[I"), (Jvm.Cond.fieldLink "KindJudge$Classes" (15 : Nat) "KindJudge$Classes" "fieldCounts" "[I"), (Jvm.Cond.fieldLink "KindJudge$Classes" (18 : Nat) "KindJudge$Classes" "fieldTypes" "[I"), (Jvm.Cond.fieldLink "KindJudge$Classes" (21 : Nat) "KindJudge$Classes" "above" "[I")]
set_option maxRecDepth 100000 in
set_option maxHeartbeats 4000000 in
theorem kjS_34 : ∀ w ∈ kjW_34, w ∈ lw_tbl := mv_sub_of [121, 69, 122, 87, 88, 141, 123, 124, 125, 126] (by decide +kernel)
set_option maxRecDepth 100000 in
set_option maxHeartbeats 4000000 in
theorem kjK_34 : mv_mkB kjW_34 kjCl kjKd kjP kjStn kjM_34 = true := by decide +kernel
def kjW_35 : List Jvm.Cond := [(Jvm.Cond.code ({ cls := "KindJudge$Classes", name := "read", desc := "(LKindJudge$Reader;)V" } : Jvm.MethodName) prog_4_method_2_code (3 : Nat) (Option.none : Option Jvm.ClassFile.FieldType)), (Jvm.Cond.initialized "KindJudge$Classes"), (Jvm.Cond.methodLink "KindJudge$Classes" (24 : Nat) ({ cls := "KindJudge$Reader", name := "number", desc := "(II)I" } : Jvm.MethodName)), (Jvm.Cond.instanceMethod ({ cls := "KindJudge$Reader", name := "number", desc := "(II)I" } : Jvm.MethodName)), (Jvm.Cond.selects "KindJudge$Reader" ({ cls := "KindJudge$Reader", name := "number", desc := "(II)I" } : Jvm.MethodName) ({ cls := "KindJudge$Reader", name := "number", desc := "(II)I" } : Jvm.MethodName)), (Jvm.Cond.fieldLink "KindJudge$Classes" (30 : Nat) "KindJudge$Classes" "number" "I")]
set_option maxRecDepth 100000 in
set_option maxHeartbeats 4000000 in
theorem kjS_35 : ∀ w ∈ kjW_35, w ∈ lw_tbl := mv_sub_of [549, 69, 550, 551, 552, 127] (by decide +kernel)
set_option maxRecDepth 100000 in
set_option maxHeartbeats 4000000 in
theorem kjK_35 : mv_mkB kjW_35 kjCl kjKd kjP kjStn kjM_35 = true := by decide +kernel
def kjW_37 : List Jvm.Cond := [(Jvm.Cond.code ({ cls := "KindJudge$Classes", name := "has", desc := "(I)Z" } : Jvm.MethodName) prog_4_method_4_code (2 : Nat) (Option.some Jvm.ClassFile.FieldType.boolean)), (Jvm.Cond.initialized "KindJudge$Classes"), (Jvm.Cond.fieldLink "KindJudge$Classes" (30 : Nat) "KindJudge$Classes" "number" "I")]
set_option maxRecDepth 100000 in
set_option maxHeartbeats 4000000 in
theorem kjS_37 : ∀ w ∈ kjW_37, w ∈ lw_tbl := mv_sub_of [498, 69, 127] (by decide +kernel)
set_option maxRecDepth 100000 in
set_option maxHeartbeats 4000000 in
theorem kjK_37 : mv_mkB kjW_37 kjCl kjKd kjP kjStn kjM_37 = true := by decide +kernel
def kjW_46 : List Jvm.Cond := [(Jvm.Cond.code ({ cls := "KindJudge$Signatures", name := "<init>", desc := "()V" } : Jvm.MethodName) prog_9_method_1_code (1 : Nat) (Option.none : Option Jvm.ClassFile.FieldType)), (Jvm.Cond.initialized "KindJudge$Signatures"), (Jvm.Cond.methodLink "KindJudge$Signatures" (3 : Nat) ({ cls := "java/lang/Object", name := "<init>", desc := "()V" } : Jvm.MethodName)), (Jvm.Cond.instanceMethod ({ cls := "java/lang/Object", name := "<init>", desc := "()V" } : Jvm.MethodName)), (Jvm.Cond.code ({ cls := "java/lang/Object", name := "<init>", desc := "()V" } : Jvm.MethodName) object_method_1_code (1 : Nat) (Option.none : Option Jvm.ClassFile.FieldType)), (Jvm.Cond.arrayClass Jvm.ClassFile.FieldType.int), (Jvm.Cond.fieldLink "KindJudge$Signatures" (11 : Nat) "KindJudge$Signatures" "counts" "[I"), (Jvm.Cond.fieldLink "KindJudge$Signatures" (15 : Nat) "KindJudge$Signatures" "types" "[I"), (Jvm.Cond.fieldLink "KindJudge$Signatures" (18 : Nat) "KindJudge$Signatures" "returned" "[I")]
set_option maxRecDepth 100000 in
set_option maxHeartbeats 4000000 in
theorem kjS_46 : ∀ w ∈ kjW_46, w ∈ lw_tbl := mv_sub_of [146, 70, 147, 87, 88, 141, 148, 149, 150] (by decide +kernel)
set_option maxRecDepth 100000 in
set_option maxHeartbeats 4000000 in
theorem kjK_46 : mv_mkB kjW_46 kjCl kjKd kjP kjStn kjM_46 = true := by decide +kernel
def kjW_47 : List Jvm.Cond := [(Jvm.Cond.code ({ cls := "KindJudge$Signatures", name := "readNumber", desc := "(LKindJudge$Reader;II)V" } : Jvm.MethodName) prog_9_method_2_code (4 : Nat) (Option.none : Option Jvm.ClassFile.FieldType)), (Jvm.Cond.initialized "KindJudge$Signatures"), (Jvm.Cond.methodLink "KindJudge$Signatures" (21 : Nat) ({ cls := "java/lang/Math", name := "min", desc := "(II)I" } : Jvm.MethodName)), (Jvm.Cond.static ({ cls := "java/lang/Math", name := "min", desc := "(II)I" } : Jvm.MethodName)), (Jvm.Cond.initialized "java/lang/Math"), (Jvm.Cond.code ({ cls := "java/lang/Math", name := "min", desc := "(II)I" } : Jvm.MethodName) prog_14_method_69_code (2 : Nat) (Option.some Jvm.ClassFile.FieldType.int)), (Jvm.Cond.methodLink "KindJudge$Signatures" (27 : Nat) ({ cls := "KindJudge$Reader", name := "number", desc := "(II)I" } : Jvm.MethodName)), (Jvm.Cond.instanceMethod ({ cls := "KindJudge$Reader", name := "number", desc := "(II)I" } : Jvm.MethodName)), (Jvm.Cond.selects "KindJudge$Reader" ({ cls := "KindJudge$Reader", name := "number", desc := "(II)I" } : Jvm.MethodName) ({ cls := "KindJudge$Reader", name := "number", desc := "(II)I" } : Jvm.MethodName)), (Jvm.Cond.fieldLink "KindJudge$Signatures" (32 : Nat) "KindJudge$Signatures" "number" "I")]
set_option maxRecDepth 100000 in
set_option maxHeartbeats 4000000 in
theorem kjS_47 : ∀ w ∈ kjW_47, w ∈ lw_tbl := mv_sub_of [578, 70, 579, 485, 75, 486, 580, 551, 552, 151] (by decide +kernel)
set_option maxRecDepth 100000 in
set_option maxHeartbeats 4000000 in
theorem kjK_47 : mv_mkB kjW_47 kjCl kjKd kjP kjStn kjM_47 = true := by decide +kernel
def kjW_49 : List Jvm.Cond := [(Jvm.Cond.code ({ cls := "KindJudge$Signatures", name := "has", desc := "(I)Z" } : Jvm.MethodName) prog_9_method_4_code (2 : Nat) (Option.some Jvm.ClassFile.FieldType.boolean)), (Jvm.Cond.initialized "KindJudge$Signatures"), (Jvm.Cond.fieldLink "KindJudge$Signatures" (32 : Nat) "KindJudge$Signatures" "number" "I")]
set_option maxRecDepth 100000 in
set_option maxHeartbeats 4000000 in
theorem kjS_49 : ∀ w ∈ kjW_49, w ∈ lw_tbl := mv_sub_of [411, 70, 151] (by decide +kernel)
set_option maxRecDepth 100000 in
set_option maxHeartbeats 4000000 in
theorem kjK_49 : mv_mkB kjW_49 kjCl kjKd kjP kjStn kjM_49 = true := by decide +kernel
def kjW_53 : List Jvm.Cond := [(Jvm.Cond.code ({ cls := "KindJudge$Reader", name := "<init>", desc := "(LKindJudge$Bytes;)V" } : Jvm.MethodName) prog_8_method_1_code (2 : Nat) (Option.none : Option Jvm.ClassFile.FieldType)), (Jvm.Cond.initialized "KindJudge$Reader"), (Jvm.Cond.methodLink "KindJudge$Reader" (3 : Nat) ({ cls := "java/lang/Object", name := "<init>", desc := "()V" } : Jvm.MethodName)), (Jvm.Cond.instanceMethod ({ cls := "java/lang/Object", name := "<init>", desc := "()V" } : Jvm.MethodName)), (Jvm.Cond.code ({ cls := "java/lang/Object", name := "<init>", desc := "()V" } : Jvm.MethodName) object_method_1_code (1 : Nat) (Option.none : Option Jvm.ClassFile.FieldType)), (Jvm.Cond.fieldLink "KindJudge$Reader" (9 : Nat) "KindJudge$Reader" "bytes" "LKindJudge$Bytes;")]
set_option maxRecDepth 100000 in
set_option maxHeartbeats 4000000 in
theorem kjS_53 : ∀ w ∈ kjW_53, w ∈ lw_tbl := mv_sub_of [167, 71, 168, 87, 88, 169] (by decide +kernel)
set_option maxRecDepth 100000 in
set_option maxHeartbeats 4000000 in
theorem kjK_53 : mv_mkB kjW_53 kjCl kjKd kjP kjStn kjM_53 = true := by decide +kernel
def kjW_54 : List Jvm.Cond := [(Jvm.Cond.code ({ cls := "KindJudge$Reader", name := "begin", desc := "()V" } : Jvm.MethodName) prog_8_method_2_code (1 : Nat) (Option.none : Option Jvm.ClassFile.FieldType)), (Jvm.Cond.initialized "KindJudge$Reader"), (Jvm.Cond.fieldLink "KindJudge$Reader" (15 : Nat) "KindJudge$Reader" "at" "I"), (Jvm.Cond.fieldLink "KindJudge$Reader" (19 : Nat) "KindJudge$Reader" "stopped" "Z")]
set_option maxRecDepth 100000 in
set_option maxHeartbeats 4000000 in
theorem kjS_54 : ∀ w ∈ kjW_54, w ∈ lw_tbl := mv_sub_of [545, 71, 170, 171] (by decide +kernel)
set_option maxRecDepth 100000 in
set_option maxHeartbeats 4000000 in
theorem kjK_54 : mv_mkB kjW_54 kjCl kjKd kjP kjStn kjM_54 = true := by decide +kernel
def kjW_55 : List Jvm.Cond := [(Jvm.Cond.code ({ cls := "KindJudge$Reader", name := "goesOn", desc := "()Z" } : Jvm.MethodName) prog_8_method_3_code (1 : Nat) (Option.some Jvm.ClassFile.FieldType.boolean)), (Jvm.Cond.initialized "KindJudge$Reader"), (Jvm.Cond.fieldLink "KindJudge$Reader" (19 : Nat) "KindJudge$Reader" "stopped" "Z")]
set_option maxRecDepth 100000 in
set_option maxHeartbeats 4000000 in
theorem kjS_55 : ∀ w ∈ kjW_55, w ∈ lw_tbl := mv_sub_of [566, 71, 171] (by decide +kernel)
set_option maxRecDepth 100000 in
set_option maxHeartbeats 4000000 in
theorem kjK_55 : mv_mkB kjW_55 kjCl kjKd kjP kjStn kjM_55 = true := by decide +kernel
def kjW_56 : List Jvm.Cond := [(Jvm.Cond.code ({ cls := "KindJudge$Reader", name := "isAtEnd", desc := "()Z" } : Jvm.MethodName) prog_8_method_4_code (1 : Nat) (Option.some Jvm.ClassFile.FieldType.boolean)), (Jvm.Cond.initialized "KindJudge$Reader"), (Jvm.Cond.fieldLink "KindJudge$Reader" (19 : Nat) "KindJudge$Reader" "stopped" "Z")]
set_option maxRecDepth 100000 in
set_option maxHeartbeats 4000000 in
theorem kjS_56 : ∀ w ∈ kjW_56, w ∈ lw_tbl := mv_sub_of [622, 71, 171] (by decide +kernel)
set_option maxRecDepth 100000 in
set_option maxHeartbeats 4000000 in
theorem kjK_56 : mv_mkB kjW_56 kjCl kjKd kjP kjStn kjM_56 = true := by decide +kernel
def kjW_57 : List Jvm.Cond := [(Jvm.Cond.code ({ cls := "KindJudge$Reader", name := "place", desc := "()I" } : Jvm.MethodName) prog_8_method_5_code (1 : Nat) (Option.some Jvm.ClassFile.FieldType.int)), (Jvm.Cond.initialized "KindJudge$Reader"), (Jvm.Cond.fieldLink "KindJudge$Reader" (15 : Nat) "KindJudge$Reader" "at" "I")]
set_option maxRecDepth 100000 in
set_option maxHeartbeats 4000000 in
theorem kjS_57 : ∀ w ∈ kjW_57, w ∈ lw_tbl := mv_sub_of [596, 71, 170] (by decide +kernel)
set_option maxRecDepth 100000 in
set_option maxHeartbeats 4000000 in
theorem kjK_57 : mv_mkB kjW_57 kjCl kjKd kjP kjStn kjM_57 = true := by decide +kernel
def kjW_58 : List Jvm.Cond := [(Jvm.Cond.code ({ cls := "KindJudge$Reader", name := "ahead", desc := "()I" } : Jvm.MethodName) prog_8_method_6_code (1 : Nat) (Option.some Jvm.ClassFile.FieldType.int)), (Jvm.Cond.initialized "KindJudge$Reader"), (Jvm.Cond.fieldLink "KindJudge$Reader" (19 : Nat) "KindJudge$Reader" "stopped" "Z"), (Jvm.Cond.fieldLink "KindJudge$Reader" (9 : Nat) "KindJudge$Reader" "bytes" "LKindJudge$Bytes;"), (Jvm.Cond.fieldLink "KindJudge$Reader" (15 : Nat) "KindJudge$Reader" "at" "I"), (Jvm.Cond.methodLink "KindJudge$Reader" (28 : Nat) ({ cls := "KindJudge$Bytes", name := "at", desc := "(I)I" } : Jvm.MethodName)), (Jvm.Cond.instanceMethod ({ cls := "KindJudge$Bytes", name := "at", desc := "(I)I" } : Jvm.MethodName)), (Jvm.Cond.selects "KindJudge$Bytes" ({ cls := "KindJudge$Bytes", name := "at", desc := "(I)I" } : Jvm.MethodName) ({ cls := "KindJudge$Bytes", name := "at", desc := "(I)I" } : Jvm.MethodName))]
set_option maxRecDepth 100000 in
set_option maxHeartbeats 4000000 in
theorem kjS_58 : ∀ w ∈ kjW_58, w ∈ lw_tbl := mv_sub_of [557, 71, 171, 169, 170, 558, 383, 384] (by decide +kernel)
set_option maxRecDepth 100000 in
set_option maxHeartbeats 4000000 in
theorem kjK_58 : mv_mkB kjW_58 kjCl kjKd kjP kjStn kjM_58 = true := by decide +kernel
def kjW_59 : List Jvm.Cond := [(Jvm.Cond.code ({ cls := "KindJudge$Reader", name := "pass", desc := "(Z)Z" } : Jvm.MethodName) prog_8_method_7_code (2 : Nat) (Option.some Jvm.ClassFile.FieldType.boolean)), (Jvm.Cond.initialized "KindJudge$Reader"), (Jvm.Cond.fieldLink "KindJudge$Reader" (19 : Nat) "KindJudge$Reader" "stopped" "Z")]
set_option maxRecDepth 100000 in
set_option maxHeartbeats 4000000 in
theorem kjS_59 : ∀ w ∈ kjW_59, w ∈ lw_tbl := mv_sub_of [562, 71, 171] (by decide +kernel)
set_option maxRecDepth 100000 in
set_option maxHeartbeats 4000000 in
theorem kjK_59 : mv_mkB kjW_59 kjCl kjKd kjP kjStn kjM_59 = true := by decide +kernel
def kjW_60 : List Jvm.Cond := [(Jvm.Cond.code ({ cls := "KindJudge$Reader", name := "number", desc := "(II)I" } : Jvm.MethodName) prog_8_method_8_code (4 : Nat) (Option.some Jvm.ClassFile.FieldType.int)), (Jvm.Cond.initialized "KindJudge$Reader"), (Jvm.Cond.methodLink "KindJudge$Reader" (31 : Nat) ({ cls := "KindJudge$Reader", name := "ahead", desc := "()I" } : Jvm.MethodName)), (Jvm.Cond.instanceMethod ({ cls := "KindJudge$Reader", name := "ahead", desc := "()I" } : Jvm.MethodName)), (Jvm.Cond.selects "KindJudge$Reader" ({ cls := "KindJudge$Reader", name := "ahead", desc := "()I" } : Jvm.MethodName) ({ cls := "KindJudge$Reader", name := "ahead", desc := "()I" } : Jvm.MethodName)), (Jvm.Cond.methodLink "KindJudge$Reader" (35 : Nat) ({ cls := "KindJudge$Reader", name := "pass", desc := "(Z)Z" } : Jvm.MethodName)), (Jvm.Cond.instanceMethod ({ cls := "KindJudge$Reader", name := "pass", desc := "(Z)Z" } : Jvm.MethodName)), (Jvm.Cond.selects "KindJudge$Reader" ({ cls := "KindJudge$Reader", name := "pass", desc := "(Z)Z" } : Jvm.MethodName) ({ cls := "KindJudge$Reader", name := "pass", desc := "(Z)Z" } : Jvm.MethodName))]
set_option maxRecDepth 100000 in
set_option maxHeartbeats 4000000 in
theorem kjS_60 : ∀ w ∈ kjW_60, w ∈ lw_tbl := mv_sub_of [553, 71, 554, 555, 556, 559, 560, 561] (by decide +kernel)
set_option maxRecDepth 100000 in
set_option maxHeartbeats 4000000 in
theorem kjK_60 : mv_mkB kjW_60 kjCl kjKd kjP kjStn kjM_60 = true := by decide +kernel
def kjW_63 : List Jvm.Cond := [(Jvm.Cond.code ({ cls := "KindJudge$Code", name := "<init>", desc := "(LKindJudge$Bytes;LKindJudge$Layout;)V" } : Jvm.MethodName) prog_5_method_1_code (3 : Nat) (Option.none : Option Jvm.ClassFile.FieldType)), (Jvm.Cond.initialized "KindJudge$Code"), (Jvm.Cond.methodLink "KindJudge$Code" (3 : Nat) ({ cls := "java/lang/Object", name := "<init>", desc := "()V" } : Jvm.MethodName)), (Jvm.Cond.instanceMethod ({ cls := "java/lang/Object", name := "<init>", desc := "()V" } : Jvm.MethodName)), (Jvm.Cond.code ({ cls := "java/lang/Object", name := "<init>", desc := "()V" } : Jvm.MethodName) object_method_1_code (1 : Nat) (Option.none : Option Jvm.ClassFile.FieldType)), (Jvm.Cond.arrayClass Jvm.ClassFile.FieldType.boolean), (Jvm.Cond.fieldLink "KindJudge$Code" (11 : Nat) "KindJudge$Code" "begun" "[Z"), (Jvm.Cond.fieldLink "KindJudge$Code" (17 : Nat) "KindJudge$Code" "bytes" "LKindJudge$Bytes;"), (Jvm.Cond.fieldLink "KindJudge$Code" (21 : Nat) "KindJudge$Code" "layout" "LKindJudge$Layout;")]
set_option maxRecDepth 100000 in
set_option maxHeartbeats 4000000 in
theorem kjS_63 : ∀ w ∈ kjW_63, w ∈ lw_tbl := mv_sub_of [220, 72, 221, 87, 88, 232, 224, 222, 223] (by decide +kernel)
set_option maxRecDepth 100000 in
set_option maxHeartbeats 4000000 in
theorem kjK_63 : mv_mkB kjW_63 kjCl kjKd kjP kjStn kjM_63 = true := by decide +kernel
def kjW_66 : List Jvm.Cond := [(Jvm.Cond.code ({ cls := "KindJudge$Code", name := "begins", desc := "(II)Z" } : Jvm.MethodName) prog_5_method_4_code (4 : Nat) (Option.some Jvm.ClassFile.FieldType.boolean)), (Jvm.Cond.initialized "KindJudge$Code"), (Jvm.Cond.fieldLink "KindJudge$Code" (21 : Nat) "KindJudge$Code" "layout" "LKindJudge$Layout;"), (Jvm.Cond.methodLink "KindJudge$Code" (42 : Nat) ({ cls := "KindJudge$Layout", name := "offset", desc := "(II)I" } : Jvm.MethodName)), (Jvm.Cond.instanceMethod ({ cls := "KindJudge$Layout", name := "offset", desc := "(II)I" } : Jvm.MethodName)), (Jvm.Cond.selects "KindJudge$Layout" ({ cls := "KindJudge$Layout", name := "offset", desc := "(II)I" } : Jvm.MethodName) ({ cls := "KindJudge$Layout", name := "offset", desc := "(II)I" } : Jvm.MethodName))]
set_option maxRecDepth 100000 in
set_option maxHeartbeats 4000000 in
theorem kjS_66 : ∀ w ∈ kjW_66, w ∈ lw_tbl := mv_sub_of [332, 72, 223, 333, 334, 335] (by decide +kernel)
set_option maxRecDepth 100000 in
set_option maxHeartbeats 4000000 in
theorem kjK_66 : mv_mkB kjW_66 kjCl kjKd kjP kjStn kjM_66 = true := by decide +kernel
def kjW_77 : List Jvm.Cond := [(Jvm.Cond.code ({ cls := "KindJudge$Flow", name := "<init>", desc := "(LKindJudge$Layout;LKindJudge$Code;)V" } : Jvm.MethodName) prog_6_method_1_code (3 : Nat) (Option.none : Option Jvm.ClassFile.FieldType)), (Jvm.Cond.initialized "KindJudge$Flow"), (Jvm.Cond.methodLink "KindJudge$Flow" (3 : Nat) ({ cls := "java/lang/Object", name := "<init>", desc := "()V" } : Jvm.MethodName)), (Jvm.Cond.instanceMethod ({ cls := "java/lang/Object", name := "<init>", desc := "()V" } : Jvm.MethodName)), (Jvm.Cond.code ({ cls := "java/lang/Object", name := "<init>", desc := "()V" } : Jvm.MethodName) object_method_1_code (1 : Nat) (Option.none : Option Jvm.ClassFile.FieldType)), (Jvm.Cond.arrayClass Jvm.ClassFile.FieldType.byte), (Jvm.Cond.fieldLink "KindJudge$Flow" (11 : Nat) "KindJudge$Flow" "heights" "[B"), (Jvm.Cond.arrayClass Jvm.ClassFile.FieldType.long), (Jvm.Cond.fieldLink "KindJudge$Flow" (17 : Nat) "KindJudge$Flow" "frames" "[J"), (Jvm.Cond.arrayClass Jvm.ClassFile.FieldType.boolean), (Jvm.Cond.fieldLink "KindJudge$Flow" (23 : Nat) "KindJudge$Flow" "changed" "[Z"), (Jvm.Cond.fieldLink "KindJudge$Flow" (27 : Nat) "KindJudge$Flow" "layout" "LKindJudge$Layout;"), (Jvm.Cond.fieldLink "KindJudge$Flow" (31 : Nat) "KindJudge$Flow" "code" "LKindJudge$Code;")]
set_option maxRecDepth 100000 in
set_option maxHeartbeats 4000000 in
theorem kjS_77 : ∀ w ∈ kjW_77, w ∈ lw_tbl := mv_sub_of [237, 73, 238, 87, 88, 110, 241, 276, 242, 232, 243, 239, 240] (by decide +kernel)
set_option maxRecDepth 100000 in
set_option maxHeartbeats 4000000 in
theorem kjK_77 : mv_mkB kjW_77 kjCl kjKd kjP kjStn kjM_77 = true := by decide +kernel
def kjW_100 : List Jvm.Cond := [(Jvm.Cond.code ({ cls := "KindJudgeModel", name := "<init>", desc := "()V" } : Jvm.MethodName) prog_11_method_1_code (1 : Nat) (Option.none : Option Jvm.ClassFile.FieldType)), (Jvm.Cond.initialized "KindJudgeModel"), (Jvm.Cond.methodLink "KindJudgeModel" (1 : Nat) ({ cls := "java/lang/Object", name := "<init>", desc := "()V" } : Jvm.MethodName)), (Jvm.Cond.instanceMethod ({ cls := "java/lang/Object", name := "<init>", desc := "()V" } : Jvm.MethodName)), (Jvm.Cond.code ({ cls := "java/lang/Object", name := "<init>", desc := "()V" } : Jvm.MethodName) object_method_1_code (1 : Nat) (Option.none : Option Jvm.ClassFile.FieldType)), (Jvm.Cond.arrayClass Jvm.ClassFile.FieldType.int), (Jvm.Cond.fieldLink "KindJudgeModel" (7 : Nat) "KindJudgeModel" "bytes" "[I"), (Jvm.Cond.fieldLink "KindJudgeModel" (13 : Nat) "KindJudgeModel" "read" "[I"), (Jvm.Cond.fieldLink "KindJudgeModel" (16 : Nat) "KindJudgeModel" "file" "[I"), (Jvm.Cond.fieldLink "KindJudgeModel" (19 : Nat) "KindJudgeModel" "above" "[I"), (Jvm.Cond.fieldLink "KindJudgeModel" (22 : Nat) "KindJudgeModel" "fields" "[I"), (Jvm.Cond.fieldLink "KindJudgeModel" (25 : Nat) "KindJudgeModel" "fieldType" "[I"), (Jvm.Cond.fieldLink "KindJudgeModel" (28 : Nat) "KindJudgeModel" "selParams" "[I"), (Jvm.Cond.fieldLink "KindJudgeModel" (31 : Nat) "KindJudgeModel" "selType" "[I"), (Jvm.Cond.fieldLink "KindJudgeModel" (34 : Nat) "KindJudgeModel" "selReturn" "[I"), (Jvm.Cond.fieldLink "KindJudgeModel" (37 : Nat) "KindJudgeModel" "params" "[I"), (Jvm.Cond.fieldLink "KindJudgeModel" (40 : Nat) "KindJudgeModel" "paramType" "[I"), (Jvm.Cond.fieldLink "KindJudgeModel" (43 : Nat) "KindJudgeModel" "returns" "[I"), (Jvm.Cond.fieldLink "KindJudgeModel" (46 : Nat) "KindJudgeModel" "locals" "[I"), (Jvm.Cond.fieldLink "KindJudgeModel" (49 : Nat) "KindJudgeModel" "most" "[I"), (Jvm.Cond.fieldLink "KindJudgeModel" (52 : Nat) "KindJudgeModel" "size" "[I"), (Jvm.Cond.fieldLink "KindJudgeModel" (55 : Nat) "KindJudgeModel" "code" "[I"), (Jvm.Cond.arrayClass Jvm.ClassFile.FieldType.boolean), (Jvm.Cond.fieldLink "KindJudgeModel" (58 : Nat) "KindJudgeModel" "begins" "[Z"), (Jvm.Cond.fieldLink "KindJudgeModel" (62 : Nat) "KindJudgeModel" "table" "[I"), (Jvm.Cond.fieldLink "KindJudgeModel" (65 : Nat) "KindJudgeModel" "height" "[I"), (Jvm.Cond.fieldLink "KindJudgeModel" (68 : Nat) "KindJudgeModel" "kinds" "[I"), (Jvm.Cond.fieldLink "KindJudgeModel" (71 : Nat) "KindJudgeModel" "next" "[I")]
set_option maxRecDepth 100000 in
set_option maxHeartbeats 4000000 in
theorem kjS_100 : ∀ w ∈ kjW_100, w ∈ lw_tbl := mv_sub_of [828, 74, 829, 87, 88, 141, 833, 834, 836, 843, 844, 845, 847, 848, 849, 851, 852, 853, 854, 855, 856, 857, 232, 858, 859, 860, 861, 862] (by decide +kernel)
set_option maxRecDepth 100000 in
set_option maxHeartbeats 4000000 in
theorem kjH_100 : mv_hdB kjW_100 kjM_100 = true := by decide +kernel
set_option maxRecDepth 100000 in
set_option maxHeartbeats 4000000 in
theorem kjK_100_0 : (kjT_100.take 40).all (mv_rowB kjW_100 kjCl kjKd kjP kjStn kjM_100) = true := by decide +kernel
set_option maxRecDepth 100000 in
set_option maxHeartbeats 4000000 in
theorem kjK_100_40 : ((kjT_100.drop 40).take 40).all (mv_rowB kjW_100 kjCl kjKd kjP kjStn kjM_100) = true := by decide +kernel
