def kjW_47 : List Jvm.Cond := [(Jvm.Cond.code ({ cls := "KindJudge$Signatures", name := "readNumber", desc := "(LKindJudge$Reader;II)V" } : Jvm.MethodName) prog_9_method_2_code (4 : Nat) (Option.none : Option Jvm.ClassFile.FieldType)), (Jvm.Cond.initialized "KindJudge$Signatures"), (Jvm.Cond.methodLink "KindJudge$Signatures" (21 : Nat) ({ cls := "java/lang/Math", name := "min", desc := "(II)I" } : Jvm.MethodName)), (Jvm.Cond.static ({ cls := "java/lang/Math", name := "min", desc := "(II)I" } : Jvm.MethodName)), (Jvm.Cond.initialized "java/lang/Math"), (Jvm.Cond.code ({ cls := "java/lang/Math", name := "min", desc := "(II)I" } : Jvm.MethodName) prog_14_method_69_code (2 : Nat) (Option.some Jvm.ClassFile.FieldType.int)), (Jvm.Cond.methodLink "KindJudge$Signatures" (27 : Nat) ({ cls := "KindJudge$Reader", name := "number", desc := "(II)I" } : Jvm.MethodName)), (Jvm.Cond.instanceMethod ({ cls := "KindJudge$Reader", name := "number", desc := "(II)I" } : Jvm.MethodName)), (Jvm.Cond.selects "KindJudge$Reader" ({ cls := "KindJudge$Reader", name := "number", desc := "(II)I" } : Jvm.MethodName) ({ cls := "KindJudge$Reader", name := "number", desc := "(II)I" } : Jvm.MethodName)), (Jvm.Cond.fieldLink "KindJudge$Signatures" (32 : Nat) "KindJudge$Signatures" "number" "I")]
set_option maxRecDepth 100000 in
set_option maxHeartbeats 4000000 in
theorem kjS_47 : ∀ w ∈ kjW_47, w ∈ lw_tbl := mv_sub_of [578, 70, 579, 485, 75, 486, 580, 551, 552, 151] (by decide +kernel)
set_option maxRecDepth 100000 in
set_option maxHeartbeats 4000000 in
theorem kjK_47 : mv_mkB kjW_47 kjCl kjKd kjP kjStn kjM_47 = true := by decide +kernel
def kjW_48 : List Jvm.Cond := [(Jvm.Cond.code ({ cls := "KindJudge$Signatures", name := "readOne", desc := "(LKindJudge$Reader;III)V" } : Jvm.MethodName) prog_9_method_3_code (6 : Nat) (Option.none : Option Jvm.ClassFile.FieldType)), (Jvm.Cond.initialized "KindJudge$Signatures"), (Jvm.Cond.fieldLink "KindJudge$Signatures" (11 : Nat) "KindJudge$Signatures" "counts" "[I"), (Jvm.Cond.methodLink "KindJudge$Signatures" (21 : Nat) ({ cls := "java/lang/Math", name := "min", desc := "(II)I" } : Jvm.MethodName)), (Jvm.Cond.static ({ cls := "java/lang/Math", name := "min", desc := "(II)I" } : Jvm.MethodName)), (Jvm.Cond.initialized "java/lang/Math"), (Jvm.Cond.code ({ cls := "java/lang/Math", name := "min", desc := "(II)I" } : Jvm.MethodName) prog_14_method_69_code (2 : Nat) (Option.some Jvm.ClassFile.FieldType.int)), (Jvm.Cond.methodLink "KindJudge$Signatures" (27 : Nat) ({ cls := "KindJudge$Reader", name := "number", desc := "(II)I" } : Jvm.MethodName)), (Jvm.Cond.instanceMethod ({ cls := "KindJudge$Reader", name := "number", desc := "(II)I" } : Jvm.MethodName)), (Jvm.Cond.selects "KindJudge$Reader" ({ cls := "KindJudge$Reader", name := "number", desc := "(II)I" } : Jvm.MethodName) ({ cls := "KindJudge$Reader", name := "number", desc := "(II)I" } : Jvm.MethodName)), (Jvm.Cond.fieldLink "KindJudge$Signatures" (15 : Nat) "KindJudge$Signatures" "types" "[I"), (Jvm.Cond.methodLink "KindJudge$Signatures" (35 : Nat) ({ cls := "KindJudge$Reader", name := "typeAmong", desc := "(IZ)I" } : Jvm.MethodName)), (Jvm.Cond.instanceMethod ({ cls := "KindJudge$Reader", name := "typeAmong", desc := "(IZ)I" } : Jvm.MethodName)), (Jvm.Cond.selects "KindJudge$Reader" ({ cls := "KindJudge$Reader", name := "typeAmong", desc := "(IZ)I" } : Jvm.MethodName) ({ cls := "KindJudge$Reader", name := "typeAmong", desc := "(IZ)I" } : Jvm.MethodName)), (Jvm.Cond.fieldLink "KindJudge$Signatures" (18 : Nat) "KindJudge$Signatures" "returned" "[I")]
set_option maxRecDepth 100000 in
set_option maxHeartbeats 4000000 in
theorem kjS_48 : ∀ w ∈ kjW_48, w ∈ lw_tbl := mv_sub_of [585, 70, 148, 579, 485, 75, 486, 580, 551, 552, 149, 586, 572, 573, 150] (by decide +kernel)
set_option maxRecDepth 100000 in
set_option maxHeartbeats 4000000 in
theorem kjK_48 : mv_mkB kjW_48 kjCl kjKd kjP kjStn kjM_48 = true := by decide +kernel
def kjW_49 : List Jvm.Cond := [(Jvm.Cond.code ({ cls := "KindJudge$Signatures", name := "has", desc := "(I)Z" } : Jvm.MethodName) prog_9_method_4_code (2 : Nat) (Option.some Jvm.ClassFile.FieldType.boolean)), (Jvm.Cond.initialized "KindJudge$Signatures"), (Jvm.Cond.fieldLink "KindJudge$Signatures" (32 : Nat) "KindJudge$Signatures" "number" "I")]
set_option maxRecDepth 100000 in
set_option maxHeartbeats 4000000 in
theorem kjS_49 : ∀ w ∈ kjW_49, w ∈ lw_tbl := mv_sub_of [411, 70, 151] (by decide +kernel)
set_option maxRecDepth 100000 in
set_option maxHeartbeats 4000000 in
theorem kjK_49 : mv_mkB kjW_49 kjCl kjKd kjP kjStn kjM_49 = true := by decide +kernel
def kjW_50 : List Jvm.Cond := [(Jvm.Cond.code ({ cls := "KindJudge$Signatures", name := "parametersOf", desc := "(I)I" } : Jvm.MethodName) prog_9_method_5_code (2 : Nat) (Option.some Jvm.ClassFile.FieldType.int)), (Jvm.Cond.initialized "KindJudge$Signatures"), (Jvm.Cond.fieldLink "KindJudge$Signatures" (32 : Nat) "KindJudge$Signatures" "number" "I"), (Jvm.Cond.fieldLink "KindJudge$Signatures" (11 : Nat) "KindJudge$Signatures" "counts" "[I")]
set_option maxRecDepth 100000 in
set_option maxHeartbeats 4000000 in
theorem kjS_50 : ∀ w ∈ kjW_50, w ∈ lw_tbl := mv_sub_of [435, 70, 151, 148] (by decide +kernel)
set_option maxRecDepth 100000 in
set_option maxHeartbeats 4000000 in
theorem kjK_50 : mv_mkB kjW_50 kjCl kjKd kjP kjStn kjM_50 = true := by decide +kernel
def kjW_51 : List Jvm.Cond := [(Jvm.Cond.code ({ cls := "KindJudge$Signatures", name := "parameter", desc := "(II)I" } : Jvm.MethodName) prog_9_method_6_code (3 : Nat) (Option.some Jvm.ClassFile.FieldType.int)), (Jvm.Cond.initialized "KindJudge$Signatures"), (Jvm.Cond.methodLink "KindJudge$Signatures" (39 : Nat) ({ cls := "KindJudge$Signatures", name := "parametersOf", desc := "(I)I" } : Jvm.MethodName)), (Jvm.Cond.instanceMethod ({ cls := "KindJudge$Signatures", name := "parametersOf", desc := "(I)I" } : Jvm.MethodName)), (Jvm.Cond.selects "KindJudge$Signatures" ({ cls := "KindJudge$Signatures", name := "parametersOf", desc := "(I)I" } : Jvm.MethodName) ({ cls := "KindJudge$Signatures", name := "parametersOf", desc := "(I)I" } : Jvm.MethodName)), (Jvm.Cond.fieldLink "KindJudge$Signatures" (15 : Nat) "KindJudge$Signatures" "types" "[I")]
set_option maxRecDepth 100000 in
set_option maxHeartbeats 4000000 in
theorem kjS_51 : ∀ w ∈ kjW_51, w ∈ lw_tbl := mv_sub_of [615, 70, 616, 433, 434, 149] (by decide +kernel)
set_option maxRecDepth 100000 in
set_option maxHeartbeats 4000000 in
theorem kjK_51 : mv_mkB kjW_51 kjCl kjKd kjP kjStn kjM_51 = true := by decide +kernel
def kjW_52 : List Jvm.Cond := [(Jvm.Cond.code ({ cls := "KindJudge$Signatures", name := "returnedBy", desc := "(I)I" } : Jvm.MethodName) prog_9_method_7_code (2 : Nat) (Option.some Jvm.ClassFile.FieldType.int)), (Jvm.Cond.initialized "KindJudge$Signatures"), (Jvm.Cond.fieldLink "KindJudge$Signatures" (32 : Nat) "KindJudge$Signatures" "number" "I"), (Jvm.Cond.fieldLink "KindJudge$Signatures" (18 : Nat) "KindJudge$Signatures" "returned" "[I")]
set_option maxRecDepth 100000 in
set_option maxHeartbeats 4000000 in
theorem kjS_52 : ∀ w ∈ kjW_52, w ∈ lw_tbl := mv_sub_of [445, 70, 151, 150] (by decide +kernel)
set_option maxRecDepth 100000 in
set_option maxHeartbeats 4000000 in
theorem kjK_52 : mv_mkB kjW_52 kjCl kjKd kjP kjStn kjM_52 = true := by decide +kernel
def kjW_53 : List Jvm.Cond := [(Jvm.Cond.code ({ cls := "KindJudge$Reader", name := "<init>", desc := "(LKindJudge$Bytes;)V" } : Jvm.MethodName) prog_8_method_1_code (2 : Nat) (Option.none : Option Jvm.ClassFile.FieldType)), (Jvm.Cond.initialized "KindJudge$Reader"), (Jvm.Cond.methodLink "KindJudge$Reader" (3 : Nat) ({ cls := "java/lang/Object", name := "<init>", desc := "()V" } : Jvm.MethodName)), (Jvm.Cond.instanceMethod ({ cls := "java/lang/Object", name := "<init>", desc := "()V" } : Jvm.MethodName)), (Jvm.Cond.code ({ cls := "java/lang/Object", name := "<init>", desc := "()V" } : Jvm.MethodName) object_method_1_code (1 : Nat) (Option.none : Option Jvm.ClassFile.FieldType)), (Jvm.Cond.fieldLink "KindJudge$Reader" (9 : Nat) "KindJudge$Reader" "bytes" "LKindJudge$Bytes;")]
set_option maxRecDepth 100000 in
set_option maxHeartbeats 4000000 in
theorem kjS_53 : ∀ w ∈ kjW_53, w ∈ lw_tbl := mv_sub_of [167, 71, 168, 87, 88, 169] (by decide +kernel)
set_option maxRecDepth 100000 in
set_option maxHeartbeats 4000000 in
theorem kjK_53 : mv_mkB kjW_53 kjCl kjKd kjP kjStn kjM_53 = true := by decide +kernel
def kjW_54 : List Jvm.Cond := [(Jvm.Cond.code ({ cls := "KindJudge$Reader", name := "begin", desc := "()V" } : Jvm.MethodName) prog_8_method_2_code (1 : Nat) (Option.none : Option Jvm.ClassFile.FieldType)), (Jvm.Cond.initialized "KindJudge$Reader"), (Jvm.Cond.fieldLink "KindJudge$Reader" (15 : Nat) "KindJudge$Reader" "at" "I"), (Jvm.Cond.fieldLink "KindJudge$Reader" (19 : Nat) "KindJudge$Reader" "stopped" "Z")]
set_option maxRecDepth 100000 in
set_option maxHeartbeats 4000000 in
theorem kjS_54 : ∀ w ∈ kjW_54, w ∈ lw_tbl := mv_sub_of [545, 71, 170, 171] (by decide +kernel)
set_option maxRecDepth 100000 in
set_option maxHeartbeats 4000000 in
theorem kjK_54 : mv_mkB kjW_54 kjCl kjKd kjP kjStn kjM_54 = true := by decide +kernel
def kjW_55 : List Jvm.Cond := [(Jvm.Cond.code ({ cls := "KindJudge$Reader", name := "goesOn", desc := "()Z" } : Jvm.MethodName) prog_8_method_3_code (1 : Nat) (Option.some Jvm.ClassFile.FieldType.boolean)), (Jvm.Cond.initialized "KindJudge$Reader"), (Jvm.Cond.fieldLink "KindJudge$Reader" (19 : Nat) "KindJudge$Reader" "stopped" "Z")]
set_option maxRecDepth 100000 in
set_option maxHeartbeats 4000000 in
theorem kjS_55 : ∀ w ∈ kjW_55, w ∈ lw_tbl := mv_sub_of [566, 71, 171] (by decide +kernel)
set_option maxRecDepth 100000 in
set_option maxHeartbeats 4000000 in
theorem kjK_55 : mv_mkB kjW_55 kjCl kjKd kjP kjStn kjM_55 = true := by decide +kernel
def kjW_56 : List Jvm.Cond := [(Jvm.Cond.code ({ cls := "KindJudge$Reader", name := "isAtEnd", desc := "()Z" } : Jvm.MethodName) prog_8_method_4_code (1 : Nat) (Option.some Jvm.ClassFile.FieldType.boolean)), (Jvm.Cond.initialized "KindJudge$Reader"), (Jvm.Cond.fieldLink "KindJudge$Reader" (19 : Nat) "KindJudge$Reader" "stopped" "Z"), (Jvm.Cond.fieldLink "KindJudge$Reader" (15 : Nat) "KindJudge$Reader" "at" "I"), (Jvm.Cond.fieldLink "KindJudge$Reader" (9 : Nat) "KindJudge$Reader" "bytes" "LKindJudge$Bytes;"), (Jvm.Cond.fieldLinkNest "KindJudge$Reader" (23 : Nat) "KindJudge$Bytes" "length" "I" "KindJudge")]
set_option maxRecDepth 100000 in
set_option maxHeartbeats 4000000 in
theorem kjS_56 : ∀ w ∈ kjW_56, w ∈ lw_tbl := mv_sub_of [622, 71, 171, 170, 169, 103] (by decide +kernel)
set_option maxRecDepth 100000 in
set_option maxHeartbeats 4000000 in
theorem kjK_56 : mv_mkB kjW_56 kjCl kjKd kjP kjStn kjM_56 = true := by decide +kernel
def kjW_57 : List Jvm.Cond := [(Jvm.Cond.code ({ cls := "KindJudge$Reader", name := "place", desc := "()I" } : Jvm.MethodName) prog_8_method_5_code (1 : Nat) (Option.some Jvm.ClassFile.FieldType.int)), (Jvm.Cond.initialized "KindJudge$Reader"), (Jvm.Cond.fieldLink "KindJudge$Reader" (15 : Nat) "KindJudge$Reader" "at" "I")]
set_option maxRecDepth 100000 in
set_option maxHeartbeats 4000000 in
theorem kjS_57 : ∀ w ∈ kjW_57, w ∈ lw_tbl := mv_sub_of [596, 71, 170] (by decide +kernel)
set_option maxRecDepth 100000 in
set_option maxHeartbeats 4000000 in
theorem kjK_57 : mv_mkB kjW_57 kjCl kjKd kjP kjStn kjM_57 = true := by decide +kernel
def kjW_58 : List Jvm.Cond := [(Jvm.Cond.code ({ cls := "KindJudge$Reader", name := "ahead", desc := "()I" } : Jvm.MethodName) prog_8_method_6_code (1 : Nat) (Option.some Jvm.ClassFile.FieldType.int)), (Jvm.Cond.initialized "KindJudge$Reader"), (Jvm.Cond.fieldLink "KindJudge$Reader" (19 : Nat) "KindJudge$Reader" "stopped" "Z"), (Jvm.Cond.fieldLink "KindJudge$Reader" (9 : Nat) "KindJudge$Reader" "bytes" "LKindJudge$Bytes;"), (Jvm.Cond.fieldLink "KindJudge$Reader" (15 : Nat) "KindJudge$Reader" "at" "I"), (Jvm.Cond.methodLink "KindJudge$Reader" (28 : Nat) ({ cls := "KindJudge$Bytes", name := "at", desc := "(I)I" } : Jvm.MethodName)), (Jvm.Cond.instanceMethod ({ cls := "KindJudge$Bytes", name := "at", desc := "(I)I" } : Jvm.MethodName)), (Jvm.Cond.selects "KindJudge$Bytes" ({ cls := "KindJudge$Bytes", name := "at", desc := "(I)I" } : Jvm.MethodName) ({ cls := "KindJudge$Bytes", name := "at", desc := "(I)I" } : Jvm.MethodName))]
set_option maxRecDepth 100000 in
set_option maxHeartbeats 4000000 in
theorem kjS_58 : ∀ w ∈ kjW_58, w ∈ lw_tbl := mv_sub_of [557, 71, 171, 169, 170, 558, 383, 384] (by decide +kernel)
set_option maxRecDepth 100000 in
set_option maxHeartbeats 4000000 in
theorem kjK_58 : mv_mkB kjW_58 kjCl kjKd kjP kjStn kjM_58 = true := by decide +kernel
def kjW_59 : List Jvm.Cond := [(Jvm.Cond.code ({ cls := "KindJudge$Reader", name := "pass", desc := "(Z)Z" } : Jvm.MethodName) prog_8_method_7_code (2 : Nat) (Option.some Jvm.ClassFile.FieldType.boolean)), (Jvm.Cond.initialized "KindJudge$Reader"), (Jvm.Cond.fieldLink "KindJudge$Reader" (19 : Nat) "KindJudge$Reader" "stopped" "Z"), (Jvm.Cond.fieldLink "KindJudge$Reader" (15 : Nat) "KindJudge$Reader" "at" "I"), (Jvm.Cond.fieldLink "KindJudge$Reader" (9 : Nat) "KindJudge$Reader" "bytes" "LKindJudge$Bytes;"), (Jvm.Cond.fieldLinkNest "KindJudge$Reader" (23 : Nat) "KindJudge$Bytes" "length" "I" "KindJudge")]
set_option maxRecDepth 100000 in
set_option maxHeartbeats 4000000 in
theorem kjS_59 : ∀ w ∈ kjW_59, w ∈ lw_tbl := mv_sub_of [562, 71, 171, 170, 169, 103] (by decide +kernel)
set_option maxRecDepth 100000 in
set_option maxHeartbeats 4000000 in
theorem kjK_59 : mv_mkB kjW_59 kjCl kjKd kjP kjStn kjM_59 = true := by decide +kernel
def kjW_60 : List Jvm.Cond := [(Jvm.Cond.code ({ cls := "KindJudge$Reader", name := "number", desc := "(II)I" } : Jvm.MethodName) prog_8_method_8_code (4 : Nat) (Option.some Jvm.ClassFile.FieldType.int)), (Jvm.Cond.initialized "KindJudge$Reader"), (Jvm.Cond.methodLink "KindJudge$Reader" (31 : Nat) ({ cls := "KindJudge$Reader", name := "ahead", desc := "()I" } : Jvm.MethodName)), (Jvm.Cond.instanceMethod ({ cls := "KindJudge$Reader", name := "ahead", desc := "()I" } : Jvm.MethodName)), (Jvm.Cond.selects "KindJudge$Reader" ({ cls := "KindJudge$Reader", name := "ahead", desc := "()I" } : Jvm.MethodName) ({ cls := "KindJudge$Reader", name := "ahead", desc := "()I" } : Jvm.MethodName)), (Jvm.Cond.methodLink "KindJudge$Reader" (35 : Nat) ({ cls := "KindJudge$Reader", name := "pass", desc := "(Z)Z" } : Jvm.MethodName)), (Jvm.Cond.instanceMethod ({ cls := "KindJudge$Reader", name := "pass", desc := "(Z)Z" } : Jvm.MethodName)), (Jvm.Cond.selects "KindJudge$Reader" ({ cls := "KindJudge$Reader", name := "pass", desc := "(Z)Z" } : Jvm.MethodName) ({ cls := "KindJudge$Reader", name := "pass", desc := "(Z)Z" } : Jvm.MethodName))]
set_option maxRecDepth 100000 in
set_option maxHeartbeats 4000000 in
theorem kjS_60 : ∀ w ∈ kjW_60, w ∈ lw_tbl := mv_sub_of [553, 71, 554, 555, 556, 559, 560, 561] (by decide +kernel)
set_option maxRecDepth 100000 in
set_option maxHeartbeats 4000000 in
theorem kjK_60 : mv_mkB kjW_60 kjCl kjKd kjP kjStn kjM_60 = true := by decide +kernel
def kjW_61 : List Jvm.Cond := [(Jvm.Cond.code ({ cls := "KindJudge$Reader", name := "typeAmong", desc := "(IZ)I" } : Jvm.MethodName) prog_8_method_9_code (5 : Nat) (Option.some Jvm.ClassFile.FieldType.int)), (Jvm.Cond.initialized "KindJudge$Reader"), (Jvm.Cond.methodLink "KindJudge$Reader" (31 : Nat) ({ cls := "KindJudge$Reader", name := "ahead", desc := "()I" } : Jvm.MethodName)), (Jvm.Cond.instanceMethod ({ cls := "KindJudge$Reader", name := "ahead", desc := "()I" } : Jvm.MethodName)), (Jvm.Cond.selects "KindJudge$Reader" ({ cls := "KindJudge$Reader", name := "ahead", desc := "()I" } : Jvm.MethodName) ({ cls := "KindJudge$Reader", name := "ahead", desc := "()I" } : Jvm.MethodName)), (Jvm.Cond.methodLink "KindJudge$Reader" (35 : Nat) ({ cls := "KindJudge$Reader", name := "pass", desc := "(Z)Z" } : Jvm.MethodName)), (Jvm.Cond.instanceMethod ({ cls := "KindJudge$Reader", name := "pass", desc := "(Z)Z" } : Jvm.MethodName)), (Jvm.Cond.selects "KindJudge$Reader" ({ cls := "KindJudge$Reader", name := "pass", desc := "(Z)Z" } : Jvm.MethodName) ({ cls := "KindJudge$Reader", name := "pass", desc := "(Z)Z" } : Jvm.MethodName))]
set_option maxRecDepth 100000 in
set_option maxHeartbeats 4000000 in
theorem kjS_61 : ∀ w ∈ kjW_61, w ∈ lw_tbl := mv_sub_of [574, 71, 554, 555, 556, 559, 560, 561] (by decide +kernel)
set_option maxRecDepth 100000 in
set_option maxHeartbeats 4000000 in
theorem kjK_61 : mv_mkB kjW_61 kjCl kjKd kjP kjStn kjM_61 = true := by decide +kernel
def kjW_62 : List Jvm.Cond := [(Jvm.Cond.code ({ cls := "KindJudge$Reader", name := "skip", desc := "(I)V" } : Jvm.MethodName) prog_8_method_10_code (2 : Nat) (Option.none : Option Jvm.ClassFile.FieldType)), (Jvm.Cond.initialized "KindJudge$Reader"), (Jvm.Cond.fieldLink "KindJudge$Reader" (19 : Nat) "KindJudge$Reader" "stopped" "Z"), (Jvm.Cond.fieldLink "KindJudge$Reader" (9 : Nat) "KindJudge$Reader" "bytes" "LKindJudge$Bytes;"), (Jvm.Cond.fieldLinkNest "KindJudge$Reader" (23 : Nat) "KindJudge$Bytes" "length" "I" "KindJudge"), (Jvm.Cond.fieldLink "KindJudge$Reader" (15 : Nat) "KindJudge$Reader" "at" "I")]
set_option maxRecDepth 100000 in
set_option maxHeartbeats 4000000 in
theorem kjS_62 : ∀ w ∈ kjW_62, w ∈ lw_tbl := mv_sub_of [600, 71, 171, 169, 103, 170] (by decide +kernel)
set_option maxRecDepth 100000 in
set_option maxHeartbeats 4000000 in
theorem kjK_62 : mv_mkB kjW_62 kjCl kjKd kjP kjStn kjM_62 = true := by decide +kernel
def kjW_63 : List Jvm.Cond := [(Jvm.Cond.code ({ cls := "KindJudge$Code", name := "<init>", desc := "(LKindJudge$Bytes;LKindJudge$Layout;)V" } : Jvm.MethodName) prog_5_method_1_code (3 : Nat) (Option.none : Option Jvm.ClassFile.FieldType)), (Jvm.Cond.initialized "KindJudge$Code"), (Jvm.Cond.methodLink "KindJudge$Code" (3 : Nat) ({ cls := "java/lang/Object", name := "<init>", desc := "()V" } : Jvm.MethodName)), (Jvm.Cond.instanceMethod ({ cls := "java/lang/Object", name := "<init>", desc := "()V" } : Jvm.MethodName)), (Jvm.Cond.code ({ cls := "java/lang/Object", name := "<init>", desc := "()V" } : Jvm.MethodName) object_method_1_code (1 : Nat) (Option.none : Option Jvm.ClassFile.FieldType)), (Jvm.Cond.arrayClass Jvm.ClassFile.FieldType.boolean), (Jvm.Cond.fieldLink "KindJudge$Code" (11 : Nat) "KindJudge$Code" "begun" "[Z"), (Jvm.Cond.fieldLink "KindJudge$Code" (17 : Nat) "KindJudge$Code" "bytes" "LKindJudge$Bytes;"), (Jvm.Cond.fieldLink "KindJudge$Code" (21 : Nat) "KindJudge$Code" "layout" "LKindJudge$Layout;")]
set_option maxRecDepth 100000 in
set_option maxHeartbeats 4000000 in
theorem kjS_63 : ∀ w ∈ kjW_63, w ∈ lw_tbl := mv_sub_of [220, 72, 221, 87, 88, 232, 224, 222, 223] (by decide +kernel)
set_option maxRecDepth 100000 in
set_option maxHeartbeats 4000000 in
theorem kjK_63 : mv_mkB kjW_63 kjCl kjKd kjP kjStn kjM_63 = true := by decide +kernel
def kjW_64 : List Jvm.Cond := [(Jvm.Cond.code ({ cls := "KindJudge$Code", name := "firstFault", desc := "(I)I" } : Jvm.MethodName) prog_5_method_2_code (4 : Nat) (Option.some Jvm.ClassFile.FieldType.int)), (Jvm.Cond.initialized "KindJudge$Code"), (Jvm.Cond.methodLink "KindJudge$Code" (25 : Nat) ({ cls := "KindJudge$Code", name := "markBeginnings", desc := "(I)V" } : Jvm.MethodName)), (Jvm.Cond.instanceMethod ({ cls := "KindJudge$Code", name := "markBeginnings", desc := "(I)V" } : Jvm.MethodName)), (Jvm.Cond.selects "KindJudge$Code" ({ cls := "KindJudge$Code", name := "markBeginnings", desc := "(I)V" } : Jvm.MethodName) ({ cls := "KindJudge$Code", name := "markBeginnings", desc := "(I)V" } : Jvm.MethodName)), (Jvm.Cond.fieldLink "KindJudge$Code" (21 : Nat) "KindJudge$Code" "layout" "LKindJudge$Layout;"), (Jvm.Cond.methodLink "KindJudge$Code" (29 : Nat) ({ cls := "KindJudge$Layout", name := "lengthOf", desc := "(I)I" } : Jvm.MethodName)), (Jvm.Cond.instanceMethod ({ cls := "KindJudge$Layout", name := "lengthOf", desc := "(I)I" } : Jvm.MethodName)), (Jvm.Cond.selects "KindJudge$Layout" ({ cls := "KindJudge$Layout", name := "lengthOf", desc := "(I)I" } : Jvm.MethodName) ({ cls := "KindJudge$Layout", name := "lengthOf", desc := "(I)I" } : Jvm.MethodName)), (Jvm.Cond.methodLink "KindJudge$Code" (35 : Nat) ({ cls := "KindJudge$Code", name := "begins", desc := "(II)Z" } : Jvm.MethodName)), (Jvm.Cond.instanceMethod ({ cls := "KindJudge$Code", name := "begins", desc := "(II)Z" } : Jvm.MethodName)), (Jvm.Cond.selects "KindJudge$Code" ({ cls := "KindJudge$Code", name := "begins", desc := "(II)Z" } : Jvm.MethodName) ({ cls := "KindJudge$Code", name := "begins", desc := "(II)Z" } : Jvm.MethodName)), (Jvm.Cond.methodLink "KindJudge$Code" (39 : Nat) ({ cls := "KindJudge$Code", name := "isFaulty", desc := "(II)Z" } : Jvm.MethodName)), (Jvm.Cond.instanceMethod ({ cls := "KindJudge$Code", name := "isFaulty", desc := "(II)Z" } : Jvm.MethodName)), (Jvm.Cond.selects "KindJudge$Code" ({ cls := "KindJudge$Code", name := "isFaulty", desc := "(II)Z" } : Jvm.MethodName) ({ cls := "KindJudge$Code", name := "isFaulty", desc := "(II)Z" } : Jvm.MethodName))]
set_option maxRecDepth 100000 in
set_option maxHeartbeats 4000000 in
theorem kjS_64 : ∀ w ∈ kjW_64, w ∈ lw_tbl := mv_sub_of [630, 72, 631, 633, 11, 223, 403, 338, 339, 635, 330, 331, 636, 638, 12] (by decide +kernel)
set_option maxRecDepth 100000 in
set_option maxHeartbeats 4000000 in
theorem kjK_64 : mv_mkB kjW_64 kjCl kjKd kjP kjStn kjM_64 = true := by decide +kernel
def kjW_65 : List Jvm.Cond := [(Jvm.Cond.code ({ cls := "KindJudge$Code", name := "markBeginnings", desc := "(I)V" } : Jvm.MethodName) prog_5_method_3_code (6 : Nat) (Option.none : Option Jvm.ClassFile.FieldType)), (Jvm.Cond.initialized "KindJudge$Code"), (Jvm.Cond.fieldLink "KindJudge$Code" (21 : Nat) "KindJudge$Code" "layout" "LKindJudge$Layout;"), (Jvm.Cond.methodLink "KindJudge$Code" (29 : Nat) ({ cls := "KindJudge$Layout", name := "lengthOf", desc := "(I)I" } : Jvm.MethodName)), (Jvm.Cond.instanceMethod ({ cls := "KindJudge$Layout", name := "lengthOf", desc := "(I)I" } : Jvm.MethodName)), (Jvm.Cond.selects "KindJudge$Layout" ({ cls := "KindJudge$Layout", name := "lengthOf", desc := "(I)I" } : Jvm.MethodName) ({ cls := "KindJudge$Layout", name := "lengthOf", desc := "(I)I" } : Jvm.MethodName)), (Jvm.Cond.methodLink "KindJudge$Code" (42 : Nat) ({ cls := "KindJudge$Layout", name := "offset", desc := "(II)I" } : Jvm.MethodName)), (Jvm.Cond.instanceMethod ({ cls := "KindJudge$Layout", name := "offset", desc := "(II)I" } : Jvm.MethodName)), (Jvm.Cond.selects "KindJudge$Layout" ({ cls := "KindJudge$Layout", name := "offset", desc := "(II)I" } : Jvm.MethodName) ({ cls := "KindJudge$Layout", name := "offset", desc := "(II)I" } : Jvm.MethodName)), (Jvm.Cond.fieldLink "KindJudge$Code" (11 : Nat) "KindJudge$Code" "begun" "[Z"), (Jvm.Cond.methodLink "KindJudge$Code" (46 : Nat) ({ cls := "KindJudge$Code", name := "sizeOf", desc := "(II)I" } : Jvm.MethodName)), (Jvm.Cond.instanceMethod ({ cls := "KindJudge$Code", name := "sizeOf", desc := "(II)I" } : Jvm.MethodName)), (Jvm.Cond.selects "KindJudge$Code" ({ cls := "KindJudge$Code", name := "sizeOf", desc := "(II)I" } : Jvm.MethodName) ({ cls := "KindJudge$Code", name := "sizeOf", desc := "(II)I" } : Jvm.MethodName))]
set_option maxRecDepth 100000 in
set_option maxHeartbeats 4000000 in
theorem kjS_65 : ∀ w ∈ kjW_65, w ∈ lw_tbl := mv_sub_of [634, 72, 223, 403, 338, 339, 333, 334, 335, 224, 394, 395, 396] (by decide +kernel)
set_option maxRecDepth 100000 in
set_option maxHeartbeats 4000000 in
theorem kjK_65 : mv_mkB kjW_65 kjCl kjKd kjP kjStn kjM_65 = true := by decide +kernel
