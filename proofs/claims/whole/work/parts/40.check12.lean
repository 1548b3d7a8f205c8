set_option maxRecDepth 100000 in
set_option maxHeartbeats 4000000 in
theorem kjK_112_40 : (kjT_112.drop 40).all (mv_rowB kjW_112 kjCl kjKd kjP kjStn kjM_112) = true := by decide +kernel
set_option maxRecDepth 100000 in
set_option maxHeartbeats 4000000 in
theorem kjK_112 : mv_mkB kjW_112 kjCl kjKd kjP kjStn kjM_112 = true := mv_mkB_of kjH_112 (mv_all_split (l := kjT_112) 40 kjK_112_0 kjK_112_40)
def kjW_113 : List Jvm.Cond := [(Jvm.Cond.code ({ cls := "KindJudgeModel", name := "readTable", desc := "(II)V" } : Jvm.MethodName) prog_11_method_14_code (4 : Nat) (Option.none : Option Jvm.ClassFile.FieldType)), (Jvm.Cond.initialized "KindJudgeModel"), (Jvm.Cond.fieldLink "KindJudgeModel" (114 : Nat) "KindJudgeModel" "methods" "I"), (Jvm.Cond.methodLink "KindJudgeModel" (100 : Nat) ({ cls := "KindJudgeModel", name := "next", desc := "(II)I" } : Jvm.MethodName)), (Jvm.Cond.instanceMethod ({ cls := "KindJudgeModel", name := "next", desc := "(II)I" } : Jvm.MethodName)), (Jvm.Cond.selects "KindJudgeModel" ({ cls := "KindJudgeModel", name := "next", desc := "(II)I" } : Jvm.MethodName) ({ cls := "KindJudgeModel", name := "next", desc := "(II)I" } : Jvm.MethodName)), (Jvm.Cond.fieldLink "KindJudgeModel" (62 : Nat) "KindJudgeModel" "table" "[I"), (Jvm.Cond.fieldLink "KindJudgeModel" (83 : Nat) "KindJudgeModel" "bad" "Z"), (Jvm.Cond.methodLink "KindJudgeModel" (117 : Nat) ({ cls := "KindJudgeModel", name := "mayStand", desc := "(III)Z" } : Jvm.MethodName)), (Jvm.Cond.instanceMethod ({ cls := "KindJudgeModel", name := "mayStand", desc := "(III)Z" } : Jvm.MethodName)), (Jvm.Cond.selects "KindJudgeModel" ({ cls := "KindJudgeModel", name := "mayStand", desc := "(III)Z" } : Jvm.MethodName) ({ cls := "KindJudgeModel", name := "mayStand", desc := "(III)Z" } : Jvm.MethodName)), (Jvm.Cond.fieldLink "KindJudgeModel" (87 : Nat) "KindJudgeModel" "at" "I")]
set_option maxRecDepth 100000 in
set_option maxHeartbeats 4000000 in
theorem kjS_113 : ∀ w ∈ kjW_113, w ∈ lw_tbl := mv_sub_of [989, 74, 850, 963, 965, 29, 859, 866, 990, 992, 35, 865] (by decide +kernel)
set_option maxRecDepth 100000 in
set_option maxHeartbeats 4000000 in
theorem kjK_113 : mv_mkB kjW_113 kjCl kjKd kjP kjStn kjM_113 = true := by decide +kernel
def kjW_114 : List Jvm.Cond := [(Jvm.Cond.code ({ cls := "KindJudgeModel", name := "takeApart", desc := "()Z" } : Jvm.MethodName) prog_11_method_15_code (2 : Nat) (Option.some Jvm.ClassFile.FieldType.boolean)), (Jvm.Cond.initialized "KindJudgeModel"), (Jvm.Cond.fieldLink "KindJudgeModel" (87 : Nat) "KindJudgeModel" "at" "I"), (Jvm.Cond.fieldLink "KindJudgeModel" (83 : Nat) "KindJudgeModel" "bad" "Z"), (Jvm.Cond.fieldLink "KindJudgeModel" (97 : Nat) "KindJudgeModel" "classes" "I"), (Jvm.Cond.methodLink "KindJudgeModel" (100 : Nat) ({ cls := "KindJudgeModel", name := "next", desc := "(II)I" } : Jvm.MethodName)), (Jvm.Cond.instanceMethod ({ cls := "KindJudgeModel", name := "next", desc := "(II)I" } : Jvm.MethodName)), (Jvm.Cond.selects "KindJudgeModel" ({ cls := "KindJudgeModel", name := "next", desc := "(II)I" } : Jvm.MethodName) ({ cls := "KindJudgeModel", name := "next", desc := "(II)I" } : Jvm.MethodName)), (Jvm.Cond.methodLink "KindJudgeModel" (120 : Nat) ({ cls := "KindJudgeModel", name := "readClass", desc := "(I)V" } : Jvm.MethodName)), (Jvm.Cond.instanceMethod ({ cls := "KindJudgeModel", name := "readClass", desc := "(I)V" } : Jvm.MethodName)), (Jvm.Cond.selects "KindJudgeModel" ({ cls := "KindJudgeModel", name := "readClass", desc := "(I)V" } : Jvm.MethodName) ({ cls := "KindJudgeModel", name := "readClass", desc := "(I)V" } : Jvm.MethodName)), (Jvm.Cond.fieldLink "KindJudgeModel" (124 : Nat) "KindJudgeModel" "selectors" "I"), (Jvm.Cond.methodLink "KindJudgeModel" (127 : Nat) ({ cls := "KindJudgeModel", name := "readSelector", desc := "(I)V" } : Jvm.MethodName)), (Jvm.Cond.instanceMethod ({ cls := "KindJudgeModel", name := "readSelector", desc := "(I)V" } : Jvm.MethodName)), (Jvm.Cond.selects "KindJudgeModel" ({ cls := "KindJudgeModel", name := "readSelector", desc := "(I)V" } : Jvm.MethodName) ({ cls := "KindJudgeModel", name := "readSelector", desc := "(I)V" } : Jvm.MethodName)), (Jvm.Cond.fieldLink "KindJudgeModel" (114 : Nat) "KindJudgeModel" "methods" "I"), (Jvm.Cond.methodLink "KindJudgeModel" (130 : Nat) ({ cls := "KindJudgeModel", name := "readMethod", desc := "(I)V" } : Jvm.MethodName)), (Jvm.Cond.instanceMethod ({ cls := "KindJudgeModel", name := "readMethod", desc := "(I)V" } : Jvm.MethodName)), (Jvm.Cond.selects "KindJudgeModel" ({ cls := "KindJudgeModel", name := "readMethod", desc := "(I)V" } : Jvm.MethodName) ({ cls := "KindJudgeModel", name := "readMethod", desc := "(I)V" } : Jvm.MethodName)), (Jvm.Cond.methodLink "KindJudgeModel" (133 : Nat) ({ cls := "KindJudgeModel", name := "readTable", desc := "(II)V" } : Jvm.MethodName)), (Jvm.Cond.instanceMethod ({ cls := "KindJudgeModel", name := "readTable", desc := "(II)V" } : Jvm.MethodName)), (Jvm.Cond.selects "KindJudgeModel" ({ cls := "KindJudgeModel", name := "readTable", desc := "(II)V" } : Jvm.MethodName) ({ cls := "KindJudgeModel", name := "readTable", desc := "(II)V" } : Jvm.MethodName)), (Jvm.Cond.fieldLink "KindJudgeModel" (90 : Nat) "KindJudgeModel" "readLong" "I")]
set_option maxRecDepth 100000 in
set_option maxHeartbeats 4000000 in
theorem kjS_114 : ∀ w ∈ kjW_114, w ∈ lw_tbl := mv_sub_of [962, 74, 865, 866, 842, 963, 965, 29, 970, 972, 30, 846, 978, 980, 32, 850, 982, 984, 33, 986, 988, 34, 835] (by decide +kernel)
set_option maxRecDepth 100000 in
set_option maxHeartbeats 4000000 in
theorem kjH_114 : mv_hdB kjW_114 kjM_114 = true := by decide +kernel
set_option maxRecDepth 100000 in
set_option maxHeartbeats 4000000 in
theorem kjK_114_0 : (kjT_114.take 40).all (mv_rowB kjW_114 kjCl kjKd kjP kjStn kjM_114) = true := by decide +kernel
set_option maxRecDepth 100000 in
set_option maxHeartbeats 4000000 in
theorem kjK_114_40 : ((kjT_114.drop 40).take 40).all (mv_rowB kjW_114 kjCl kjKd kjP kjStn kjM_114) = true := by decide +kernel
set_option maxRecDepth 100000 in
set_option maxHeartbeats 4000000 in
theorem kjK_114_80 : (kjT_114.drop 80).all (mv_rowB kjW_114 kjCl kjKd kjP kjStn kjM_114) = true := by decide +kernel
set_option maxRecDepth 100000 in
set_option maxHeartbeats 4000000 in
theorem kjK_114 : mv_mkB kjW_114 kjCl kjKd kjP kjStn kjM_114 = true := mv_mkB_of kjH_114 (mv_all_split (l := kjT_114) 40 kjK_114_0 (mv_all_split (l := (kjT_114.drop 40)) 40 kjK_114_40 (show ((kjT_114.drop 40).drop 40).all _ = true by rw [List.drop_drop]; exact kjK_114_80)))
def kjW_115 : List Jvm.Cond := [(Jvm.Cond.code ({ cls := "KindJudgeModel", name := "opLong", desc := "(I)I" } : Jvm.MethodName) prog_11_method_16_code (1 : Nat) (Option.some Jvm.ClassFile.FieldType.int)), (Jvm.Cond.initialized "KindJudgeModel")]
set_option maxRecDepth 100000 in
set_option maxHeartbeats 4000000 in
theorem kjS_115 : ∀ w ∈ kjW_115, w ∈ lw_tbl := mv_sub_of [1020, 74] (by decide +kernel)
set_option maxRecDepth 100000 in
set_option maxHeartbeats 4000000 in
theorem kjK_115 : mv_mkB kjW_115 kjCl kjKd kjP kjStn kjM_115 = true := by decide +kernel
def kjW_116 : List Jvm.Cond := [(Jvm.Cond.code ({ cls := "KindJudgeModel", name := "byteAt", desc := "(II)I" } : Jvm.MethodName) prog_11_method_17_code (3 : Nat) (Option.some Jvm.ClassFile.FieldType.int)), (Jvm.Cond.initialized "KindJudgeModel"), (Jvm.Cond.fieldLink "KindJudgeModel" (55 : Nat) "KindJudgeModel" "code" "[I")]
set_option maxRecDepth 100000 in
set_option maxHeartbeats 4000000 in
theorem kjS_116 : ∀ w ∈ kjW_116, w ∈ lw_tbl := mv_sub_of [1017, 74, 857] (by decide +kernel)
set_option maxRecDepth 100000 in
set_option maxHeartbeats 4000000 in
theorem kjK_116 : mv_mkB kjW_116 kjCl kjKd kjP kjStn kjM_116 = true := by decide +kernel
def kjW_117 : List Jvm.Cond := [(Jvm.Cond.code ({ cls := "KindJudgeModel", name := "longOf", desc := "(II)I" } : Jvm.MethodName) prog_11_method_18_code (5 : Nat) (Option.some Jvm.ClassFile.FieldType.int)), (Jvm.Cond.initialized "KindJudgeModel"), (Jvm.Cond.methodLink "KindJudgeModel" (137 : Nat) ({ cls := "KindJudgeModel", name := "byteAt", desc := "(II)I" } : Jvm.MethodName)), (Jvm.Cond.instanceMethod ({ cls := "KindJudgeModel", name := "byteAt", desc := "(II)I" } : Jvm.MethodName)), (Jvm.Cond.selects "KindJudgeModel" ({ cls := "KindJudgeModel", name := "byteAt", desc := "(II)I" } : Jvm.MethodName) ({ cls := "KindJudgeModel", name := "byteAt", desc := "(II)I" } : Jvm.MethodName)), (Jvm.Cond.fieldLink "KindJudgeModel" (52 : Nat) "KindJudgeModel" "size" "[I"), (Jvm.Cond.methodLink "KindJudgeModel" (140 : Nat) ({ cls := "KindJudgeModel", name := "opLong", desc := "(I)I" } : Jvm.MethodName)), (Jvm.Cond.static ({ cls := "KindJudgeModel", name := "opLong", desc := "(I)I" } : Jvm.MethodName))]
set_option maxRecDepth 100000 in
set_option maxHeartbeats 4000000 in
theorem kjS_117 : ∀ w ∈ kjW_117, w ∈ lw_tbl := mv_sub_of [1013, 74, 1014, 1016, 41, 856, 1018, 1019] (by decide +kernel)
set_option maxRecDepth 100000 in
set_option maxHeartbeats 4000000 in
theorem kjK_117 : mv_mkB kjW_117 kjCl kjKd kjP kjStn kjM_117 = true := by decide +kernel
def kjW_118 : List Jvm.Cond := [(Jvm.Cond.code ({ cls := "KindJudgeModel", name := "findBegins", desc := "(I)V" } : Jvm.MethodName) prog_11_method_19_code (4 : Nat) (Option.none : Option Jvm.ClassFile.FieldType)), (Jvm.Cond.initialized "KindJudgeModel"), (Jvm.Cond.fieldLink "KindJudgeModel" (58 : Nat) "KindJudgeModel" "begins" "[Z"), (Jvm.Cond.fieldLink "KindJudgeModel" (52 : Nat) "KindJudgeModel" "size" "[I"), (Jvm.Cond.methodLink "KindJudgeModel" (144 : Nat) ({ cls := "KindJudgeModel", name := "longOf", desc := "(II)I" } : Jvm.MethodName)), (Jvm.Cond.instanceMethod ({ cls := "KindJudgeModel", name := "longOf", desc := "(II)I" } : Jvm.MethodName)), (Jvm.Cond.selects "KindJudgeModel" ({ cls := "KindJudgeModel", name := "longOf", desc := "(II)I" } : Jvm.MethodName) ({ cls := "KindJudgeModel", name := "longOf", desc := "(II)I" } : Jvm.MethodName))]
set_option maxRecDepth 100000 in
set_option maxHeartbeats 4000000 in
theorem kjS_118 : ∀ w ∈ kjW_118, w ∈ lw_tbl := mv_sub_of [1009, 74, 858, 856, 1010, 1012, 40] (by decide +kernel)
set_option maxRecDepth 100000 in
set_option maxHeartbeats 4000000 in
theorem kjK_118 : mv_mkB kjW_118 kjCl kjKd kjP kjStn kjM_118 = true := by decide +kernel
def kjW_119 : List Jvm.Cond := [(Jvm.Cond.code ({ cls := "KindJudgeModel", name := "isPlace", desc := "(II)Z" } : Jvm.MethodName) prog_11_method_20_code (3 : Nat) (Option.some Jvm.ClassFile.FieldType.boolean)), (Jvm.Cond.initialized "KindJudgeModel"), (Jvm.Cond.fieldLink "KindJudgeModel" (52 : Nat) "KindJudgeModel" "size" "[I"), (Jvm.Cond.fieldLink "KindJudgeModel" (58 : Nat) "KindJudgeModel" "begins" "[Z")]
set_option maxRecDepth 100000 in
set_option maxHeartbeats 4000000 in
theorem kjS_119 : ∀ w ∈ kjW_119, w ∈ lw_tbl := mv_sub_of [1028, 74, 856, 858] (by decide +kernel)
set_option maxRecDepth 100000 in
set_option maxHeartbeats 4000000 in
theorem kjK_119 : mv_mkB kjW_119 kjCl kjKd kjP kjStn kjM_119 = true := by decide +kernel
def kjW_120 : List Jvm.Cond := [(Jvm.Cond.code ({ cls := "KindJudgeModel", name := "isGood", desc := "(II)Z" } : Jvm.MethodName) prog_11_method_21_code (7 : Nat) (Option.some Jvm.ClassFile.FieldType.boolean)), (Jvm.Cond.initialized "KindJudgeModel"), (Jvm.Cond.methodLink "KindJudgeModel" (144 : Nat) ({ cls := "KindJudgeModel", name := "longOf", desc := "(II)I" } : Jvm.MethodName)), (Jvm.Cond.instanceMethod ({ cls := "KindJudgeModel", name := "longOf", desc := "(II)I" } : Jvm.MethodName)), (Jvm.Cond.selects "KindJudgeModel" ({ cls := "KindJudgeModel", name := "longOf", desc := "(II)I" } : Jvm.MethodName) ({ cls := "KindJudgeModel", name := "longOf", desc := "(II)I" } : Jvm.MethodName)), (Jvm.Cond.methodLink "KindJudgeModel" (137 : Nat) ({ cls := "KindJudgeModel", name := "byteAt", desc := "(II)I" } : Jvm.MethodName)), (Jvm.Cond.instanceMethod ({ cls := "KindJudgeModel", name := "byteAt", desc := "(II)I" } : Jvm.MethodName)), (Jvm.Cond.selects "KindJudgeModel" ({ cls := "KindJudgeModel", name := "byteAt", desc := "(II)I" } : Jvm.MethodName) ({ cls := "KindJudgeModel", name := "byteAt", desc := "(II)I" } : Jvm.MethodName)), (Jvm.Cond.fieldLink "KindJudgeModel" (52 : Nat) "KindJudgeModel" "size" "[I"), (Jvm.Cond.fieldLink "KindJudgeModel" (46 : Nat) "KindJudgeModel" "locals" "[I"), (Jvm.Cond.fieldLink "KindJudgeModel" (97 : Nat) "KindJudgeModel" "classes" "I"), (Jvm.Cond.fieldLink "KindJudgeModel" (22 : Nat) "KindJudgeModel" "fields" "[I"), (Jvm.Cond.fieldLink "KindJudgeModel" (114 : Nat) "KindJudgeModel" "methods" "I"), (Jvm.Cond.fieldLink "KindJudgeModel" (124 : Nat) "KindJudgeModel" "selectors" "I"), (Jvm.Cond.methodLink "KindJudgeModel" (147 : Nat) ({ cls := "KindJudgeModel", name := "isPlace", desc := "(II)Z" } : Jvm.MethodName)), (Jvm.Cond.instanceMethod ({ cls := "KindJudgeModel", name := "isPlace", desc := "(II)Z" } : Jvm.MethodName)), (Jvm.Cond.selects "KindJudgeModel" ({ cls := "KindJudgeModel", name := "isPlace", desc := "(II)Z" } : Jvm.MethodName) ({ cls := "KindJudgeModel", name := "isPlace", desc := "(II)Z" } : Jvm.MethodName))]
set_option maxRecDepth 100000 in
set_option maxHeartbeats 4000000 in
theorem kjS_120 : ∀ w ∈ kjW_120, w ∈ lw_tbl := mv_sub_of [1024, 74, 1010, 1012, 40, 1014, 1016, 41, 856, 854, 842, 844, 850, 846, 1025, 1027, 43] (by decide +kernel)
set_option maxRecDepth 100000 in
set_option maxHeartbeats 4000000 in
theorem kjH_120 : mv_hdB kjW_120 kjM_120 = true := by decide +kernel
set_option maxRecDepth 100000 in
set_option maxHeartbeats 4000000 in
theorem kjK_120_0 : (kjT_120.take 40).all (mv_rowB kjW_120 kjCl kjKd kjP kjStn kjM_120) = true := by decide +kernel
