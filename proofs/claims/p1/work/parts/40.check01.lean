/-! Checks; the tables of large methods in pieces. -/
def mv_rowB (tb : List Jvm.Cond) (cl : List vw_C) (kd : List (List Nat)) (prog : List mv_Me) (stn : List (String × String × String)) (M : mv_Me) (e : mv_E) : Bool := decide (decode (mv_cc M) e.1 = .ok (e.2.1, e.2.2.1)) && mv_rwB tb cl kd prog stn M e.2.1 e.2.2.1 e.2.2.2.1 e.2.2.2.2.1 e.2.2.2.2.2.1 e.2.2.2.2.2.2
def mv_hdB (tb : List Jvm.Cond) (M : mv_Me) : Bool := Jvm.plainName M.1.cls && (decide (M.1.cls = mv_ow M) && (mv_has tb (.code M.1 (mv_cc M) (mv_ml M) (mv_rt M)) && (mv_has tb (.initialized M.1.cls) && (decide (M.1.cls ≠ "java/lang/invoke/MethodHandle") && decide (M.1.cls ≠ "java/lang/invoke/VarHandle")))))
theorem mv_mkB_of {tb : List Jvm.Cond} {cl : List vw_C} {kd : List (List Nat)} {prog : List mv_Me} {stn : List (String × String × String)} {M : mv_Me} (h : mv_hdB tb M = true) (h2 : (mv_tb M).all (mv_rowB tb cl kd prog stn M) = true) : mv_mkB tb cl kd prog stn M = true := by
  unfold mv_hdB at h
  unfold mv_mkB
  simp only [Bool.and_eq_true] at h ⊢
  obtain ⟨a1, a2, a3, a4, a5, a6⟩ := h
  exact ⟨a1, a2, a3, a4, a5, a6, h2⟩
theorem mv_all_split {α : Type} {f : α → Bool} {l : List α} (n : Nat) (h1 : (l.take n).all f = true) (h2 : (l.drop n).all f = true) : l.all f = true := by
  rw [← List.take_append_drop n l, List.all_append, h1, h2]
  rfl
def kjW_0 : List Jvm.Cond := [(Jvm.Cond.code ({ cls := "KindJudge", name := "<init>", desc := "()V" } : Jvm.MethodName) prog_1_method_1_code (1 : Nat) (Option.none : Option Jvm.ClassFile.FieldType)), (Jvm.Cond.initialized "KindJudge"), (Jvm.Cond.methodLink "KindJudge" (1 : Nat) ({ cls := "java/lang/Object", name := "<init>", desc := "()V" } : Jvm.MethodName)), (Jvm.Cond.instanceMethod ({ cls := "java/lang/Object", name := "<init>", desc := "()V" } : Jvm.MethodName)), (Jvm.Cond.code ({ cls := "java/lang/Object", name := "<init>", desc := "()V" } : Jvm.MethodName) object_method_1_code (1 : Nat) (Option.none : Option Jvm.ClassFile.FieldType)), (Jvm.Cond.classLink "KindJudge" (7 : Nat) "KindJudge$Book"), (Jvm.Cond.instantiable "KindJudge$Book" (4 : Nat)), (Jvm.Cond.initialized "KindJudge$Book"), (Jvm.Cond.methodLink "KindJudge" (9 : Nat) ({ cls := "KindJudge$Book", name := "<init>", desc := "()V" } : Jvm.MethodName)), (Jvm.Cond.instanceMethod ({ cls := "KindJudge$Book", name := "<init>", desc := "()V" } : Jvm.MethodName)), (Jvm.Cond.fieldLink "KindJudge" (10 : Nat) "KindJudge" "file" "LKindJudge$Book;"), (Jvm.Cond.fieldLink "KindJudge" (16 : Nat) "KindJudge" "draft" "LKindJudge$Book;")]
set_option maxRecDepth 100000 in
set_option maxHeartbeats 4000000 in
theorem kjS_0 : ∀ w ∈ kjW_0, w ∈ lw_tbl := mv_sub_of [85, 65, 86, 87, 88, 89, 90, 66, 91, 92, 294, 295] (by decide +kernel)
set_option maxRecDepth 100000 in
set_option maxHeartbeats 4000000 in
theorem kjK_0 : mv_mkB kjW_0 kjCl kjKd kjP kjStn kjM_0 = true := by decide +kernel
def kjW_1 : List Jvm.Cond := [(Jvm.Cond.code ({ cls := "KindJudge", name := "put", desc := "(JI)Z" } : Jvm.MethodName) prog_1_method_2_code (4 : Nat) (Option.some Jvm.ClassFile.FieldType.boolean)), (Jvm.Cond.initialized "KindJudge"), (Jvm.Cond.fieldLink "KindJudge" (16 : Nat) "KindJudge" "draft" "LKindJudge$Book;"), (Jvm.Cond.fieldLink "KindJudge" (19 : Nat) "KindJudge$Book" "bytes" "LKindJudge$Bytes;"), (Jvm.Cond.methodLink "KindJudge" (23 : Nat) ({ cls := "KindJudge$Bytes", name := "append", desc := "(JI)Z" } : Jvm.MethodName)), (Jvm.Cond.instanceMethod ({ cls := "KindJudge$Bytes", name := "append", desc := "(JI)Z" } : Jvm.MethodName)), (Jvm.Cond.selects "KindJudge$Bytes" ({ cls := "KindJudge$Bytes", name := "append", desc := "(JI)Z" } : Jvm.MethodName) ({ cls := "KindJudge$Bytes", name := "append", desc := "(JI)Z" } : Jvm.MethodName))]
set_option maxRecDepth 100000 in
set_option maxHeartbeats 4000000 in
theorem kjS_1 : ∀ w ∈ kjW_1, w ∈ lw_tbl := mv_sub_of [316, 65, 295, 278, 317, 318, 319] (by decide +kernel)
set_option maxRecDepth 100000 in
set_option maxHeartbeats 4000000 in
theorem kjK_1 : mv_mkB kjW_1 kjCl kjKd kjP kjStn kjM_1 = true := by decide +kernel
def kjW_2 : List Jvm.Cond := [(Jvm.Cond.code ({ cls := "KindJudge", name := "load", desc := "()I" } : Jvm.MethodName) prog_1_method_3_code (2 : Nat) (Option.some Jvm.ClassFile.FieldType.int)), (Jvm.Cond.initialized "KindJudge"), (Jvm.Cond.methodLink "KindJudge" (29 : Nat) ({ cls := "KindJudge", name := "findFault", desc := "()V" } : Jvm.MethodName)), (Jvm.Cond.instanceMethod ({ cls := "KindJudge", name := "findFault", desc := "()V" } : Jvm.MethodName)), (Jvm.Cond.selects "KindJudge" ({ cls := "KindJudge", name := "findFault", desc := "()V" } : Jvm.MethodName) ({ cls := "KindJudge", name := "findFault", desc := "()V" } : Jvm.MethodName)), (Jvm.Cond.fieldLink "KindJudge" (32 : Nat) "KindJudge" "faultKind" "I"), (Jvm.Cond.fieldLink "KindJudge" (16 : Nat) "KindJudge" "draft" "LKindJudge$Book;"), (Jvm.Cond.fieldLink "KindJudge" (19 : Nat) "KindJudge$Book" "bytes" "LKindJudge$Bytes;"), (Jvm.Cond.methodLink "KindJudge" (36 : Nat) ({ cls := "KindJudge$Bytes", name := "clear", desc := "()V" } : Jvm.MethodName)), (Jvm.Cond.instanceMethod ({ cls := "KindJudge$Bytes", name := "clear", desc := "()V" } : Jvm.MethodName)), (Jvm.Cond.selects "KindJudge$Bytes" ({ cls := "KindJudge$Bytes", name := "clear", desc := "()V" } : Jvm.MethodName) ({ cls := "KindJudge$Bytes", name := "clear", desc := "()V" } : Jvm.MethodName))]
set_option maxRecDepth 100000 in
set_option maxHeartbeats 4000000 in
theorem kjS_2 : ∀ w ∈ kjW_2, w ∈ lw_tbl := mv_sub_of [529, 65, 530, 532, 5, 297, 295, 278, 726, 727, 728] (by decide +kernel)
set_option maxRecDepth 100000 in
set_option maxHeartbeats 4000000 in
theorem kjK_2 : mv_mkB kjW_2 kjCl kjKd kjP kjStn kjM_2 = true := by decide +kernel
def kjW_3 : List Jvm.Cond := [(Jvm.Cond.code ({ cls := "KindJudge", name := "fault", desc := "(I)I" } : Jvm.MethodName) prog_1_method_4_code (2 : Nat) (Option.some Jvm.ClassFile.FieldType.int)), (Jvm.Cond.initialized "KindJudge"), (Jvm.Cond.fieldLink "KindJudge" (32 : Nat) "KindJudge" "faultKind" "I"), (Jvm.Cond.fieldLink "KindJudge" (64 : Nat) "KindJudge" "faultPlace" "I"), (Jvm.Cond.fieldLink "KindJudge" (67 : Nat) "KindJudge" "faultMethod" "I")]
set_option maxRecDepth 100000 in
set_option maxHeartbeats 4000000 in
theorem kjS_3 : ∀ w ∈ kjW_3, w ∈ lw_tbl := mv_sub_of [324, 65, 297, 298, 299] (by decide +kernel)
set_option maxRecDepth 100000 in
set_option maxHeartbeats 4000000 in
theorem kjK_3 : mv_mkB kjW_3 kjCl kjKd kjP kjStn kjM_3 = true := by decide +kernel
def kjW_4 : List Jvm.Cond := [(Jvm.Cond.code ({ cls := "KindJudge", name := "kind", desc := "(III)I" } : Jvm.MethodName) prog_1_method_5_code (5 : Nat) (Option.some Jvm.ClassFile.FieldType.int)), (Jvm.Cond.initialized "KindJudge"), (Jvm.Cond.fieldLink "KindJudge" (10 : Nat) "KindJudge" "file" "LKindJudge$Book;"), (Jvm.Cond.fieldLink "KindJudge" (70 : Nat) "KindJudge$Book" "code" "LKindJudge$Code;"), (Jvm.Cond.methodLink "KindJudge" (74 : Nat) ({ cls := "KindJudge$Code", name := "begins", desc := "(II)Z" } : Jvm.MethodName)), (Jvm.Cond.instanceMethod ({ cls := "KindJudge$Code", name := "begins", desc := "(II)Z" } : Jvm.MethodName)), (Jvm.Cond.selects "KindJudge$Code" ({ cls := "KindJudge$Code", name := "begins", desc := "(II)Z" } : Jvm.MethodName) ({ cls := "KindJudge$Code", name := "begins", desc := "(II)Z" } : Jvm.MethodName))]
set_option maxRecDepth 100000 in
set_option maxHeartbeats 4000000 in
theorem kjS_4 : ∀ w ∈ kjW_4, w ∈ lw_tbl := mv_sub_of [328, 65, 294, 282, 329, 330, 331] (by decide +kernel)
set_option maxRecDepth 100000 in
set_option maxHeartbeats 4000000 in
theorem kjK_4 : mv_mkB kjW_4 kjCl kjKd kjP kjStn kjM_4 = true := by decide +kernel
def kjW_5 : List Jvm.Cond := [(Jvm.Cond.code ({ cls := "KindJudge", name := "look", desc := "(III)I" } : Jvm.MethodName) prog_1_method_6_code (7 : Nat) (Option.some Jvm.ClassFile.FieldType.int)), (Jvm.Cond.initialized "KindJudge"), (Jvm.Cond.fieldLink "KindJudge" (10 : Nat) "KindJudge" "file" "LKindJudge$Book;"), (Jvm.Cond.fieldLink "KindJudge" (70 : Nat) "KindJudge$Book" "code" "LKindJudge$Code;"), (Jvm.Cond.methodLink "KindJudge" (74 : Nat) ({ cls := "KindJudge$Code", name := "begins", desc := "(II)Z" } : Jvm.MethodName)), (Jvm.Cond.instanceMethod ({ cls := "KindJudge$Code", name := "begins", desc := "(II)Z" } : Jvm.MethodName)), (Jvm.Cond.selects "KindJudge$Code" ({ cls := "KindJudge$Code", name := "begins", desc := "(II)Z" } : Jvm.MethodName) ({ cls := "KindJudge$Code", name := "begins", desc := "(II)Z" } : Jvm.MethodName))]
set_option maxRecDepth 100000 in
set_option maxHeartbeats 4000000 in
theorem kjS_5 : ∀ w ∈ kjW_5, w ∈ lw_tbl := mv_sub_of [803, 65, 294, 282, 329, 330, 331] (by decide +kernel)
set_option maxRecDepth 100000 in
set_option maxHeartbeats 4000000 in
theorem kjK_5 : mv_mkB kjW_5 kjCl kjKd kjP kjStn kjM_5 = true := by decide +kernel
def kjW_6 : List Jvm.Cond := [(Jvm.Cond.code ({ cls := "KindJudge", name := "ways", desc := "(II)I" } : Jvm.MethodName) prog_1_method_7_code (6 : Nat) (Option.some Jvm.ClassFile.FieldType.int)), (Jvm.Cond.initialized "KindJudge"), (Jvm.Cond.fieldLink "KindJudge" (10 : Nat) "KindJudge" "file" "LKindJudge$Book;"), (Jvm.Cond.fieldLink "KindJudge" (70 : Nat) "KindJudge$Book" "code" "LKindJudge$Code;"), (Jvm.Cond.methodLink "KindJudge" (74 : Nat) ({ cls := "KindJudge$Code", name := "begins", desc := "(II)Z" } : Jvm.MethodName)), (Jvm.Cond.instanceMethod ({ cls := "KindJudge$Code", name := "begins", desc := "(II)Z" } : Jvm.MethodName)), (Jvm.Cond.selects "KindJudge$Code" ({ cls := "KindJudge$Code", name := "begins", desc := "(II)Z" } : Jvm.MethodName) ({ cls := "KindJudge$Code", name := "begins", desc := "(II)Z" } : Jvm.MethodName))]
set_option maxRecDepth 100000 in
set_option maxHeartbeats 4000000 in
theorem kjS_6 : ∀ w ∈ kjW_6, w ∈ lw_tbl := mv_sub_of [364, 65, 294, 282, 329, 330, 331] (by decide +kernel)
set_option maxRecDepth 100000 in
set_option maxHeartbeats 4000000 in
theorem kjK_6 : mv_mkB kjW_6 kjCl kjKd kjP kjStn kjM_6 = true := by decide +kernel
def kjW_7 : List Jvm.Cond := [(Jvm.Cond.code ({ cls := "KindJudge", name := "count", desc := "(II)I" } : Jvm.MethodName) prog_1_method_8_code (3 : Nat) (Option.some Jvm.ClassFile.FieldType.int)), (Jvm.Cond.initialized "KindJudge"), (Jvm.Cond.fieldLink "KindJudge" (10 : Nat) "KindJudge" "file" "LKindJudge$Book;"), (Jvm.Cond.fieldLink "KindJudge" (49 : Nat) "KindJudge$Book" "layout" "LKindJudge$Layout;"), (Jvm.Cond.fieldLink "KindJudge" (53 : Nat) "KindJudge$Layout" "methods" "LKindJudge$Signatures;"), (Jvm.Cond.methodLink "KindJudge" (125 : Nat) ({ cls := "KindJudge$Signatures", name := "has", desc := "(I)Z" } : Jvm.MethodName)), (Jvm.Cond.instanceMethod ({ cls := "KindJudge$Signatures", name := "has", desc := "(I)Z" } : Jvm.MethodName)), (Jvm.Cond.selects "KindJudge$Signatures" ({ cls := "KindJudge$Signatures", name := "has", desc := "(I)Z" } : Jvm.MethodName) ({ cls := "KindJudge$Signatures", name := "has", desc := "(I)Z" } : Jvm.MethodName))]
set_option maxRecDepth 100000 in
set_option maxHeartbeats 4000000 in
theorem kjS_7 : ∀ w ∈ kjW_7, w ∈ lw_tbl := mv_sub_of [407, 65, 294, 280, 188, 408, 409, 410] (by decide +kernel)
set_option maxRecDepth 100000 in
set_option maxHeartbeats 4000000 in
theorem kjK_7 : mv_mkB kjW_7 kjCl kjKd kjP kjStn kjM_7 = true := by decide +kernel
def kjW_8 : List Jvm.Cond := [(Jvm.Cond.code ({ cls := "KindJudge", name := "fits", desc := "(II)I" } : Jvm.MethodName) prog_1_method_9_code (4 : Nat) (Option.some Jvm.ClassFile.FieldType.int)), (Jvm.Cond.initialized "KindJudge"), (Jvm.Cond.fieldLink "KindJudge" (10 : Nat) "KindJudge" "file" "LKindJudge$Book;"), (Jvm.Cond.fieldLink "KindJudge" (49 : Nat) "KindJudge$Book" "layout" "LKindJudge$Layout;"), (Jvm.Cond.fieldLink "KindJudge" (136 : Nat) "KindJudge$Layout" "classes" "LKindJudge$Classes;"), (Jvm.Cond.fieldLink "KindJudge" (46 : Nat) "KindJudge" "goodFiles" "I")]
set_option maxRecDepth 100000 in
set_option maxHeartbeats 4000000 in
theorem kjS_8 : ∀ w ∈ kjW_8, w ∈ lw_tbl := mv_sub_of [458, 65, 294, 280, 180, 296] (by decide +kernel)
set_option maxRecDepth 100000 in
set_option maxHeartbeats 4000000 in
theorem kjK_8 : mv_mkB kjW_8 kjCl kjKd kjP kjStn kjM_8 = true := by decide +kernel
def kjW_9 : List Jvm.Cond := [(Jvm.Cond.code ({ cls := "KindJudge", name := "meet", desc := "(II)I" } : Jvm.MethodName) prog_1_method_10_code (4 : Nat) (Option.some Jvm.ClassFile.FieldType.int)), (Jvm.Cond.initialized "KindJudge"), (Jvm.Cond.fieldLink "KindJudge" (10 : Nat) "KindJudge" "file" "LKindJudge$Book;"), (Jvm.Cond.fieldLink "KindJudge" (49 : Nat) "KindJudge$Book" "layout" "LKindJudge$Layout;"), (Jvm.Cond.fieldLink "KindJudge" (136 : Nat) "KindJudge$Layout" "classes" "LKindJudge$Classes;"), (Jvm.Cond.fieldLink "KindJudge" (46 : Nat) "KindJudge" "goodFiles" "I")]
set_option maxRecDepth 100000 in
set_option maxHeartbeats 4000000 in
theorem kjS_9 : ∀ w ∈ kjW_9, w ∈ lw_tbl := mv_sub_of [479, 65, 294, 280, 180, 296] (by decide +kernel)
set_option maxRecDepth 100000 in
set_option maxHeartbeats 4000000 in
theorem kjK_9 : mv_mkB kjW_9 kjCl kjKd kjP kjStn kjM_9 = true := by decide +kernel
def kjW_10 : List Jvm.Cond := [(Jvm.Cond.code ({ cls := "KindJudge", name := "method", desc := "(II)I" } : Jvm.MethodName) prog_1_method_11_code (3 : Nat) (Option.some Jvm.ClassFile.FieldType.int)), (Jvm.Cond.initialized "KindJudge"), (Jvm.Cond.fieldLink "KindJudge" (10 : Nat) "KindJudge" "file" "LKindJudge$Book;"), (Jvm.Cond.fieldLink "KindJudge" (49 : Nat) "KindJudge$Book" "layout" "LKindJudge$Layout;"), (Jvm.Cond.methodLink "KindJudge" (154 : Nat) ({ cls := "KindJudge$Layout", name := "methodFor", desc := "(II)I" } : Jvm.MethodName)), (Jvm.Cond.instanceMethod ({ cls := "KindJudge$Layout", name := "methodFor", desc := "(II)I" } : Jvm.MethodName)), (Jvm.Cond.selects "KindJudge$Layout" ({ cls := "KindJudge$Layout", name := "methodFor", desc := "(II)I" } : Jvm.MethodName) ({ cls := "KindJudge$Layout", name := "methodFor", desc := "(II)I" } : Jvm.MethodName))]
set_option maxRecDepth 100000 in
set_option maxHeartbeats 4000000 in
theorem kjS_10 : ∀ w ∈ kjW_10, w ∈ lw_tbl := mv_sub_of [490, 65, 294, 280, 491, 492, 493] (by decide +kernel)
set_option maxRecDepth 100000 in
set_option maxHeartbeats 4000000 in
theorem kjK_10 : mv_mkB kjW_10 kjCl kjKd kjP kjStn kjM_10 = true := by decide +kernel
def kjW_11 : List Jvm.Cond := [(Jvm.Cond.code ({ cls := "KindJudge", name := "type", desc := "(II)I" } : Jvm.MethodName) prog_1_method_12_code (4 : Nat) (Option.some Jvm.ClassFile.FieldType.int)), (Jvm.Cond.initialized "KindJudge"), (Jvm.Cond.fieldLink "KindJudge" (10 : Nat) "KindJudge" "file" "LKindJudge$Book;"), (Jvm.Cond.fieldLink "KindJudge" (49 : Nat) "KindJudge$Book" "layout" "LKindJudge$Layout;"), (Jvm.Cond.fieldLink "KindJudge" (136 : Nat) "KindJudge$Layout" "classes" "LKindJudge$Classes;"), (Jvm.Cond.methodLink "KindJudge" (157 : Nat) ({ cls := "KindJudge$Classes", name := "has", desc := "(I)Z" } : Jvm.MethodName)), (Jvm.Cond.instanceMethod ({ cls := "KindJudge$Classes", name := "has", desc := "(I)Z" } : Jvm.MethodName)), (Jvm.Cond.selects "KindJudge$Classes" ({ cls := "KindJudge$Classes", name := "has", desc := "(I)Z" } : Jvm.MethodName) ({ cls := "KindJudge$Classes", name := "has", desc := "(I)Z" } : Jvm.MethodName))]
set_option maxRecDepth 100000 in
set_option maxHeartbeats 4000000 in
theorem kjS_11 : ∀ w ∈ kjW_11, w ∈ lw_tbl := mv_sub_of [503, 65, 294, 280, 180, 504, 496, 497] (by decide +kernel)
set_option maxRecDepth 100000 in
set_option maxHeartbeats 4000000 in
theorem kjK_11 : mv_mkB kjW_11 kjCl kjKd kjP kjStn kjM_11 = true := by decide +kernel
def kjW_12 : List Jvm.Cond := [(Jvm.Cond.code ({ cls := "KindJudge", name := "total", desc := "(I)I" } : Jvm.MethodName) prog_1_method_13_code (2 : Nat) (Option.some Jvm.ClassFile.FieldType.int)), (Jvm.Cond.initialized "KindJudge"), (Jvm.Cond.fieldLink "KindJudge" (10 : Nat) "KindJudge" "file" "LKindJudge$Book;"), (Jvm.Cond.fieldLink "KindJudge" (49 : Nat) "KindJudge$Book" "layout" "LKindJudge$Layout;"), (Jvm.Cond.fieldLink "KindJudge" (53 : Nat) "KindJudge$Layout" "methods" "LKindJudge$Signatures;"), (Jvm.Cond.fieldLinkNest "KindJudge" (59 : Nat) "KindJudge$Signatures" "number" "I" "KindJudge"), (Jvm.Cond.fieldLink "KindJudge" (136 : Nat) "KindJudge$Layout" "classes" "LKindJudge$Classes;"), (Jvm.Cond.fieldLinkNest "KindJudge" (167 : Nat) "KindJudge$Classes" "number" "I" "KindJudge"), (Jvm.Cond.fieldLink "KindJudge" (168 : Nat) "KindJudge$Layout" "selectors" "LKindJudge$Signatures;"), (Jvm.Cond.fieldLink "KindJudge" (16 : Nat) "KindJudge" "draft" "LKindJudge$Book;"), (Jvm.Cond.fieldLink "KindJudge" (19 : Nat) "KindJudge$Book" "bytes" "LKindJudge$Bytes;"), (Jvm.Cond.fieldLinkNest "KindJudge" (171 : Nat) "KindJudge$Bytes" "length" "I" "KindJudge"), (Jvm.Cond.fieldLink "KindJudge" (46 : Nat) "KindJudge" "goodFiles" "I")]
set_option maxRecDepth 100000 in
set_option maxHeartbeats 4000000 in
theorem kjS_12 : ∀ w ∈ kjW_12, w ∈ lw_tbl := mv_sub_of [521, 65, 294, 280, 188, 153, 180, 129, 185, 295, 278, 104, 296] (by decide +kernel)
set_option maxRecDepth 100000 in
set_option maxHeartbeats 4000000 in
theorem kjK_12 : mv_mkB kjW_12 kjCl kjKd kjP kjStn kjM_12 = true := by decide +kernel
def kjW_13 : List Jvm.Cond := [(Jvm.Cond.code ({ cls := "KindJudge", name := "findFault", desc := "()V" } : Jvm.MethodName) prog_1_method_14_code (4 : Nat) (Option.none : Option Jvm.ClassFile.FieldType)), (Jvm.Cond.initialized "KindJudge"), (Jvm.Cond.methodLink "KindJudge" (174 : Nat) ({ cls := "KindJudge", name := "keepFault", desc := "(III)V" } : Jvm.MethodName)), (Jvm.Cond.instanceMethod ({ cls := "KindJudge", name := "keepFault", desc := "(III)V" } : Jvm.MethodName)), (Jvm.Cond.selects "KindJudge" ({ cls := "KindJudge", name := "keepFault", desc := "(III)V" } : Jvm.MethodName) ({ cls := "KindJudge", name := "keepFault", desc := "(III)V" } : Jvm.MethodName)), (Jvm.Cond.fieldLink "KindJudge" (16 : Nat) "KindJudge" "draft" "LKindJudge$Book;"), (Jvm.Cond.fieldLink "KindJudge" (49 : Nat) "KindJudge$Book" "layout" "LKindJudge$Layout;"), (Jvm.Cond.methodLink "KindJudge" (178 : Nat) ({ cls := "KindJudge$Layout", name := "read", desc := "()Z" } : Jvm.MethodName)), (Jvm.Cond.instanceMethod ({ cls := "KindJudge$Layout", name := "read", desc := "()Z" } : Jvm.MethodName)), (Jvm.Cond.selects "KindJudge$Layout" ({ cls := "KindJudge$Layout", name := "read", desc := "()Z" } : Jvm.MethodName) ({ cls := "KindJudge$Layout", name := "read", desc := "()Z" } : Jvm.MethodName)), (Jvm.Cond.methodLink "KindJudge" (182 : Nat) ({ cls := "KindJudge$Layout", name := "faultPlace", desc := "()I" } : Jvm.MethodName)), (Jvm.Cond.instanceMethod ({ cls := "KindJudge$Layout", name := "faultPlace", desc := "()I" } : Jvm.MethodName)), (Jvm.Cond.selects "KindJudge$Layout" ({ cls := "KindJudge$Layout", name := "faultPlace", desc := "()I" } : Jvm.MethodName) ({ cls := "KindJudge$Layout", name := "faultPlace", desc := "()I" } : Jvm.MethodName))]
set_option maxRecDepth 100000 in
set_option maxHeartbeats 4000000 in
theorem kjS_13 : ∀ w ∈ kjW_13, w ∈ lw_tbl := mv_sub_of [533, 65, 534, 536, 6, 295, 280, 538, 539, 540, 623, 624, 625] (by decide +kernel)
set_option maxRecDepth 100000 in
set_option maxHeartbeats 4000000 in
theorem kjK_13 : mv_mkB kjW_13 kjCl kjKd kjP kjStn kjM_13 = true := by decide +kernel
def kjW_14 : List Jvm.Cond := [(Jvm.Cond.code ({ cls := "KindJudge", name := "keepFault", desc := "(III)V" } : Jvm.MethodName) prog_1_method_15_code (4 : Nat) (Option.none : Option Jvm.ClassFile.FieldType)), (Jvm.Cond.initialized "KindJudge"), (Jvm.Cond.fieldLink "KindJudge" (32 : Nat) "KindJudge" "faultKind" "I"), (Jvm.Cond.fieldLink "KindJudge" (64 : Nat) "KindJudge" "faultPlace" "I"), (Jvm.Cond.fieldLink "KindJudge" (67 : Nat) "KindJudge" "faultMethod" "I")]
set_option maxRecDepth 100000 in
set_option maxHeartbeats 4000000 in
theorem kjS_14 : ∀ w ∈ kjW_14, w ∈ lw_tbl := mv_sub_of [537, 65, 297, 298, 299] (by decide +kernel)
set_option maxRecDepth 100000 in
set_option maxHeartbeats 4000000 in
theorem kjK_14 : mv_mkB kjW_14 kjCl kjKd kjP kjStn kjM_14 = true := by decide +kernel
def kjW_18 : List Jvm.Cond := [(Jvm.Cond.code ({ cls := "KindJudge$Book", name := "<init>", desc := "()V" } : Jvm.MethodName) prog_2_method_1_code (4 : Nat) (Option.none : Option Jvm.ClassFile.FieldType)), (Jvm.Cond.initialized "KindJudge$Book"), (Jvm.Cond.methodLink "KindJudge$Book" (1 : Nat) ({ cls := "java/lang/Object", name := "<init>", desc := "()V" } : Jvm.MethodName)), (Jvm.Cond.instanceMethod ({ cls := "java/lang/Object", name := "<init>", desc := "()V" } : Jvm.MethodName)), (Jvm.Cond.code ({ cls := "java/lang/Object", name := "<init>", desc := "()V" } : Jvm.MethodName) object_method_1_code (1 : Nat) (Option.none : Option Jvm.ClassFile.FieldType)), (Jvm.Cond.classLink "KindJudge$Book" (7 : Nat) "KindJudge$Bytes"), (Jvm.Cond.instantiable "KindJudge$Bytes" (2 : Nat)), (Jvm.Cond.initialized "KindJudge$Bytes"), (Jvm.Cond.methodLinkNest "KindJudge$Book" (9 : Nat) ({ cls := "KindJudge$Bytes", name := "<init>", desc := "()V" } : Jvm.MethodName) "KindJudge"), (Jvm.Cond.instanceMethod ({ cls := "KindJudge$Bytes", name := "<init>", desc := "()V" } : Jvm.MethodName)), (Jvm.Cond.classLink "KindJudge$Book" (10 : Nat) "KindJudge$Layout"), (Jvm.Cond.instantiable "KindJudge$Layout" (9 : Nat)), (Jvm.Cond.initialized "KindJudge$Layout"), (Jvm.Cond.methodLink "KindJudge$Book" (12 : Nat) ({ cls := "KindJudge$Layout", name := "<init>", desc := "(LKindJudge$Bytes;)V" } : Jvm.MethodName)), (Jvm.Cond.instanceMethod ({ cls := "KindJudge$Layout", name := "<init>", desc := "(LKindJudge$Bytes;)V" } : Jvm.MethodName)), (Jvm.Cond.classLink "KindJudge$Book" (15 : Nat) "KindJudge$Code"), (Jvm.Cond.instantiable "KindJudge$Code" (3 : Nat)), (Jvm.Cond.initialized "KindJudge$Code"), (Jvm.Cond.methodLink "KindJudge$Book" (17 : Nat) ({ cls := "KindJudge$Code", name := "<init>", desc := "(LKindJudge$Bytes;LKindJudge$Layout;)V" } : Jvm.MethodName)), (Jvm.Cond.instanceMethod ({ cls := "KindJudge$Code", name := "<init>", desc := "(LKindJudge$Bytes;LKindJudge$Layout;)V" } : Jvm.MethodName)), (Jvm.Cond.fieldLink "KindJudge$Book" (20 : Nat) "KindJudge$Book" "bytes" "LKindJudge$Bytes;"), (Jvm.Cond.fieldLink "KindJudge$Book" (26 : Nat) "KindJudge$Book" "layout" "LKindJudge$Layout;"), (Jvm.Cond.fieldLink "KindJudge$Book" (30 : Nat) "KindJudge$Book" "code" "LKindJudge$Code;"), (Jvm.Cond.classLink "KindJudge$Book" (34 : Nat) "KindJudge$Flow"), (Jvm.Cond.instantiable "KindJudge$Flow" (12 : Nat)), (Jvm.Cond.initialized "KindJudge$Flow"), (Jvm.Cond.methodLink "KindJudge$Book" (36 : Nat) ({ cls := "KindJudge$Flow", name := "<init>", desc := "(LKindJudge$Layout;LKindJudge$Code;)V" } : Jvm.MethodName)), (Jvm.Cond.instanceMethod ({ cls := "KindJudge$Flow", name := "<init>", desc := "(LKindJudge$Layout;LKindJudge$Code;)V" } : Jvm.MethodName)), (Jvm.Cond.fieldLink "KindJudge$Book" (39 : Nat) "KindJudge$Book" "flow" "LKindJudge$Flow;")]
set_option maxRecDepth 100000 in
set_option maxHeartbeats 4000000 in
theorem kjS_18 : ∀ w ∈ kjW_18, w ∈ lw_tbl := mv_sub_of [93, 66, 94, 87, 88, 95, 96, 67, 97, 98, 111, 112, 68, 113, 114, 216, 217, 72, 218, 219, 277, 279, 281, 233, 234, 73, 235, 236, 283] (by decide +kernel)
set_option maxRecDepth 100000 in
set_option maxHeartbeats 4000000 in
theorem kjK_18 : mv_mkB kjW_18 kjCl kjKd kjP kjStn kjM_18 = true := by decide +kernel
def kjW_19 : List Jvm.Cond := [(Jvm.Cond.code ({ cls := "KindJudge$Bytes", name := "<init>", desc := "()V" } : Jvm.MethodName) prog_3_method_1_code (1 : Nat) (Option.none : Option Jvm.ClassFile.FieldType)), (Jvm.Cond.initialized "KindJudge$Bytes"), (Jvm.Cond.methodLink "KindJudge$Bytes" (3 : Nat) ({ cls := "java/lang/Object", name := "<init>", desc := "()V" } : Jvm.MethodName)), (Jvm.Cond.instanceMethod ({ cls := "java/lang/Object", name := "<init>", desc := "()V" } : Jvm.MethodName)), (Jvm.Cond.code ({ cls := "java/lang/Object", name := "<init>", desc := "()V" } : Jvm.MethodName) object_method_1_code (1 : Nat) (Option.none : Option Jvm.ClassFile.FieldType)), (Jvm.Cond.arrayClass Jvm.ClassFile.FieldType.byte), (Jvm.Cond.fieldLink "KindJudge$Bytes" (11 : Nat) "KindJudge$Bytes" "row" "[B")]
set_option maxRecDepth 100000 in
set_option maxHeartbeats 4000000 in
theorem kjS_19 : ∀ w ∈ kjW_19, w ∈ lw_tbl := mv_sub_of [99, 67, 100, 87, 88, 110, 101] (by decide +kernel)
set_option maxRecDepth 100000 in
set_option maxHeartbeats 4000000 in
theorem kjK_19 : mv_mkB kjW_19 kjCl kjKd kjP kjStn kjM_19 = true := by decide +kernel
def kjW_20 : List Jvm.Cond := [(Jvm.Cond.code ({ cls := "KindJudge$Bytes", name := "append", desc := "(JI)Z" } : Jvm.MethodName) prog_3_method_2_code (5 : Nat) (Option.some Jvm.ClassFile.FieldType.boolean)), (Jvm.Cond.initialized "KindJudge$Bytes"), (Jvm.Cond.fieldLink "KindJudge$Bytes" (15 : Nat) "KindJudge$Bytes" "length" "I"), (Jvm.Cond.fieldLink "KindJudge$Bytes" (11 : Nat) "KindJudge$Bytes" "row" "[B")]
set_option maxRecDepth 100000 in
set_option maxHeartbeats 4000000 in
theorem kjS_20 : ∀ w ∈ kjW_20, w ∈ lw_tbl := mv_sub_of [320, 67, 102, 101] (by decide +kernel)
set_option maxRecDepth 100000 in
set_option maxHeartbeats 4000000 in
theorem kjK_20 : mv_mkB kjW_20 kjCl kjKd kjP kjStn kjM_20 = true := by decide +kernel
def kjW_21 : List Jvm.Cond := [(Jvm.Cond.code ({ cls := "KindJudge$Bytes", name := "clear", desc := "()V" } : Jvm.MethodName) prog_3_method_3_code (1 : Nat) (Option.none : Option Jvm.ClassFile.FieldType)), (Jvm.Cond.initialized "KindJudge$Bytes"), (Jvm.Cond.fieldLink "KindJudge$Bytes" (15 : Nat) "KindJudge$Bytes" "length" "I")]
set_option maxRecDepth 100000 in
set_option maxHeartbeats 4000000 in
theorem kjS_21 : ∀ w ∈ kjW_21, w ∈ lw_tbl := mv_sub_of [729, 67, 102] (by decide +kernel)
set_option maxRecDepth 100000 in
set_option maxHeartbeats 4000000 in
theorem kjK_21 : mv_mkB kjW_21 kjCl kjKd kjP kjStn kjM_21 = true := by decide +kernel
def kjW_22 : List Jvm.Cond := [(Jvm.Cond.code ({ cls := "KindJudge$Bytes", name := "at", desc := "(I)I" } : Jvm.MethodName) prog_3_method_4_code (2 : Nat) (Option.some Jvm.ClassFile.FieldType.int)), (Jvm.Cond.initialized "KindJudge$Bytes"), (Jvm.Cond.fieldLink "KindJudge$Bytes" (15 : Nat) "KindJudge$Bytes" "length" "I")]
set_option maxRecDepth 100000 in
set_option maxHeartbeats 4000000 in
theorem kjS_22 : ∀ w ∈ kjW_22, w ∈ lw_tbl := mv_sub_of [385, 67, 102] (by decide +kernel)
set_option maxRecDepth 100000 in
set_option maxHeartbeats 4000000 in
theorem kjK_22 : mv_mkB kjW_22 kjCl kjKd kjP kjStn kjM_22 = true := by decide +kernel
def kjW_23 : List Jvm.Cond := [(Jvm.Cond.code ({ cls := "KindJudge$Layout", name := "<init>", desc := "(LKindJudge$Bytes;)V" } : Jvm.MethodName) prog_7_method_1_code (2 : Nat) (Option.none : Option Jvm.ClassFile.FieldType)), (Jvm.Cond.initialized "KindJudge$Layout"), (Jvm.Cond.methodLink "KindJudge$Layout" (3 : Nat) ({ cls := "java/lang/Object", name := "<init>", desc := "()V" } : Jvm.MethodName)), (Jvm.Cond.instanceMethod ({ cls := "java/lang/Object", name := "<init>", desc := "()V" } : Jvm.MethodName)), (Jvm.Cond.code ({ cls := "java/lang/Object", name := "<init>", desc := "()V" } : Jvm.MethodName) object_method_1_code (1 : Nat) (Option.none : Option Jvm.ClassFile.FieldType)), (Jvm.Cond.classLink "KindJudge$Layout" (9 : Nat) "KindJudge$Classes"), (Jvm.Cond.instantiable "KindJudge$Classes" (5 : Nat)), (Jvm.Cond.initialized "KindJudge$Classes"), (Jvm.Cond.methodLinkNest "KindJudge$Layout" (11 : Nat) ({ cls := "KindJudge$Classes", name := "<init>", desc := "()V" } : Jvm.MethodName) "KindJudge"), (Jvm.Cond.instanceMethod ({ cls := "KindJudge$Classes", name := "<init>", desc := "()V" } : Jvm.MethodName)), (Jvm.Cond.fieldLink "KindJudge$Layout" (12 : Nat) "KindJudge$Layout" "classes" "LKindJudge$Classes;"), (Jvm.Cond.classLink "KindJudge$Layout" (18 : Nat) "KindJudge$Signatures"), (Jvm.Cond.instantiable "KindJudge$Signatures" (4 : Nat)), (Jvm.Cond.initialized "KindJudge$Signatures"), (Jvm.Cond.methodLinkNest "KindJudge$Layout" (20 : Nat) ({ cls := "KindJudge$Signatures", name := "<init>", desc := "()V" } : Jvm.MethodName) "KindJudge"), (Jvm.Cond.instanceMethod ({ cls := "KindJudge$Signatures", name := "<init>", desc := "()V" } : Jvm.MethodName)), (Jvm.Cond.fieldLink "KindJudge$Layout" (21 : Nat) "KindJudge$Layout" "selectors" "LKindJudge$Signatures;"), (Jvm.Cond.fieldLink "KindJudge$Layout" (25 : Nat) "KindJudge$Layout" "methods" "LKindJudge$Signatures;"), (Jvm.Cond.arrayClass Jvm.ClassFile.FieldType.int), (Jvm.Cond.fieldLink "KindJudge$Layout" (28 : Nat) "KindJudge$Layout" "locals" "[I"), (Jvm.Cond.fieldLink "KindJudge$Layout" (32 : Nat) "KindJudge$Layout" "stacks" "[I"), (Jvm.Cond.fieldLink "KindJudge$Layout" (35 : Nat) "KindJudge$Layout" "starts" "[I"), (Jvm.Cond.fieldLink "KindJudge$Layout" (38 : Nat) "KindJudge$Layout" "lengths" "[I"), (Jvm.Cond.fieldLink "KindJudge$Layout" (41 : Nat) "KindJudge$Layout" "table" "[I"), (Jvm.Cond.classLink "KindJudge$Layout" (44 : Nat) "KindJudge$Reader"), (Jvm.Cond.instantiable "KindJudge$Reader" (3 : Nat)), (Jvm.Cond.initialized "KindJudge$Reader"), (Jvm.Cond.methodLink "KindJudge$Layout" (46 : Nat) ({ cls := "KindJudge$Reader", name := "<init>", desc := "(LKindJudge$Bytes;)V" } : Jvm.MethodName)), (Jvm.Cond.instanceMethod ({ cls := "KindJudge$Reader", name := "<init>", desc := "(LKindJudge$Bytes;)V" } : Jvm.MethodName)), (Jvm.Cond.fieldLink "KindJudge$Layout" (49 : Nat) "KindJudge$Layout" "reader" "LKindJudge$Reader;")]
set_option maxRecDepth 100000 in
set_option maxHeartbeats 4000000 in
theorem kjS_23 : ∀ w ∈ kjW_23, w ∈ lw_tbl := mv_sub_of [115, 68, 116, 87, 88, 117, 118, 69, 119, 120, 179, 142, 143, 70, 144, 145, 183, 187, 141, 192, 193, 194, 195, 196, 163, 164, 71, 165, 166, 191] (by decide +kernel)
set_option maxRecDepth 100000 in
set_option maxHeartbeats 4000000 in
theorem kjK_23 : mv_mkB kjW_23 kjCl kjKd kjP kjStn kjM_23 = true := by decide +kernel
