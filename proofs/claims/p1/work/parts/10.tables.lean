/-! The methods of the class and of the reference as tables (by program: wip/p1/mkparts.py). -/
def kjF_0 : u_T := fun k => match k with
  | 0 => ("KindJudge", "file", "LKindJudge$Book;", false)
  | 1 => ("KindJudge", "draft", "LKindJudge$Book;", false)
  | 2 => ("KindJudge", "goodFiles", "I", false)
  | 3 => ("KindJudge", "faultKind", "I", false)
  | 4 => ("KindJudge", "faultPlace", "I", false)
  | _ => ("KindJudge", "faultMethod", "I", false)
def kjY_0 : Nat → FieldType := fun k => match k with
  | 0 => .object "KindJudge$Book"
  | 1 => .object "KindJudge$Book"
  | 2 => .int
  | 3 => .int
  | 4 => .int
  | _ => .int
def kjF_1 : u_T := fun k => match k with
  | 0 => ("KindJudge$Book", "bytes", "LKindJudge$Bytes;", true)
  | 1 => ("KindJudge$Book", "layout", "LKindJudge$Layout;", true)
  | 2 => ("KindJudge$Book", "code", "LKindJudge$Code;", true)
  | _ => ("KindJudge$Book", "flow", "LKindJudge$Flow;", true)
def kjY_1 : Nat → FieldType := fun k => match k with
  | 0 => .object "KindJudge$Bytes"
  | 1 => .object "KindJudge$Layout"
  | 2 => .object "KindJudge$Code"
  | _ => .object "KindJudge$Flow"
def kjF_2 : u_T := fun k => match k with
  | 0 => ("KindJudge$Bytes", "row", "[B", true)
  | _ => ("KindJudge$Bytes", "length", "I", false)
def kjY_2 : Nat → FieldType := fun k => match k with
  | 0 => .array .byte
  | _ => .int
def kjF_3 : u_T := fun k => match k with
  | 0 => ("KindJudge$Layout", "classes", "LKindJudge$Classes;", true)
  | 1 => ("KindJudge$Layout", "selectors", "LKindJudge$Signatures;", true)
  | 2 => ("KindJudge$Layout", "methods", "LKindJudge$Signatures;", true)
  | 3 => ("KindJudge$Layout", "reader", "LKindJudge$Reader;", true)
  | 4 => ("KindJudge$Layout", "locals", "[I", true)
  | 5 => ("KindJudge$Layout", "stacks", "[I", true)
  | 6 => ("KindJudge$Layout", "starts", "[I", true)
  | 7 => ("KindJudge$Layout", "lengths", "[I", true)
  | _ => ("KindJudge$Layout", "table", "[I", true)
def kjY_3 : Nat → FieldType := fun k => match k with
  | 0 => .object "KindJudge$Classes"
  | 1 => .object "KindJudge$Signatures"
  | 2 => .object "KindJudge$Signatures"
  | 3 => .object "KindJudge$Reader"
  | 4 => .array .int
  | 5 => .array .int
  | 6 => .array .int
  | 7 => .array .int
  | _ => .array .int
def kjF_4 : u_T := fun k => match k with
  | 0 => ("KindJudge$Classes", "supers", "[I", true)
  | 1 => ("KindJudge$Classes", "fieldCounts", "[I", true)
  | 2 => ("KindJudge$Classes", "fieldTypes", "[I", true)
  | 3 => ("KindJudge$Classes", "above", "[I", true)
  | _ => ("KindJudge$Classes", "number", "I", false)
def kjY_4 : Nat → FieldType := fun k => match k with
  | 0 => .array .int
  | 1 => .array .int
  | 2 => .array .int
  | 3 => .array .int
  | _ => .int
def kjF_5 : u_T := fun k => match k with
  | 0 => ("KindJudge$Signatures", "counts", "[I", true)
  | 1 => ("KindJudge$Signatures", "types", "[I", true)
  | 2 => ("KindJudge$Signatures", "returned", "[I", true)
  | _ => ("KindJudge$Signatures", "number", "I", false)
def kjY_5 : Nat → FieldType := fun k => match k with
  | 0 => .array .int
  | 1 => .array .int
  | 2 => .array .int
  | _ => .int
def kjF_6 : u_T := fun k => match k with
  | 0 => ("KindJudge$Reader", "bytes", "LKindJudge$Bytes;", true)
  | 1 => ("KindJudge$Reader", "at", "I", false)
  | _ => ("KindJudge$Reader", "stopped", "Z", false)
def kjY_6 : Nat → FieldType := fun k => match k with
  | 0 => .object "KindJudge$Bytes"
  | 1 => .int
  | _ => .boolean
def kjF_7 : u_T := fun k => match k with
  | 0 => ("KindJudge$Code", "bytes", "LKindJudge$Bytes;", true)
  | 1 => ("KindJudge$Code", "layout", "LKindJudge$Layout;", true)
  | _ => ("KindJudge$Code", "begun", "[Z", true)
def kjY_7 : Nat → FieldType := fun k => match k with
  | 0 => .object "KindJudge$Bytes"
  | 1 => .object "KindJudge$Layout"
  | _ => .array .boolean
def kjF_8 : u_T := fun k => match k with
  | 0 => ("KindJudge$Flow", "layout", "LKindJudge$Layout;", true)
  | 1 => ("KindJudge$Flow", "code", "LKindJudge$Code;", true)
  | 2 => ("KindJudge$Flow", "heights", "[B", true)
  | 3 => ("KindJudge$Flow", "frames", "[J", true)
  | 4 => ("KindJudge$Flow", "changed", "[Z", true)
  | 5 => ("KindJudge$Flow", "op", "I", false)
  | 6 => ("KindJudge$Flow", "first", "I", false)
  | 7 => ("KindJudge$Flow", "second", "I", false)
  | 8 => ("KindJudge$Flow", "height", "I", false)
  | 9 => ("KindJudge$Flow", "low", "I", false)
  | 10 => ("KindJudge$Flow", "behind", "I", false)
  | _ => ("KindJudge$Flow", "frame", "J", false)
def kjY_8 : Nat → FieldType := fun k => match k with
  | 0 => .object "KindJudge$Layout"
  | 1 => .object "KindJudge$Code"
  | 2 => .array .byte
  | 3 => .array .long
  | 4 => .array .boolean
  | 5 => .int
  | 6 => .int
  | 7 => .int
  | 8 => .int
  | 9 => .int
  | 10 => .int
  | _ => .long
def kjF_9 : u_T := fun k => match k with
  | 0 => ("KindJudgeModel", "thrown", "I", false)
  | 1 => ("KindJudgeModel", "goods", "I", false)
  | 2 => ("KindJudgeModel", "together", "I", false)
  | 3 => ("KindJudgeModel", "bytes", "[I", true)
  | 4 => ("KindJudgeModel", "read", "[I", true)
  | 5 => ("KindJudgeModel", "readLong", "I", false)
  | 6 => ("KindJudgeModel", "file", "[I", true)
  | 7 => ("KindJudgeModel", "fileLong", "I", false)
  | 8 => ("KindJudgeModel", "isFile", "Z", false)
  | 9 => ("KindJudgeModel", "fault", "I", false)
  | 10 => ("KindJudgeModel", "faultPlace", "I", false)
  | 11 => ("KindJudgeModel", "faultMethod", "I", false)
  | 12 => ("KindJudgeModel", "classes", "I", false)
  | 13 => ("KindJudgeModel", "above", "[I", true)
  | 14 => ("KindJudgeModel", "fields", "[I", true)
  | 15 => ("KindJudgeModel", "fieldType", "[I", true)
  | 16 => ("KindJudgeModel", "selectors", "I", false)
  | 17 => ("KindJudgeModel", "selParams", "[I", true)
  | 18 => ("KindJudgeModel", "selType", "[I", true)
  | 19 => ("KindJudgeModel", "selReturn", "[I", true)
  | 20 => ("KindJudgeModel", "methods", "I", false)
  | 21 => ("KindJudgeModel", "params", "[I", true)
  | 22 => ("KindJudgeModel", "paramType", "[I", true)
  | 23 => ("KindJudgeModel", "returns", "[I", true)
  | 24 => ("KindJudgeModel", "locals", "[I", true)
  | 25 => ("KindJudgeModel", "most", "[I", true)
  | 26 => ("KindJudgeModel", "size", "[I", true)
  | 27 => ("KindJudgeModel", "code", "[I", true)
  | 28 => ("KindJudgeModel", "begins", "[Z", true)
  | 29 => ("KindJudgeModel", "table", "[I", true)
  | 30 => ("KindJudgeModel", "height", "[I", true)
  | 31 => ("KindJudgeModel", "kinds", "[I", true)
  | 32 => ("KindJudgeModel", "next", "[I", true)
  | 33 => ("KindJudgeModel", "nextHeight", "I", false)
  | 34 => ("KindJudgeModel", "breaks", "Z", false)
  | 35 => ("KindJudgeModel", "at", "I", false)
  | _ => ("KindJudgeModel", "bad", "Z", false)
def kjY_9 : Nat → FieldType := fun k => match k with
  | 0 => .int
  | 1 => .int
  | 2 => .int
  | 3 => .array .int
  | 4 => .array .int
  | 5 => .int
  | 6 => .array .int
  | 7 => .int
  | 8 => .boolean
  | 9 => .int
  | 10 => .int
  | 11 => .int
  | 12 => .int
  | 13 => .array .int
  | 14 => .array .int
  | 15 => .array .int
  | 16 => .int
  | 17 => .array .int
  | 18 => .array .int
  | 19 => .array .int
  | 20 => .int
  | 21 => .array .int
  | 22 => .array .int
  | 23 => .array .int
  | 24 => .array .int
  | 25 => .array .int
  | 26 => .array .int
  | 27 => .array .int
  | 28 => .array .boolean
  | 29 => .array .int
  | 30 => .array .int
  | 31 => .array .int
  | 32 => .array .int
  | 33 => .int
  | 34 => .boolean
  | 35 => .int
  | _ => .boolean
def kjCl : List vw_C := [("KindJudge", kjF_0, 6), ("KindJudge$Book", kjF_1, 4), ("KindJudge$Bytes", kjF_2, 2), ("KindJudge$Layout", kjF_3, 9), ("KindJudge$Classes", kjF_4, 5), ("KindJudge$Signatures", kjF_5, 4), ("KindJudge$Reader", kjF_6, 3), ("KindJudge$Code", kjF_7, 3), ("KindJudge$Flow", kjF_8, 12), ("KindJudgeModel", kjF_9, 37)]
def kjKd : List (List Nat) := [[4, 4, 0, 0, 0, 0], [4, 4, 4, 4], [4, 0], [4, 4, 4, 4, 4, 4, 4, 4, 4], [4, 4, 4, 4, 0], [4, 4, 4, 0], [4, 0, 1], [4, 4, 4], [4, 4, 4, 4, 4, 0, 0, 0, 0, 0, 0, 3], [0, 0, 0, 4, 4, 0, 4, 0, 1, 0, 0, 0, 0, 4, 4, 4, 0, 4, 4, 4, 0, 4, 4, 4, 4, 4, 4, 4, 4, 4, 4, 4, 4, 0, 1, 0, 1]]
def kjStn : List (String × String × String) := []
def kjSta (_ : Nat) : List Int32 := []
def kjT_0 : List mv_E := [(0, .aload_n 0, 1, 0, 0, 0, 0), (1, .invokespecial 1, 3, 0, 0, 3, 0), (4, .aload_n 0, 1, 0, 0, 0, 0), (5, .new 7, 3, 1, 4, 0, 0), (8, .dup, 1, 0, 0, 0, 0), (9, .invokespecial 9, 3, 18, 1, 2, 0), (12, .putfield 10, 3, 0, 0, 4, 0), (15, .aload_n 0, 1, 0, 0, 0, 0), (16, .new 7, 3, 1, 4, 0, 0), (19, .dup, 1, 0, 0, 0, 0), (20, .invokespecial 9, 3, 18, 1, 2, 0), (23, .putfield 16, 3, 0, 1, 4, 0), (26, .return_, 1, 0, 0, 0, 0)]
/-- KindJudge.<init>()V -/
def kjM_0 : mv_Me := (⟨"KindJudge", "<init>", "()V"⟩, prog_1_method_1_code, 1, none, "KindJudge", kjT_0, 58, 13148, 4, 85)
def kjT_1 : List mv_E := [(0, .aload_n 0, 1, 0, 0, 0, 0), (1, .getfield 16, 3, 0, 1, 4, 0), (4, .getfield 19, 3, 1, 0, 4, 0), (7, .lload_n 1, 1, 0, 0, 0, 0), (8, .iload_n 3, 1, 0, 0, 0, 0), (9, .invokevirtual 23, 3, 20, 3, 0, 2), (12, .ireturn, 1, 0, 0, 0, 0)]
/-- KindJudge.put(JI)Z -/
def kjM_1 : mv_Me := (⟨"KindJudge", "put", "(JI)Z"⟩, prog_1_method_2_code, 4, (some .boolean), "KindJudge", kjT_1, 0, 0, 1, 24)
def kjT_2 : List mv_E := [(0, .aload_n 0, 1, 0, 0, 0, 0), (1, .invokevirtual 29, 3, 13, 1, 0, 0), (4, .aload_n 0, 1, 0, 0, 0, 0), (5, .getfield 32, 3, 0, 3, 0, 0), (8, .ifCond .eq 23, 3, 0, 0, 0, 0), (11, .aload_n 0, 1, 0, 0, 0, 0), (12, .getfield 16, 3, 0, 1, 4, 0), (15, .getfield 19, 3, 1, 0, 4, 0), (18, .invokevirtual 36, 3, 21, 1, 0, 2)]
/-- KindJudge.load()I -/
def kjM_2 : mv_Me := (⟨"KindJudge", "load", "()I"⟩, prog_1_method_3_code, 2, (some .int), "KindJudge", kjT_2, 0, 0, 7, 176)
def kjT_3 : List mv_E := [(0, .iload_n 1, 1, 0, 0, 0, 0), (1, .ifCond .ne 8, 3, 0, 0, 0, 0), (4, .aload_n 0, 1, 0, 0, 0, 0), (5, .getfield 32, 3, 0, 3, 0, 0), (8, .ireturn, 1, 0, 0, 0, 0), (9, .iload_n 1, 1, 0, 0, 0, 0), (10, .iconst 1, 1, 0, 0, 0, 0), (11, .if_icmp .ne 8, 3, 0, 0, 0, 0), (14, .aload_n 0, 1, 0, 0, 0, 0), (15, .getfield 64, 3, 0, 4, 0, 0), (18, .ireturn, 1, 0, 0, 0, 0), (19, .iload_n 1, 1, 0, 0, 0, 0), (20, .iconst 2, 1, 0, 0, 0, 0), (21, .if_icmp .ne 10, 3, 0, 0, 0, 0), (24, .aload_n 0, 1, 0, 0, 0, 0), (25, .getfield 67, 3, 0, 5, 0, 0), (28, .goto 4, 3, 0, 0, 0, 0), (31, .iconst (-1), 1, 0, 0, 0, 0), (32, .ireturn, 1, 0, 0, 0, 0)]
/-- KindJudge.fault(I)I -/
def kjM_3 : mv_Me := (⟨"KindJudge", "fault", "(I)I"⟩, prog_1_method_4_code, 2, (some .int), "KindJudge", kjT_3, 0, 0, 0, 0)
def kjT_4 : List mv_E := [(0, .aload_n 0, 1, 0, 0, 0, 0), (1, .getfield 10, 3, 0, 0, 4, 0), (4, .getfield 70, 3, 1, 2, 4, 0), (7, .iload_n 1, 1, 0, 0, 0, 0), (8, .iload_n 2, 1, 0, 0, 0, 0), (9, .invokevirtual 74, 3, 66, 3, 0, 7), (12, .ifCond .ne 5, 3, 0, 0, 0, 0), (15, .iconst (-1), 1, 0, 0, 0, 0), (16, .ireturn, 1, 0, 0, 0, 0)]
/-- KindJudge.kind(III)I -/
def kjM_4 : mv_Me := (⟨"KindJudge", "kind", "(III)I"⟩, prog_1_method_5_code, 5, (some .int), "KindJudge", kjT_4, 0, 0, 4, 89)
def kjT_5 : List mv_E := [(0, .iload_n 3, 1, 0, 0, 0, 0), (1, .ifCond .lt 23, 3, 0, 0, 0, 0), (4, .iload_n 3, 1, 0, 0, 0, 0), (5, .iconst 5, 1, 0, 0, 0, 0), (6, .if_icmp .gt 18, 3, 0, 0, 0, 0), (9, .aload_n 0, 1, 0, 0, 0, 0), (10, .getfield 10, 3, 0, 0, 4, 0), (13, .getfield 70, 3, 1, 2, 4, 0), (16, .iload_n 1, 1, 0, 0, 0, 0), (17, .iload_n 2, 1, 0, 0, 0, 0), (18, .invokevirtual 74, 3, 66, 3, 0, 7), (21, .ifCond .ne 13, 3, 0, 0, 0, 0)]
/-- KindJudge.look(III)I -/
def kjM_5 : mv_Me := (⟨"KindJudge", "look", "(III)I"⟩, prog_1_method_6_code, 7, (some .int), "KindJudge", kjT_5, 0, 0, 4, 90)
def kjT_6 : List mv_E := [(0, .aload_n 0, 1, 0, 0, 0, 0), (1, .getfield 10, 3, 0, 0, 4, 0), (4, .getfield 70, 3, 1, 2, 4, 0), (7, .iload_n 1, 1, 0, 0, 0, 0), (8, .iload_n 2, 1, 0, 0, 0, 0), (9, .invokevirtual 74, 3, 66, 3, 0, 7), (12, .ifCond .ne 5, 3, 0, 0, 0, 0), (15, .iconst (-1), 1, 0, 0, 0, 0), (16, .ireturn, 1, 0, 0, 0, 0)]
/-- KindJudge.ways(II)I -/
def kjM_6 : mv_Me := (⟨"KindJudge", "ways", "(II)I"⟩, prog_1_method_7_code, 6, (some .int), "KindJudge", kjT_6, 0, 0, 5, 115)
def kjT_7 : List mv_E := [(0, .aload_n 0, 1, 0, 0, 0, 0), (1, .getfield 10, 3, 0, 0, 4, 0), (4, .getfield 49, 3, 1, 1, 4, 0), (7, .getfield 53, 3, 3, 2, 4, 0), (10, .iload_n 1, 1, 0, 0, 0, 0), (11, .invokevirtual 125, 3, 49, 2, 0, 5), (14, .ifCond .eq 12, 3, 0, 0, 0, 0), (26, .iconst (-1), 1, 0, 0, 0, 0), (27, .ireturn, 1, 0, 0, 0, 0)]
/-- KindJudge.count(II)I -/
def kjM_7 : mv_Me := (⟨"KindJudge", "count", "(II)I"⟩, prog_1_method_8_code, 3, (some .int), "KindJudge", kjT_7, 0, 0, 6, 134)
def kjT_8 : List mv_E := [(0, .aload_n 0, 1, 0, 0, 0, 0), (1, .getfield 10, 3, 0, 0, 4, 0), (4, .getfield 49, 3, 1, 1, 4, 0), (7, .getfield 136, 3, 3, 0, 4, 0), (10, .astore_n 3, 1, 0, 0, 0, 0), (11, .aload_n 0, 1, 0, 0, 0, 0), (12, .getfield 46, 3, 0, 2, 0, 0), (15, .ifCond .eq 23, 3, 0, 0, 0, 0), (38, .iconst (-1), 1, 0, 0, 0, 0), (39, .ireturn, 1, 0, 0, 0, 0)]
/-- KindJudge.fits(II)I -/
def kjM_8 : mv_Me := (⟨"KindJudge", "fits", "(II)I"⟩, prog_1_method_9_code, 4, (some .int), "KindJudge", kjT_8, 0, 0, 2, 44)
def kjT_9 : List mv_E := [(0, .aload_n 0, 1, 0, 0, 0, 0), (1, .getfield 10, 3, 0, 0, 4, 0), (4, .getfield 49, 3, 1, 1, 4, 0), (7, .getfield 136, 3, 3, 0, 4, 0), (10, .astore_n 3, 1, 0, 0, 0, 0), (11, .aload_n 0, 1, 0, 0, 0, 0), (12, .getfield 46, 3, 0, 2, 0, 0), (15, .ifCond .eq 19, 3, 0, 0, 0, 0), (34, .iconst (-1), 1, 0, 0, 0, 0), (35, .ireturn, 1, 0, 0, 0, 0)]
/-- KindJudge.meet(II)I -/
def kjM_9 : mv_Me := (⟨"KindJudge", "meet", "(II)I"⟩, prog_1_method_10_code, 4, (some .int), "KindJudge", kjT_9, 0, 0, 2, 45)
def kjT_10 : List mv_E := [(0, .aload_n 0, 1, 0, 0, 0, 0), (1, .getfield 10, 3, 0, 0, 4, 0), (4, .getfield 49, 3, 1, 1, 4, 0), (7, .iload_n 1, 1, 0, 0, 0, 0), (8, .iload_n 2, 1, 0, 0, 0, 0), (9, .invokevirtual 154, 3, 29, 3, 0, 3), (12, .ireturn, 1, 0, 0, 0, 0)]
/-- KindJudge.method(II)I -/
def kjM_10 : mv_Me := (⟨"KindJudge", "method", "(II)I"⟩, prog_1_method_11_code, 3, (some .int), "KindJudge", kjT_10, 0, 0, 2, 43)
def kjT_11 : List mv_E := [(0, .aload_n 0, 1, 0, 0, 0, 0), (1, .getfield 10, 3, 0, 0, 4, 0), (4, .getfield 49, 3, 1, 1, 4, 0), (7, .getfield 136, 3, 3, 0, 4, 0), (10, .astore_n 3, 1, 0, 0, 0, 0), (11, .aload_n 3, 1, 0, 0, 0, 0), (12, .iload_n 1, 1, 0, 0, 0, 0), (13, .invokevirtual 157, 3, 37, 2, 0, 4), (16, .ifCond .eq 7, 3, 0, 0, 0, 0), (23, .iconst (-1), 1, 0, 0, 0, 0), (24, .ireturn, 1, 0, 0, 0, 0)]
/-- KindJudge.type(II)I -/
def kjM_11 : mv_Me := (⟨"KindJudge", "type", "(II)I"⟩, prog_1_method_12_code, 4, (some .int), "KindJudge", kjT_11, 0, 0, 2, 43)
def kjT_12 : List mv_E := [(0, .iload_n 1, 1, 0, 0, 0, 0), (1, .tableswitch 93 0 4 #[35, 49, 63, 77, 88], 35, 0, 0, 0, 0), (36, .aload_n 0, 1, 0, 0, 0, 0), (37, .getfield 10, 3, 0, 0, 4, 0), (40, .getfield 49, 3, 1, 1, 4, 0), (43, .getfield 53, 3, 3, 2, 4, 0), (46, .getfield 59, 3, 5, 3, 0, 0), (49, .ireturn, 1, 0, 0, 0, 0), (50, .aload_n 0, 1, 0, 0, 0, 0), (51, .getfield 10, 3, 0, 0, 4, 0), (54, .getfield 49, 3, 1, 1, 4, 0), (57, .getfield 136, 3, 3, 0, 4, 0), (60, .getfield 167, 3, 4, 4, 0, 0), (63, .ireturn, 1, 0, 0, 0, 0), (64, .aload_n 0, 1, 0, 0, 0, 0), (65, .getfield 10, 3, 0, 0, 4, 0), (68, .getfield 49, 3, 1, 1, 4, 0), (71, .getfield 168, 3, 3, 1, 4, 0), (74, .getfield 59, 3, 5, 3, 0, 0), (77, .ireturn, 1, 0, 0, 0, 0), (78, .aload_n 0, 1, 0, 0, 0, 0), (79, .getfield 16, 3, 0, 1, 4, 0), (82, .getfield 19, 3, 1, 0, 4, 0), (85, .getfield 171, 3, 2, 1, 0, 0), (88, .ireturn, 1, 0, 0, 0, 0), (89, .aload_n 0, 1, 0, 0, 0, 0), (90, .getfield 46, 3, 0, 2, 0, 0), (93, .ireturn, 1, 0, 0, 0, 0), (94, .iconst (-1), 1, 0, 0, 0, 0), (95, .ireturn, 1, 0, 0, 0, 0)]
/-- KindJudge.total(I)I -/
def kjM_12 : mv_Me := (⟨"KindJudge", "total", "(I)I"⟩, prog_1_method_13_code, 2, (some .int), "KindJudge", kjT_12, 0, 0, 0, 0)
def kjT_13 : List mv_E := [(0, .aload_n 0, 1, 0, 0, 0, 0), (1, .iconst 0, 1, 0, 0, 0, 0), (2, .iconst 0, 1, 0, 0, 0, 0), (3, .iconst 0, 1, 0, 0, 0, 0), (4, .invokevirtual 174, 3, 14, 4, 0, 0), (7, .aload_n 0, 1, 0, 0, 0, 0), (8, .getfield 16, 3, 0, 1, 4, 0), (11, .getfield 49, 3, 1, 1, 4, 0), (14, .invokevirtual 178, 3, 24, 1, 0, 3), (17, .ifCond .ne 20, 3, 0, 0, 0, 0), (20, .aload_n 0, 1, 0, 0, 0, 0), (21, .iconst 1, 1, 0, 0, 0, 0), (22, .aload_n 0, 1, 0, 0, 0, 0), (23, .getfield 16, 3, 0, 1, 4, 0), (26, .getfield 49, 3, 1, 1, 4, 0), (29, .invokevirtual 182, 3, 25, 1, 0, 3), (32, .iconst 0, 1, 0, 0, 0, 0), (33, .invokevirtual 174, 3, 14, 4, 0, 0), (36, .return_, 1, 0, 0, 0, 0)]
/-- KindJudge.findFault()V -/
def kjM_13 : mv_Me := (⟨"KindJudge", "findFault", "()V"⟩, prog_1_method_14_code, 4, none, "KindJudge", kjT_13, 0, 0, 6, 153)
def kjT_14 : List mv_E := [(0, .aload_n 0, 1, 0, 0, 0, 0), (1, .iload_n 1, 1, 0, 0, 0, 0), (2, .putfield 32, 3, 0, 3, 0, 0), (5, .aload_n 0, 1, 0, 0, 0, 0), (6, .iload_n 2, 1, 0, 0, 0, 0), (7, .putfield 64, 3, 0, 4, 0, 0), (10, .aload_n 0, 1, 0, 0, 0, 0), (11, .iload_n 3, 1, 0, 0, 0, 0), (12, .putfield 67, 3, 0, 5, 0, 0), (15, .return_, 1, 0, 0, 0, 0)]
/-- KindJudge.keepFault(III)V -/
def kjM_14 : mv_Me := (⟨"KindJudge", "keepFault", "(III)V"⟩, prog_1_method_15_code, 4, none, "KindJudge", kjT_14, 0, 0, 0, 0)
def kjT_18 : List mv_E := [(0, .aload_n 0, 1, 0, 0, 0, 0), (1, .invokespecial 1, 3, 0, 0, 3, 0), (4, .new 7, 3, 2, 2, 0, 0), (7, .dup, 1, 0, 0, 0, 0), (8, .invokespecial 9, 3, 19, 1, 2, 0), (11, .astore_n 1, 1, 0, 0, 0, 0), (12, .new 10, 3, 3, 9, 0, 0), (15, .dup, 1, 0, 0, 0, 0), (16, .aload_n 1, 1, 0, 0, 0, 0), (17, .invokespecial 12, 3, 23, 2, 2, 0), (20, .astore_n 2, 1, 0, 0, 0, 0), (21, .new 15, 3, 7, 3, 0, 0), (24, .dup, 1, 0, 0, 0, 0), (25, .aload_n 1, 1, 0, 0, 0, 0), (26, .aload_n 2, 1, 0, 0, 0, 0), (27, .invokespecial 17, 3, 63, 3, 2, 0), (30, .astore_n 3, 1, 0, 0, 0, 0), (31, .aload_n 0, 1, 0, 0, 0, 0), (32, .aload_n 1, 1, 0, 0, 0, 0), (33, .putfield 20, 3, 1, 0, 4, 0), (36, .aload_n 0, 1, 0, 0, 0, 0), (37, .aload_n 2, 1, 0, 0, 0, 0), (38, .putfield 26, 3, 1, 1, 4, 0), (41, .aload_n 0, 1, 0, 0, 0, 0), (42, .aload_n 3, 1, 0, 0, 0, 0), (43, .putfield 30, 3, 1, 2, 4, 0), (46, .aload_n 0, 1, 0, 0, 0, 0), (47, .new 34, 3, 8, 12, 0, 0), (50, .dup, 1, 0, 0, 0, 0), (51, .aload_n 2, 1, 0, 0, 0, 0), (52, .aload_n 3, 1, 0, 0, 0, 0), (53, .invokespecial 36, 3, 77, 3, 2, 0), (56, .putfield 39, 3, 1, 3, 4, 0), (59, .return_, 1, 0, 0, 0, 0)]
/-- KindJudge$Book.<init>()V -/
def kjM_18 : mv_Me := (⟨"KindJudge$Book", "<init>", "()V"⟩, prog_2_method_1_code, 4, none, "KindJudge$Book", kjT_18, 28, 6570, 3, 62)
def kjT_19 : List mv_E := [(0, .aload_n 0, 1, 0, 0, 0, 0), (1, .invokespecial 3, 3, 0, 0, 3, 0), (4, .aload_n 0, 1, 0, 0, 0, 0), (5, .sipush 1500, 3, 0, 0, 0, 0), (8, .newarray .byte, 2, 0, 0, 2, 0), (10, .putfield 11, 3, 2, 0, 4, 0), (13, .return_, 1, 0, 0, 0, 0)]
/-- KindJudge$Bytes.<init>()V -/
def kjM_19 : mv_Me := (⟨"KindJudge$Bytes", "<init>", "()V"⟩, prog_3_method_1_code, 1, none, "KindJudge$Bytes", kjT_19, 1, 1500, 1, 20)
def kjT_20 : List mv_E := [(0, .iload_n 3, 1, 0, 0, 0, 0), (1, .iconst 1, 1, 0, 0, 0, 0), (2, .if_icmp .lt 21, 3, 0, 0, 0, 0), (5, .iload_n 3, 1, 0, 0, 0, 0), (6, .bipush 8, 2, 0, 0, 0, 0), (8, .if_icmp .gt 15, 3, 0, 0, 0, 0), (11, .iload_n 3, 1, 0, 0, 0, 0), (12, .sipush 1500, 3, 0, 0, 0, 0), (15, .aload_n 0, 1, 0, 0, 0, 0), (16, .getfield 15, 3, 2, 1, 0, 0), (19, .isub, 1, 0, 0, 0, 0), (20, .if_icmp .le 5, 3, 0, 0, 0, 0), (23, .iconst 0, 1, 0, 0, 0, 0), (24, .ireturn, 1, 0, 0, 0, 0), (25, .bipush 8, 2, 0, 0, 0, 0), (27, .iload_n 3, 1, 0, 0, 0, 0), (28, .iconst 1, 1, 0, 0, 0, 0), (29, .isub, 1, 0, 0, 0, 0), (30, .imul, 1, 0, 0, 0, 0), (31, .istore 4, 2, 0, 0, 0, 0), (33, .iload 4, 2, 0, 0, 0, 0), (35, .ifCond .lt 34, 3, 0, 0, 0, 0), (38, .aload_n 0, 1, 0, 0, 0, 0), (39, .getfield 11, 3, 2, 0, 4, 0), (42, .aload_n 0, 1, 0, 0, 0, 0), (43, .getfield 15, 3, 2, 1, 0, 0), (46, .lload_n 1, 1, 0, 0, 0, 0), (47, .iload 4, 2, 0, 0, 0, 0), (49, .lshr, 1, 0, 0, 0, 0), (50, .l2i, 1, 0, 0, 0, 0), (51, .i2b, 1, 0, 0, 0, 0), (52, .bastore, 1, 0, 0, 0, 0), (53, .aload_n 0, 1, 0, 0, 0, 0), (54, .dup, 1, 0, 0, 0, 0), (55, .getfield 15, 3, 2, 1, 0, 0), (58, .iconst 1, 1, 0, 0, 0, 0), (59, .iadd, 1, 0, 0, 0, 0), (60, .putfield 15, 3, 2, 1, 0, 0), (63, .iinc 4 (-8), 3, 0, 0, 0, 0), (66, .goto (-33), 3, 0, 0, 0, 0), (69, .iconst 1, 1, 0, 0, 0, 0), (70, .ireturn, 1, 0, 0, 0, 0)]
/-- KindJudge$Bytes.append(JI)Z -/
def kjM_20 : mv_Me := (⟨"KindJudge$Bytes", "append", "(JI)Z"⟩, prog_3_method_2_code, 5, (some .boolean), "KindJudge$Bytes", kjT_20, 0, 0, 0, 0)
def kjT_21 : List mv_E := [(0, .aload_n 0, 1, 0, 0, 0, 0), (1, .iconst 0, 1, 0, 0, 0, 0), (2, .putfield 15, 3, 2, 1, 0, 0), (5, .return_, 1, 0, 0, 0, 0)]
/-- KindJudge$Bytes.clear()V -/
def kjM_21 : mv_Me := (⟨"KindJudge$Bytes", "clear", "()V"⟩, prog_3_method_3_code, 1, none, "KindJudge$Bytes", kjT_21, 0, 0, 0, 0)
def kjT_22 : List mv_E := [(0, .iload_n 1, 1, 0, 0, 0, 0), (1, .ifCond .lt 24, 3, 0, 0, 0, 0), (4, .iload_n 1, 1, 0, 0, 0, 0), (5, .aload_n 0, 1, 0, 0, 0, 0), (6, .getfield 15, 3, 2, 1, 0, 0), (9, .if_icmp .ge 16, 3, 0, 0, 0, 0), (25, .iconst (-1), 1, 0, 0, 0, 0), (26, .ireturn, 1, 0, 0, 0, 0)]
/-- KindJudge$Bytes.at(I)I -/
def kjM_22 : mv_Me := (⟨"KindJudge$Bytes", "at", "(I)I"⟩, prog_3_method_4_code, 2, (some .int), "KindJudge$Bytes", kjT_22, 0, 0, 0, 0)
def kjT_23 : List mv_E := [(0, .aload_n 0, 1, 0, 0, 0, 0), (1, .invokespecial 3, 3, 0, 0, 3, 0), (4, .aload_n 0, 1, 0, 0, 0, 0), (5, .new 9, 3, 4, 5, 0, 0), (8, .dup, 1, 0, 0, 0, 0), (9, .invokespecial 11, 3, 34, 1, 2, 0), (12, .putfield 12, 3, 3, 0, 4, 0), (15, .aload_n 0, 1, 0, 0, 0, 0), (16, .new 18, 3, 5, 4, 0, 0), (19, .dup, 1, 0, 0, 0, 0), (20, .invokespecial 20, 3, 46, 1, 2, 0), (23, .putfield 21, 3, 3, 1, 4, 0), (26, .aload_n 0, 1, 0, 0, 0, 0), (27, .new 18, 3, 5, 4, 0, 0), (30, .dup, 1, 0, 0, 0, 0), (31, .invokespecial 20, 3, 46, 1, 2, 0), (34, .putfield 25, 3, 3, 2, 4, 0), (37, .aload_n 0, 1, 0, 0, 0, 0), (38, .bipush 16, 2, 0, 0, 0, 0), (40, .newarray .int, 2, 0, 0, 0, 0), (42, .putfield 28, 3, 3, 4, 4, 0), (45, .aload_n 0, 1, 0, 0, 0, 0), (46, .bipush 16, 2, 0, 0, 0, 0), (48, .newarray .int, 2, 0, 0, 0, 0), (50, .putfield 32, 3, 3, 5, 4, 0), (53, .aload_n 0, 1, 0, 0, 0, 0), (54, .bipush 16, 2, 0, 0, 0, 0), (56, .newarray .int, 2, 0, 0, 0, 0), (58, .putfield 35, 3, 3, 6, 4, 0), (61, .aload_n 0, 1, 0, 0, 0, 0), (62, .bipush 16, 2, 0, 0, 0, 0), (64, .newarray .int, 2, 0, 0, 0, 0), (66, .putfield 38, 3, 3, 7, 4, 0), (69, .aload_n 0, 1, 0, 0, 0, 0), (70, .bipush 64, 2, 0, 0, 0, 0), (72, .newarray .int, 2, 0, 0, 0, 0), (74, .putfield 41, 3, 3, 8, 4, 0), (77, .aload_n 0, 1, 0, 0, 0, 0), (78, .new 44, 3, 6, 3, 0, 0), (81, .dup, 1, 0, 0, 0, 0), (82, .aload_n 1, 1, 0, 0, 0, 0), (83, .invokespecial 46, 3, 53, 2, 2, 0), (86, .putfield 49, 3, 3, 3, 4, 0), (89, .return_, 1, 0, 0, 0, 0)]
/-- KindJudge$Layout.<init>(LKindJudge$Bytes;)V -/
def kjM_23 : mv_Me := (⟨"KindJudge$Layout", "<init>", "(LKindJudge$Bytes;)V"⟩, prog_7_method_1_code, 2, none, "KindJudge$Layout", kjT_23, 19, 424, 2, 41)
def kjT_24 : List mv_E := [(0, .aload_n 0, 1, 0, 0, 0, 0), (1, .getfield 49, 3, 3, 3, 4, 0), (4, .invokevirtual 53, 3, 54, 1, 0, 6), (7, .aload_n 0, 1, 0, 0, 0, 0), (8, .getfield 12, 3, 3, 0, 4, 0), (11, .aload_n 0, 1, 0, 0, 0, 0), (12, .getfield 49, 3, 3, 3, 4, 0), (15, .invokevirtual 56, 3, 35, 2, 0, 4), (18, .aload_n 0, 1, 0, 0, 0, 0), (19, .getfield 21, 3, 3, 1, 4, 0), (22, .aload_n 0, 1, 0, 0, 0, 0), (23, .getfield 49, 3, 3, 3, 4, 0), (26, .iconst 0, 1, 0, 0, 0, 0), (27, .bipush 8, 2, 0, 0, 0, 0), (29, .invokevirtual 60, 3, 47, 4, 0, 5), (32, .iconst 0, 1, 0, 0, 0, 0), (33, .istore_n 1, 1, 0, 0, 0, 0), (34, .iload_n 1, 1, 0, 0, 0, 0), (35, .aload_n 0, 1, 0, 0, 0, 0), (36, .getfield 21, 3, 3, 1, 4, 0), (39, .getfield 64, 3, 5, 3, 0, 0), (42, .if_icmp .ge 39, 3, 0, 0, 0, 0), (81, .aload_n 0, 1, 0, 0, 0, 0), (82, .getfield 25, 3, 3, 2, 4, 0), (85, .aload_n 0, 1, 0, 0, 0, 0), (86, .getfield 49, 3, 3, 3, 4, 0), (89, .iconst 1, 1, 0, 0, 0, 0), (90, .bipush 16, 2, 0, 0, 0, 0), (92, .invokevirtual 60, 3, 47, 4, 0, 5), (95, .iconst 0, 1, 0, 0, 0, 0), (96, .istore_n 1, 1, 0, 0, 0, 0), (97, .iload_n 1, 1, 0, 0, 0, 0), (98, .aload_n 0, 1, 0, 0, 0, 0), (99, .getfield 25, 3, 3, 2, 4, 0), (102, .getfield 64, 3, 5, 3, 0, 0), (105, .if_icmp .ge 24, 3, 0, 0, 0, 0), (108, .aload_n 0, 1, 0, 0, 0, 0), (109, .getfield 49, 3, 3, 3, 4, 0), (112, .invokevirtual 68, 3, 55, 1, 0, 6), (115, .ifCond .eq 14, 3, 0, 0, 0, 0), (129, .iconst 0, 1, 0, 0, 0, 0), (130, .istore_n 1, 1, 0, 0, 0, 0), (131, .iload_n 1, 1, 0, 0, 0, 0), (132, .aload_n 0, 1, 0, 0, 0, 0), (133, .getfield 12, 3, 3, 0, 4, 0), (136, .getfield 72, 3, 4, 4, 0, 0), (139, .if_icmp .ge 24, 3, 0, 0, 0, 0), (163, .aload_n 0, 1, 0, 0, 0, 0), (164, .getfield 49, 3, 3, 3, 4, 0), (167, .invokevirtual 84, 3, 56, 1, 0, 6), (170, .ireturn, 1, 0, 0, 0, 0)]
/-- KindJudge$Layout.read()Z -/
def kjM_24 : mv_Me := (⟨"KindJudge$Layout", "read", "()Z"⟩, prog_7_method_2_code, 2, (some .boolean), "KindJudge$Layout", kjT_24, 0, 0, 5, 113)
def kjT_25 : List mv_E := [(0, .aload_n 0, 1, 0, 0, 0, 0), (1, .getfield 49, 3, 3, 3, 4, 0), (4, .invokevirtual 87, 3, 57, 1, 0, 6), (7, .ireturn, 1, 0, 0, 0, 0)]
/-- KindJudge$Layout.faultPlace()I -/
def kjM_25 : mv_Me := (⟨"KindJudge$Layout", "faultPlace", "()I"⟩, prog_7_method_3_code, 1, (some .int), "KindJudge$Layout", kjT_25, 0, 0, 1, 20)
def kjT_29 : List mv_E := [(0, .aload_n 0, 1, 0, 0, 0, 0), (1, .getfield 12, 3, 3, 0, 4, 0), (4, .iload_n 1, 1, 0, 0, 0, 0), (5, .invokevirtual 129, 3, 37, 2, 0, 4), (8, .ifCond .eq 28, 3, 0, 0, 0, 0), (36, .iconst (-1), 1, 0, 0, 0, 0), (37, .ireturn, 1, 0, 0, 0, 0)]
/-- KindJudge$Layout.methodFor(II)I -/
def kjM_29 : mv_Me := (⟨"KindJudge$Layout", "methodFor", "(II)I"⟩, prog_7_method_7_code, 3, (some .int), "KindJudge$Layout", kjT_29, 0, 0, 1, 21)
def kjT_32 : List mv_E := [(0, .iload_n 1, 1, 0, 0, 0, 0), (1, .ifCond .lt 23, 3, 0, 0, 0, 0), (4, .iload_n 1, 1, 0, 0, 0, 0), (5, .aload_n 0, 1, 0, 0, 0, 0), (6, .getfield 25, 3, 3, 2, 4, 0), (9, .getfield 64, 3, 5, 3, 0, 0), (12, .if_icmp .ge 12, 3, 0, 0, 0, 0), (24, .iconst 0, 1, 0, 0, 0, 0), (25, .ireturn, 1, 0, 0, 0, 0)]
/-- KindJudge$Layout.lengthOf(I)I -/
def kjM_32 : mv_Me := (⟨"KindJudge$Layout", "lengthOf", "(I)I"⟩, prog_7_method_10_code, 2, (some .int), "KindJudge$Layout", kjT_32, 0, 0, 0, 0)
def kjT_33 : List mv_E := [(0, .iload_n 2, 1, 0, 0, 0, 0), (1, .ifCond .lt 23, 3, 0, 0, 0, 0), (4, .iload_n 2, 1, 0, 0, 0, 0), (5, .aload_n 0, 1, 0, 0, 0, 0), (6, .iload_n 1, 1, 0, 0, 0, 0), (7, .invokevirtual 130, 3, 32, 2, 0, 3), (10, .if_icmp .ge 14, 3, 0, 0, 0, 0), (24, .iconst (-1), 1, 0, 0, 0, 0), (25, .ireturn, 1, 0, 0, 0, 0)]
/-- KindJudge$Layout.offset(II)I -/
def kjM_33 : mv_Me := (⟨"KindJudge$Layout", "offset", "(II)I"⟩, prog_7_method_11_code, 3, (some .int), "KindJudge$Layout", kjT_33, 0, 0, 1, 21)
def kjT_34 : List mv_E := [(0, .aload_n 0, 1, 0, 0, 0, 0), (1, .invokespecial 3, 3, 0, 0, 3, 0), (4, .aload_n 0, 1, 0, 0, 0, 0), (5, .bipush 8, 2, 0, 0, 0, 0), (7, .newarray .int, 2, 0, 0, 0, 0), (9, .putfield 11, 3, 4, 0, 4, 0), (12, .aload_n 0, 1, 0, 0, 0, 0), (13, .bipush 8, 2, 0, 0, 0, 0), (15, .newarray .int, 2, 0, 0, 0, 0), (17, .putfield 15, 3, 4, 1, 4, 0), (20, .aload_n 0, 1, 0, 0, 0, 0), (21, .bipush 64, 2, 0, 0, 0, 0), (23, .newarray .int, 2, 0, 0, 0, 0), (25, .putfield 18, 3, 4, 2, 4, 0), (28, .aload_n 0, 1, 0, 0, 0, 0), (29, .bipush 8, 2, 0, 0, 0, 0), (31, .newarray .int, 2, 0, 0, 0, 0), (33, .putfield 21, 3, 4, 3, 4, 0), (36, .return_, 1, 0, 0, 0, 0)]
/-- KindJudge$Classes.<init>()V -/
def kjM_34 : mv_Me := (⟨"KindJudge$Classes", "<init>", "()V"⟩, prog_4_method_1_code, 1, none, "KindJudge$Classes", kjT_34, 4, 88, 1, 20)
def kjT_35 : List mv_E := [(0, .aload_n 0, 1, 0, 0, 0, 0), (1, .aload_n 1, 1, 0, 0, 0, 0), (2, .iconst 0, 1, 0, 0, 0, 0), (3, .bipush 8, 2, 0, 0, 0, 0), (5, .invokevirtual 24, 3, 60, 3, 0, 6), (8, .putfield 30, 3, 4, 4, 0, 0), (11, .iconst 0, 1, 0, 0, 0, 0), (12, .istore_n 2, 1, 0, 0, 0, 0), (13, .iload_n 2, 1, 0, 0, 0, 0), (14, .aload_n 0, 1, 0, 0, 0, 0), (15, .getfield 30, 3, 4, 4, 0, 0), (18, .if_icmp .ge 22, 3, 0, 0, 0, 0), (40, .return_, 1, 0, 0, 0, 0)]
/-- KindJudge$Classes.read(LKindJudge$Reader;)V -/
def kjM_35 : mv_Me := (⟨"KindJudge$Classes", "read", "(LKindJudge$Reader;)V"⟩, prog_4_method_2_code, 3, none, "KindJudge$Classes", kjT_35, 0, 0, 4, 91)
def kjT_37 : List mv_E := [(0, .iload_n 1, 1, 0, 0, 0, 0), (1, .ifCond .lt 15, 3, 0, 0, 0, 0), (4, .iload_n 1, 1, 0, 0, 0, 0), (5, .aload_n 0, 1, 0, 0, 0, 0), (6, .getfield 30, 3, 4, 4, 0, 0), (9, .if_icmp .ge 7, 3, 0, 0, 0, 0), (16, .iconst 0, 1, 0, 0, 0, 0), (17, .ireturn, 1, 0, 0, 0, 0)]
/-- KindJudge$Classes.has(I)Z -/
def kjM_37 : mv_Me := (⟨"KindJudge$Classes", "has", "(I)Z"⟩, prog_4_method_4_code, 2, (some .boolean), "KindJudge$Classes", kjT_37, 0, 0, 0, 0)
def kjT_46 : List mv_E := [(0, .aload_n 0, 1, 0, 0, 0, 0), (1, .invokespecial 3, 3, 0, 0, 3, 0), (4, .aload_n 0, 1, 0, 0, 0, 0), (5, .bipush 16, 2, 0, 0, 0, 0), (7, .newarray .int, 2, 0, 0, 0, 0), (9, .putfield 11, 3, 5, 0, 4, 0), (12, .aload_n 0, 1, 0, 0, 0, 0), (13, .bipush 64, 2, 0, 0, 0, 0), (15, .newarray .int, 2, 0, 0, 0, 0), (17, .putfield 15, 3, 5, 1, 4, 0), (20, .aload_n 0, 1, 0, 0, 0, 0), (21, .bipush 16, 2, 0, 0, 0, 0), (23, .newarray .int, 2, 0, 0, 0, 0), (25, .putfield 18, 3, 5, 2, 4, 0), (28, .return_, 1, 0, 0, 0, 0)]
/-- KindJudge$Signatures.<init>()V -/
def kjM_46 : mv_Me := (⟨"KindJudge$Signatures", "<init>", "()V"⟩, prog_9_method_1_code, 1, none, "KindJudge$Signatures", kjT_46, 3, 96, 1, 20)
def kjT_47 : List mv_E := [(0, .aload_n 0, 1, 0, 0, 0, 0), (1, .aload_n 1, 1, 0, 0, 0, 0), (2, .iload_n 2, 1, 0, 0, 0, 0), (3, .iload_n 3, 1, 0, 0, 0, 0), (4, .bipush 16, 2, 0, 0, 0, 0), (6, .invokestatic 21, 3, 0, 0, 5, 0), (9, .invokevirtual 27, 3, 60, 3, 0, 6), (12, .putfield 32, 3, 5, 3, 0, 0), (15, .return_, 1, 0, 0, 0, 0)]
/-- KindJudge$Signatures.readNumber(LKindJudge$Reader;II)V -/
def kjM_47 : mv_Me := (⟨"KindJudge$Signatures", "readNumber", "(LKindJudge$Reader;II)V"⟩, prog_9_method_2_code, 4, none, "KindJudge$Signatures", kjT_47, 0, 0, 3, 64)
def kjT_49 : List mv_E := [(0, .iload_n 1, 1, 0, 0, 0, 0), (1, .ifCond .lt 15, 3, 0, 0, 0, 0), (4, .iload_n 1, 1, 0, 0, 0, 0), (5, .aload_n 0, 1, 0, 0, 0, 0), (6, .getfield 32, 3, 5, 3, 0, 0), (9, .if_icmp .ge 7, 3, 0, 0, 0, 0), (16, .iconst 0, 1, 0, 0, 0, 0), (17, .ireturn, 1, 0, 0, 0, 0)]
/-- KindJudge$Signatures.has(I)Z -/
def kjM_49 : mv_Me := (⟨"KindJudge$Signatures", "has", "(I)Z"⟩, prog_9_method_4_code, 2, (some .boolean), "KindJudge$Signatures", kjT_49, 0, 0, 0, 0)
def kjT_53 : List mv_E := [(0, .aload_n 0, 1, 0, 0, 0, 0), (1, .invokespecial 3, 3, 0, 0, 3, 0), (4, .aload_n 0, 1, 0, 0, 0, 0), (5, .aload_n 1, 1, 0, 0, 0, 0), (6, .putfield 9, 3, 6, 0, 4, 0), (9, .return_, 1, 0, 0, 0, 0)]
/-- KindJudge$Reader.<init>(LKindJudge$Bytes;)V -/
def kjM_53 : mv_Me := (⟨"KindJudge$Reader", "<init>", "(LKindJudge$Bytes;)V"⟩, prog_8_method_1_code, 2, none, "KindJudge$Reader", kjT_53, 0, 0, 1, 20)
def kjT_54 : List mv_E := [(0, .aload_n 0, 1, 0, 0, 0, 0), (1, .iconst 0, 1, 0, 0, 0, 0), (2, .putfield 15, 3, 6, 1, 0, 0), (5, .aload_n 0, 1, 0, 0, 0, 0), (6, .iconst 0, 1, 0, 0, 0, 0), (7, .putfield 19, 3, 6, 2, 1, 0), (10, .return_, 1, 0, 0, 0, 0)]
/-- KindJudge$Reader.begin()V -/
def kjM_54 : mv_Me := (⟨"KindJudge$Reader", "begin", "()V"⟩, prog_8_method_2_code, 1, none, "KindJudge$Reader", kjT_54, 0, 0, 0, 0)
def kjT_55 : List mv_E := [(0, .aload_n 0, 1, 0, 0, 0, 0), (1, .getfield 19, 3, 6, 2, 1, 0), (4, .ifCond .ne 7, 3, 0, 0, 0, 0), (11, .iconst 0, 1, 0, 0, 0, 0), (12, .ireturn, 1, 0, 0, 0, 0)]
/-- KindJudge$Reader.goesOn()Z -/
def kjM_55 : mv_Me := (⟨"KindJudge$Reader", "goesOn", "()Z"⟩, prog_8_method_3_code, 1, (some .boolean), "KindJudge$Reader", kjT_55, 0, 0, 0, 0)
def kjT_56 : List mv_E := [(0, .aload_n 0, 1, 0, 0, 0, 0), (1, .getfield 19, 3, 6, 2, 1, 0), (4, .ifCond .ne 21, 3, 0, 0, 0, 0), (25, .iconst 0, 1, 0, 0, 0, 0), (26, .ireturn, 1, 0, 0, 0, 0)]
/-- KindJudge$Reader.isAtEnd()Z -/
def kjM_56 : mv_Me := (⟨"KindJudge$Reader", "isAtEnd", "()Z"⟩, prog_8_method_4_code, 1, (some .boolean), "KindJudge$Reader", kjT_56, 0, 0, 0, 0)
def kjT_57 : List mv_E := [(0, .aload_n 0, 1, 0, 0, 0, 0), (1, .getfield 15, 3, 6, 1, 0, 0), (4, .ireturn, 1, 0, 0, 0, 0)]
/-- KindJudge$Reader.place()I -/
def kjM_57 : mv_Me := (⟨"KindJudge$Reader", "place", "()I"⟩, prog_8_method_5_code, 1, (some .int), "KindJudge$Reader", kjT_57, 0, 0, 0, 0)
def kjT_58 : List mv_E := [(0, .aload_n 0, 1, 0, 0, 0, 0), (1, .getfield 19, 3, 6, 2, 1, 0), (4, .ifCond .eq 7, 3, 0, 0, 0, 0), (7, .iconst (-1), 1, 0, 0, 0, 0), (8, .goto 14, 3, 0, 0, 0, 0), (11, .aload_n 0, 1, 0, 0, 0, 0), (12, .getfield 9, 3, 6, 0, 4, 0), (15, .aload_n 0, 1, 0, 0, 0, 0), (16, .getfield 15, 3, 6, 1, 0, 0), (19, .invokevirtual 28, 3, 22, 2, 0, 2), (22, .ireturn, 1, 0, 0, 0, 0)]
/-- KindJudge$Reader.ahead()I -/
def kjM_58 : mv_Me := (⟨"KindJudge$Reader", "ahead", "()I"⟩, prog_8_method_6_code, 1, (some .int), "KindJudge$Reader", kjT_58, 0, 0, 1, 21)
def kjT_59 : List mv_E := [(0, .iload_n 1, 1, 0, 0, 0, 0), (1, .ifCond .eq 24, 3, 0, 0, 0, 0), (25, .aload_n 0, 1, 0, 0, 0, 0), (26, .iconst 1, 1, 0, 0, 0, 0), (27, .putfield 19, 3, 6, 2, 1, 0), (30, .iconst 0, 1, 0, 0, 0, 0), (31, .ireturn, 1, 0, 0, 0, 0)]
/-- KindJudge$Reader.pass(Z)Z -/
def kjM_59 : mv_Me := (⟨"KindJudge$Reader", "pass", "(Z)Z"⟩, prog_8_method_7_code, 2, (some .boolean), "KindJudge$Reader", kjT_59, 0, 0, 0, 0)
def kjT_60 : List mv_E := [(0, .aload_n 0, 1, 0, 0, 0, 0), (1, .invokevirtual 31, 3, 58, 1, 0, 6), (4, .istore_n 3, 1, 0, 0, 0, 0), (5, .aload_n 0, 1, 0, 0, 0, 0), (6, .iload_n 3, 1, 0, 0, 0, 0), (7, .iload_n 1, 1, 0, 0, 0, 0), (8, .if_icmp .lt 12, 3, 0, 0, 0, 0), (20, .iconst 0, 1, 0, 0, 0, 0), (21, .invokevirtual 35, 3, 59, 2, 0, 6), (24, .ifCond .eq 7, 3, 0, 0, 0, 0), (31, .iload_n 1, 1, 0, 0, 0, 0), (32, .ireturn, 1, 0, 0, 0, 0)]
/-- KindJudge$Reader.number(II)I -/
def kjM_60 : mv_Me := (⟨"KindJudge$Reader", "number", "(II)I"⟩, prog_8_method_8_code, 4, (some .int), "KindJudge$Reader", kjT_60, 0, 0, 2, 41)
def kjT_63 : List mv_E := [(0, .aload_n 0, 1, 0, 0, 0, 0), (1, .invokespecial 3, 3, 0, 0, 3, 0), (4, .aload_n 0, 1, 0, 0, 0, 0), (5, .sipush 1500, 3, 0, 0, 0, 0), (8, .newarray .boolean, 2, 0, 0, 1, 0), (10, .putfield 11, 3, 7, 2, 4, 0), (13, .aload_n 0, 1, 0, 0, 0, 0), (14, .aload_n 1, 1, 0, 0, 0, 0), (15, .putfield 17, 3, 7, 0, 4, 0), (18, .aload_n 0, 1, 0, 0, 0, 0), (19, .aload_n 2, 1, 0, 0, 0, 0), (20, .putfield 21, 3, 7, 1, 4, 0), (23, .return_, 1, 0, 0, 0, 0)]
/-- KindJudge$Code.<init>(LKindJudge$Bytes;LKindJudge$Layout;)V -/
def kjM_63 : mv_Me := (⟨"KindJudge$Code", "<init>", "(LKindJudge$Bytes;LKindJudge$Layout;)V"⟩, prog_5_method_1_code, 3, none, "KindJudge$Code", kjT_63, 1, 1500, 1, 20)
def kjT_66 : List mv_E := [(0, .aload_n 0, 1, 0, 0, 0, 0), (1, .getfield 21, 3, 7, 1, 4, 0), (4, .iload_n 1, 1, 0, 0, 0, 0), (5, .iload_n 2, 1, 0, 0, 0, 0), (6, .invokevirtual 42, 3, 33, 3, 0, 3), (9, .istore_n 3, 1, 0, 0, 0, 0), (10, .iload_n 3, 1, 0, 0, 0, 0), (11, .ifCond .lt 25, 3, 0, 0, 0, 0), (36, .iconst 0, 1, 0, 0, 0, 0), (37, .ireturn, 1, 0, 0, 0, 0)]
/-- KindJudge$Code.begins(II)Z -/
def kjM_66 : mv_Me := (⟨"KindJudge$Code", "begins", "(II)Z"⟩, prog_5_method_4_code, 4, (some .boolean), "KindJudge$Code", kjT_66, 0, 0, 2, 43)
def kjT_77 : List mv_E := [(0, .aload_n 0, 1, 0, 0, 0, 0), (1, .invokespecial 3, 3, 0, 0, 3, 0), (4, .aload_n 0, 1, 0, 0, 0, 0), (5, .sipush 1500, 3, 0, 0, 0, 0), (8, .newarray .byte, 2, 0, 0, 2, 0), (10, .putfield 11, 3, 8, 2, 4, 0), (13, .aload_n 0, 1, 0, 0, 0, 0), (14, .sipush 1500, 3, 0, 0, 0, 0), (17, .newarray .long, 2, 0, 0, 3, 0), (19, .putfield 17, 3, 8, 3, 4, 0), (22, .aload_n 0, 1, 0, 0, 0, 0), (23, .bipush 120, 2, 0, 0, 0, 0), (25, .newarray .boolean, 2, 0, 0, 1, 0), (27, .putfield 23, 3, 8, 4, 4, 0), (30, .aload_n 0, 1, 0, 0, 0, 0), (31, .aload_n 1, 1, 0, 0, 0, 0), (32, .putfield 27, 3, 8, 0, 4, 0), (35, .aload_n 0, 1, 0, 0, 0, 0), (36, .aload_n 2, 1, 0, 0, 0, 0), (37, .putfield 31, 3, 8, 1, 4, 0), (40, .return_, 1, 0, 0, 0, 0)]
/-- KindJudge$Flow.<init>(LKindJudge$Layout;LKindJudge$Code;)V -/
def kjM_77 : mv_Me := (⟨"KindJudge$Flow", "<init>", "(LKindJudge$Layout;LKindJudge$Code;)V"⟩, prog_6_method_1_code, 3, none, "KindJudge$Flow", kjT_77, 3, 3120, 1, 20)
def kjT_100 : List mv_E := [(0, .aload_n 0, 1, 0, 0, 0, 0), (1, .invokespecial 1, 3, 0, 0, 3, 0), (4, .aload_n 0, 1, 0, 0, 0, 0), (5, .sipush 1500, 3, 0, 0, 0, 0), (8, .newarray .int, 2, 0, 0, 0, 0), (10, .putfield 7, 3, 9, 3, 4, 0), (13, .aload_n 0, 1, 0, 0, 0, 0), (14, .sipush 1500, 3, 0, 0, 0, 0), (17, .newarray .int, 2, 0, 0, 0, 0), (19, .putfield 13, 3, 9, 4, 4, 0), (22, .aload_n 0, 1, 0, 0, 0, 0), (23, .sipush 1500, 3, 0, 0, 0, 0), (26, .newarray .int, 2, 0, 0, 0, 0), (28, .putfield 16, 3, 9, 6, 4, 0), (31, .aload_n 0, 1, 0, 0, 0, 0), (32, .bipush 8, 2, 0, 0, 0, 0), (34, .newarray .int, 2, 0, 0, 0, 0), (36, .putfield 19, 3, 9, 13, 4, 0), (39, .aload_n 0, 1, 0, 0, 0, 0), (40, .bipush 8, 2, 0, 0, 0, 0), (42, .newarray .int, 2, 0, 0, 0, 0), (44, .putfield 22, 3, 9, 14, 4, 0), (47, .aload_n 0, 1, 0, 0, 0, 0), (48, .bipush 64, 2, 0, 0, 0, 0), (50, .newarray .int, 2, 0, 0, 0, 0), (52, .putfield 25, 3, 9, 15, 4, 0), (55, .aload_n 0, 1, 0, 0, 0, 0), (56, .bipush 8, 2, 0, 0, 0, 0), (58, .newarray .int, 2, 0, 0, 0, 0), (60, .putfield 28, 3, 9, 17, 4, 0), (63, .aload_n 0, 1, 0, 0, 0, 0), (64, .bipush 24, 2, 0, 0, 0, 0), (66, .newarray .int, 2, 0, 0, 0, 0), (68, .putfield 31, 3, 9, 18, 4, 0), (71, .aload_n 0, 1, 0, 0, 0, 0), (72, .bipush 8, 2, 0, 0, 0, 0), (74, .newarray .int, 2, 0, 0, 0, 0), (76, .putfield 34, 3, 9, 19, 4, 0), (79, .aload_n 0, 1, 0, 0, 0, 0), (80, .bipush 16, 2, 0, 0, 0, 0), (82, .newarray .int, 2, 0, 0, 0, 0), (84, .putfield 37, 3, 9, 21, 4, 0), (87, .aload_n 0, 1, 0, 0, 0, 0), (88, .bipush 64, 2, 0, 0, 0, 0), (90, .newarray .int, 2, 0, 0, 0, 0), (92, .putfield 40, 3, 9, 22, 4, 0), (95, .aload_n 0, 1, 0, 0, 0, 0), (96, .bipush 16, 2, 0, 0, 0, 0), (98, .newarray .int, 2, 0, 0, 0, 0), (100, .putfield 43, 3, 9, 23, 4, 0), (103, .aload_n 0, 1, 0, 0, 0, 0), (104, .bipush 16, 2, 0, 0, 0, 0), (106, .newarray .int, 2, 0, 0, 0, 0), (108, .putfield 46, 3, 9, 24, 4, 0), (111, .aload_n 0, 1, 0, 0, 0, 0), (112, .bipush 16, 2, 0, 0, 0, 0), (114, .newarray .int, 2, 0, 0, 0, 0), (116, .putfield 49, 3, 9, 25, 4, 0), (119, .aload_n 0, 1, 0, 0, 0, 0), (120, .bipush 16, 2, 0, 0, 0, 0), (122, .newarray .int, 2, 0, 0, 0, 0), (124, .putfield 52, 3, 9, 26, 4, 0), (127, .aload_n 0, 1, 0, 0, 0, 0), (128, .sipush 1920, 3, 0, 0, 0, 0), (131, .newarray .int, 2, 0, 0, 0, 0), (133, .putfield 55, 3, 9, 27, 4, 0), (136, .aload_n 0, 1, 0, 0, 0, 0), (137, .sipush 1920, 3, 0, 0, 0, 0), (140, .newarray .boolean, 2, 0, 0, 1, 0), (142, .putfield 58, 3, 9, 28, 4, 0), (145, .aload_n 0, 1, 0, 0, 0, 0), (146, .bipush 64, 2, 0, 0, 0, 0), (148, .newarray .int, 2, 0, 0, 0, 0), (150, .putfield 62, 3, 9, 29, 4, 0), (153, .aload_n 0, 1, 0, 0, 0, 0), (154, .sipush 1920, 3, 0, 0, 0, 0), (157, .newarray .int, 2, 0, 0, 0, 0), (159, .putfield 65, 3, 9, 30, 4, 0), (162, .aload_n 0, 1, 0, 0, 0, 0), (163, .sipush 30720, 3, 0, 0, 0, 0), (166, .newarray .int, 2, 0, 0, 0, 0), (168, .putfield 68, 3, 9, 31, 4, 0), (171, .aload_n 0, 1, 0, 0, 0, 0), (172, .bipush 16, 2, 0, 0, 0, 0), (174, .newarray .int, 2, 0, 0, 0, 0), (176, .putfield 71, 3, 9, 32, 4, 0), (179, .return_, 1, 0, 0, 0, 0)]
/-- KindJudgeModel.<init>()V -/
def kjM_100 : mv_Me := (⟨"KindJudgeModel", "<init>", "()V"⟩, prog_11_method_1_code, 1, none, "KindJudgeModel", kjT_100, 21, 41324, 1, 20)
def kjT_101 : List mv_E := [(0, .aload_n 0, 1, 0, 0, 0, 0), (1, .getfield 74, 3, 9, 0, 0, 0), (4, .ireturn, 1, 0, 0, 0, 0)]
/-- KindJudgeModel.thrown()I -/
def kjM_101 : mv_Me := (⟨"KindJudgeModel", "thrown", "()I"⟩, prog_11_method_2_code, 1, (some .int), "KindJudgeModel", kjT_101, 0, 0, 0, 0)
def kjT_102 : List mv_E := [(0, .aload_n 0, 1, 0, 0, 0, 0), (1, .iload_n 1, 1, 0, 0, 0, 0), (2, .putfield 74, 3, 9, 0, 0, 0), (5, .iconst 0, 1, 0, 0, 0, 0), (6, .ireturn, 1, 0, 0, 0, 0)]
/-- KindJudgeModel.raise(I)I -/
def kjM_102 : mv_Me := (⟨"KindJudgeModel", "raise", "(I)I"⟩, prog_11_method_3_code, 2, (some .int), "KindJudgeModel", kjT_102, 0, 0, 0, 0)
def kjT_104 : List mv_E := [(0, .aload_n 0, 1, 0, 0, 0, 0), (1, .iconst 0, 1, 0, 0, 0, 0), (2, .putfield 74, 3, 9, 0, 0, 0), (5, .iload_n 3, 1, 0, 0, 0, 0), (6, .iconst 1, 1, 0, 0, 0, 0), (7, .if_icmp .lt 21, 3, 0, 0, 0, 0), (10, .iload_n 3, 1, 0, 0, 0, 0), (11, .bipush 8, 2, 0, 0, 0, 0), (13, .if_icmp .gt 15, 3, 0, 0, 0, 0), (16, .aload_n 0, 1, 0, 0, 0, 0), (17, .getfield 78, 3, 9, 2, 0, 0), (20, .iload_n 3, 1, 0, 0, 0, 0), (21, .iadd, 1, 0, 0, 0, 0), (22, .sipush 1500, 3, 0, 0, 0, 0), (25, .if_icmp .le 5, 3, 0, 0, 0, 0), (28, .iconst 0, 1, 0, 0, 0, 0), (29, .ireturn, 1, 0, 0, 0, 0), (30, .iload_n 3, 1, 0, 0, 0, 0), (31, .iconst 1, 1, 0, 0, 0, 0), (32, .isub, 1, 0, 0, 0, 0), (33, .istore 4, 2, 0, 0, 0, 0), (35, .iload 4, 2, 0, 0, 0, 0), (37, .ifCond .lt 40, 3, 0, 0, 0, 0), (40, .aload_n 0, 1, 0, 0, 0, 0), (41, .getfield 7, 3, 9, 3, 4, 0), (44, .aload_n 0, 1, 0, 0, 0, 0), (45, .getfield 78, 3, 9, 2, 0, 0), (48, .lload_n 1, 1, 0, 0, 0, 0), (49, .bipush 8, 2, 0, 0, 0, 0), (51, .iload 4, 2, 0, 0, 0, 0), (53, .imul, 1, 0, 0, 0, 0), (54, .lshr, 1, 0, 0, 0, 0), (55, .ldc2_w 81, 3, 255, 0, 0, 0), (58, .land, 1, 0, 0, 0, 0), (59, .l2i, 1, 0, 0, 0, 0), (60, .iastore, 1, 0, 0, 0, 0), (61, .aload_n 0, 1, 0, 0, 0, 0), (62, .dup, 1, 0, 0, 0, 0), (63, .getfield 78, 3, 9, 2, 0, 0), (66, .iconst 1, 1, 0, 0, 0, 0), (67, .iadd, 1, 0, 0, 0, 0), (68, .putfield 78, 3, 9, 2, 0, 0), (71, .iinc 4 (-1), 3, 0, 0, 0, 0), (74, .goto (-39), 3, 0, 0, 0, 0), (77, .iconst 1, 1, 0, 0, 0, 0), (78, .ireturn, 1, 0, 0, 0, 0)]
/-- KindJudgeModel.put(JI)Z -/
def kjM_104 : mv_Me := (⟨"KindJudgeModel", "put", "(JI)Z"⟩, prog_11_method_5_code, 5, (some .boolean), "KindJudgeModel", kjT_104, 0, 0, 0, 0)
def kjT_105 : List mv_E := [(0, .aload_n 0, 1, 0, 0, 0, 0), (1, .getfield 83, 3, 9, 36, 1, 0), (4, .ifCond .eq 5, 3, 0, 0, 0, 0), (7, .iconst 0, 1, 0, 0, 0, 0), (8, .ireturn, 1, 0, 0, 0, 0), (9, .aload_n 0, 1, 0, 0, 0, 0), (10, .getfield 87, 3, 9, 35, 0, 0), (13, .aload_n 0, 1, 0, 0, 0, 0), (14, .getfield 90, 3, 9, 5, 0, 0), (17, .if_icmp .ge 20, 3, 0, 0, 0, 0), (37, .aload_n 0, 1, 0, 0, 0, 0), (38, .iconst 1, 1, 0, 0, 0, 0), (39, .putfield 83, 3, 9, 36, 1, 0), (42, .iconst 0, 1, 0, 0, 0, 0), (43, .ireturn, 1, 0, 0, 0, 0)]
/-- KindJudgeModel.next(II)I -/
def kjM_105 : mv_Me := (⟨"KindJudgeModel", "next", "(II)I"⟩, prog_11_method_6_code, 3, (some .int), "KindJudgeModel", kjT_105, 0, 0, 1, 22)
def kjT_114 : List mv_E := [(0, .aload_n 0, 1, 0, 0, 0, 0), (1, .iconst 0, 1, 0, 0, 0, 0), (2, .putfield 87, 3, 9, 35, 0, 0), (5, .aload_n 0, 1, 0, 0, 0, 0), (6, .iconst 0, 1, 0, 0, 0, 0), (7, .putfield 83, 3, 9, 36, 1, 0), (10, .aload_n 0, 1, 0, 0, 0, 0), (11, .iconst 0, 1, 0, 0, 0, 0), (12, .putfield 97, 3, 9, 12, 0, 0), (15, .aload_n 0, 1, 0, 0, 0, 0), (16, .aload_n 0, 1, 0, 0, 0, 0), (17, .iconst 0, 1, 0, 0, 0, 0), (18, .bipush 8, 2, 0, 0, 0, 0), (20, .invokevirtual 100, 3, 105, 3, 0, 9), (23, .putfield 97, 3, 9, 12, 0, 0), (26, .iconst 0, 1, 0, 0, 0, 0), (27, .istore_n 1, 1, 0, 0, 0, 0), (28, .iload_n 1, 1, 0, 0, 0, 0), (29, .aload_n 0, 1, 0, 0, 0, 0), (30, .getfield 97, 3, 9, 12, 0, 0), (33, .if_icmp .ge 21, 3, 0, 0, 0, 0), (54, .aload_n 0, 1, 0, 0, 0, 0), (55, .aload_n 0, 1, 0, 0, 0, 0), (56, .iconst 0, 1, 0, 0, 0, 0), (57, .bipush 8, 2, 0, 0, 0, 0), (59, .invokevirtual 100, 3, 105, 3, 0, 9), (62, .putfield 124, 3, 9, 16, 0, 0), (65, .iconst 0, 1, 0, 0, 0, 0), (66, .istore_n 1, 1, 0, 0, 0, 0), (67, .iload_n 1, 1, 0, 0, 0, 0), (68, .aload_n 0, 1, 0, 0, 0, 0), (69, .getfield 124, 3, 9, 16, 0, 0), (72, .if_icmp .ge 21, 3, 0, 0, 0, 0), (93, .aload_n 0, 1, 0, 0, 0, 0), (94, .aload_n 0, 1, 0, 0, 0, 0), (95, .iconst 1, 1, 0, 0, 0, 0), (96, .bipush 16, 2, 0, 0, 0, 0), (98, .invokevirtual 100, 3, 105, 3, 0, 9), (101, .putfield 114, 3, 9, 20, 0, 0), (104, .iconst 0, 1, 0, 0, 0, 0), (105, .istore_n 1, 1, 0, 0, 0, 0), (106, .iload_n 1, 1, 0, 0, 0, 0), (107, .aload_n 0, 1, 0, 0, 0, 0), (108, .getfield 114, 3, 9, 20, 0, 0), (111, .if_icmp .ge 21, 3, 0, 0, 0, 0), (132, .iconst 0, 1, 0, 0, 0, 0), (133, .istore_n 1, 1, 0, 0, 0, 0), (134, .iload_n 1, 1, 0, 0, 0, 0), (135, .aload_n 0, 1, 0, 0, 0, 0), (136, .getfield 97, 3, 9, 12, 0, 0), (139, .aload_n 0, 1, 0, 0, 0, 0), (140, .getfield 124, 3, 9, 16, 0, 0), (143, .imul, 1, 0, 0, 0, 0), (144, .if_icmp .ge 32, 3, 0, 0, 0, 0), (176, .aload_n 0, 1, 0, 0, 0, 0), (177, .getfield 83, 3, 9, 36, 1, 0), (180, .ifCond .ne 19, 3, 0, 0, 0, 0), (199, .aload_n 0, 1, 0, 0, 0, 0), (200, .getfield 83, 3, 9, 36, 1, 0), (203, .ifCond .ne 7, 3, 0, 0, 0, 0), (210, .iconst 0, 1, 0, 0, 0, 0), (211, .ireturn, 1, 0, 0, 0, 0)]
/-- KindJudgeModel.takeApart()Z -/
def kjM_114 : mv_Me := (⟨"KindJudgeModel", "takeApart", "()Z"⟩, prog_11_method_15_code, 2, (some .boolean), "KindJudgeModel", kjT_114, 0, 0, 4, 92)
def kjT_121 : List mv_E := [(0, .aload_n 0, 1, 0, 0, 0, 0), (1, .iload_n 1, 1, 0, 0, 0, 0), (2, .putfield 150, 3, 9, 9, 0, 0), (5, .aload_n 0, 1, 0, 0, 0, 0), (6, .iload_n 2, 1, 0, 0, 0, 0), (7, .putfield 153, 3, 9, 11, 0, 0), (10, .aload_n 0, 1, 0, 0, 0, 0), (11, .iload_n 3, 1, 0, 0, 0, 0), (12, .putfield 156, 3, 9, 10, 0, 0), (15, .iconst 0, 1, 0, 0, 0, 0), (16, .ireturn, 1, 0, 0, 0, 0)]
/-- KindJudgeModel.findFault(III)Z -/
def kjM_121 : mv_Me := (⟨"KindJudgeModel", "findFault", "(III)Z"⟩, prog_11_method_22_code, 4, (some .boolean), "KindJudgeModel", kjT_121, 0, 0, 0, 0)
def kjT_122 : List mv_E := [(0, .aload_n 0, 1, 0, 0, 0, 0), (1, .invokevirtual 159, 3, 114, 1, 0, 9), (4, .ifCond .ne 14, 3, 0, 0, 0, 0), (7, .aload_n 0, 1, 0, 0, 0, 0), (8, .iconst 1, 1, 0, 0, 0, 0), (9, .iconst 0, 1, 0, 0, 0, 0), (10, .aload_n 0, 1, 0, 0, 0, 0), (11, .getfield 87, 3, 9, 35, 0, 0), (14, .invokevirtual 163, 3, 121, 4, 0, 9), (17, .ireturn, 1, 0, 0, 0, 0)]
/-- KindJudgeModel.isFine()Z -/
def kjM_122 : mv_Me := (⟨"KindJudgeModel", "isFine", "()Z"⟩, prog_11_method_23_code, 3, (some .boolean), "KindJudgeModel", kjT_122, 0, 0, 6, 146)
def kjT_123 : List mv_E := [(0, .aload_n 0, 1, 0, 0, 0, 0), (1, .aload_n 0, 1, 0, 0, 0, 0), (2, .getfield 78, 3, 9, 2, 0, 0), (5, .putfield 90, 3, 9, 5, 0, 0), (8, .iconst 0, 1, 0, 0, 0, 0), (9, .istore_n 1, 1, 0, 0, 0, 0), (10, .iload_n 1, 1, 0, 0, 0, 0), (11, .aload_n 0, 1, 0, 0, 0, 0), (12, .getfield 78, 3, 9, 2, 0, 0), (15, .if_icmp .ge 21, 3, 0, 0, 0, 0), (36, .aload_n 0, 1, 0, 0, 0, 0), (37, .iconst 0, 1, 0, 0, 0, 0), (38, .putfield 78, 3, 9, 2, 0, 0), (41, .aload_n 0, 1, 0, 0, 0, 0), (42, .invokevirtual 178, 3, 122, 1, 0, 9), (45, .istore_n 1, 1, 0, 0, 0, 0), (46, .iload_n 1, 1, 0, 0, 0, 0), (47, .ifCond .eq 79, 3, 0, 0, 0, 0), (126, .aload_n 0, 1, 0, 0, 0, 0), (127, .getfield 184, 3, 9, 8, 1, 0), (130, .ifCond .eq 7, 3, 0, 0, 0, 0), (137, .aload_n 0, 1, 0, 0, 0, 0), (138, .iconst 1, 1, 0, 0, 0, 0), (139, .invokevirtual 193, 3, 102, 2, 0, 9), (142, .ireturn, 1, 0, 0, 0, 0)]
/-- KindJudgeModel.load()I -/
def kjM_123 : mv_Me := (⟨"KindJudgeModel", "load", "()I"⟩, prog_11_method_24_code, 3, (some .int), "KindJudgeModel", kjT_123, 0, 0, 8, 192)
def kjT_125 : List mv_E := [(0, .aload_n 0, 1, 0, 0, 0, 0), (1, .iconst 0, 1, 0, 0, 0, 0), (2, .putfield 74, 3, 9, 0, 0, 0), (5, .iload_n 1, 1, 0, 0, 0, 0), (6, .ifCond .ne 10, 3, 0, 0, 0, 0), (9, .aload_n 0, 1, 0, 0, 0, 0), (10, .getfield 150, 3, 9, 9, 0, 0), (13, .goto 28, 3, 0, 0, 0, 0), (16, .iload_n 1, 1, 0, 0, 0, 0), (17, .iconst 1, 1, 0, 0, 0, 0), (18, .if_icmp .ne 10, 3, 0, 0, 0, 0), (21, .aload_n 0, 1, 0, 0, 0, 0), (22, .getfield 156, 3, 9, 10, 0, 0), (25, .goto 16, 3, 0, 0, 0, 0), (28, .iload_n 1, 1, 0, 0, 0, 0), (29, .iconst 2, 1, 0, 0, 0, 0), (30, .if_icmp .ne 10, 3, 0, 0, 0, 0), (33, .aload_n 0, 1, 0, 0, 0, 0), (34, .getfield 153, 3, 9, 11, 0, 0), (37, .goto 4, 3, 0, 0, 0, 0), (40, .iconst (-1), 1, 0, 0, 0, 0), (41, .ireturn, 1, 0, 0, 0, 0)]
/-- KindJudgeModel.fault(I)I -/
def kjM_125 : mv_Me := (⟨"KindJudgeModel", "fault", "(I)I"⟩, prog_11_method_26_code, 2, (some .int), "KindJudgeModel", kjT_125, 0, 0, 0, 0)
def kjT_139 : List mv_E := [(0, .aload_n 0, 1, 0, 0, 0, 0), (1, .iconst 0, 1, 0, 0, 0, 0), (2, .putfield 74, 3, 9, 0, 0, 0), (5, .aload_n 0, 1, 0, 0, 0, 0), (6, .getfield 184, 3, 9, 8, 1, 0), (9, .ifCond .eq 62, 3, 0, 0, 0, 0), (71, .iconst (-1), 1, 0, 0, 0, 0), (72, .ireturn, 1, 0, 0, 0, 0)]
/-- KindJudgeModel.kind(III)I -/
def kjM_139 : mv_Me := (⟨"KindJudgeModel", "kind", "(III)I"⟩, prog_11_method_40_code, 5, (some .int), "KindJudgeModel", kjT_139, 0, 0, 1, 22)
def kjT_140 : List mv_E := [(0, .aload_n 0, 1, 0, 0, 0, 0), (1, .getfield 184, 3, 9, 8, 1, 0), (4, .ifCond .eq 21, 3, 0, 0, 0, 0), (25, .iconst 0, 1, 0, 0, 0, 0), (26, .ireturn, 1, 0, 0, 0, 0)]
/-- KindJudgeModel.isMethod(I)Z -/
def kjM_140 : mv_Me := (⟨"KindJudgeModel", "isMethod", "(I)Z"⟩, prog_11_method_41_code, 2, (some .boolean), "KindJudgeModel", kjT_140, 0, 0, 1, 22)
def kjT_141 : List mv_E := [(0, .aload_n 0, 1, 0, 0, 0, 0), (1, .iload_n 1, 1, 0, 0, 0, 0), (2, .invokevirtual 238, 3, 140, 2, 0, 9), (5, .ifCond .eq 37, 3, 0, 0, 0, 0), (42, .iconst 0, 1, 0, 0, 0, 0), (43, .ireturn, 1, 0, 0, 0, 0)]
/-- KindJudgeModel.isBegun(II)Z -/
def kjM_141 : mv_Me := (⟨"KindJudgeModel", "isBegun", "(II)Z"⟩, prog_11_method_42_code, 3, (some .boolean), "KindJudgeModel", kjT_141, 0, 0, 2, 43)
def kjT_144 : List mv_E := [(0, .aload_n 0, 1, 0, 0, 0, 0), (1, .aload_n 0, 1, 0, 0, 0, 0), (2, .iload_n 1, 1, 0, 0, 0, 0), (3, .iload_n 2, 1, 0, 0, 0, 0), (4, .invokevirtual 241, 3, 141, 3, 0, 9), (7, .ifCond .eq 16, 3, 0, 0, 0, 0), (23, .iconst 1, 1, 0, 0, 0, 0), (24, .putfield 74, 3, 9, 0, 0, 0), (27, .aload_n 0, 1, 0, 0, 0, 0), (28, .getfield 74, 3, 9, 0, 0, 0), (31, .ifCond .eq 5, 3, 0, 0, 0, 0), (34, .iconst 0, 1, 0, 0, 0, 0), (35, .ireturn, 1, 0, 0, 0, 0)]
/-- KindJudgeModel.look(III)I -/
def kjM_144 : mv_Me := (⟨"KindJudgeModel", "look", "(III)I"⟩, prog_11_method_45_code, 4, (some .int), "KindJudgeModel", kjT_144, 0, 0, 3, 65)
def kjT_146 : List mv_E := [(0, .aload_n 0, 1, 0, 0, 0, 0), (1, .iconst 0, 1, 0, 0, 0, 0), (2, .putfield 74, 3, 9, 0, 0, 0), (5, .aload_n 0, 1, 0, 0, 0, 0), (6, .iload_n 1, 1, 0, 0, 0, 0), (7, .iload_n 2, 1, 0, 0, 0, 0), (8, .invokevirtual 241, 3, 141, 3, 0, 9), (11, .ifCond .ne 5, 3, 0, 0, 0, 0), (14, .iconst (-1), 1, 0, 0, 0, 0), (15, .ireturn, 1, 0, 0, 0, 0)]
/-- KindJudgeModel.ways(II)I -/
def kjM_146 : mv_Me := (⟨"KindJudgeModel", "ways", "(II)I"⟩, prog_11_method_47_code, 5, (some .int), "KindJudgeModel", kjT_146, 0, 0, 3, 71)
def kjT_147 : List mv_E := [(0, .aload_n 0, 1, 0, 0, 0, 0), (1, .iconst 0, 1, 0, 0, 0, 0), (2, .putfield 74, 3, 9, 0, 0, 0), (5, .aload_n 0, 1, 0, 0, 0, 0), (6, .iload_n 1, 1, 0, 0, 0, 0), (7, .invokevirtual 238, 3, 140, 2, 0, 9), (10, .ifCond .eq 12, 3, 0, 0, 0, 0), (22, .iconst (-1), 1, 0, 0, 0, 0), (23, .ireturn, 1, 0, 0, 0, 0)]
/-- KindJudgeModel.count(II)I -/
def kjM_147 : mv_Me := (⟨"KindJudgeModel", "count", "(II)I"⟩, prog_11_method_48_code, 8, (some .int), "KindJudgeModel", kjT_147, 0, 0, 2, 45)
def kjT_149 : List mv_E := [(0, .aload_n 0, 1, 0, 0, 0, 0), (1, .iconst 0, 1, 0, 0, 0, 0), (2, .putfield 74, 3, 9, 0, 0, 0), (5, .aload_n 0, 1, 0, 0, 0, 0), (6, .getfield 184, 3, 9, 8, 1, 0), (9, .ifCond .eq 24, 3, 0, 0, 0, 0), (33, .iconst (-1), 1, 0, 0, 0, 0), (34, .ireturn, 1, 0, 0, 0, 0)]
/-- KindJudgeModel.fits(II)I -/
def kjM_149 : mv_Me := (⟨"KindJudgeModel", "fits", "(II)I"⟩, prog_11_method_50_code, 3, (some .int), "KindJudgeModel", kjT_149, 0, 0, 2, 45)
def kjT_150 : List mv_E := [(0, .aload_n 0, 1, 0, 0, 0, 0), (1, .iconst 0, 1, 0, 0, 0, 0), (2, .putfield 74, 3, 9, 0, 0, 0), (5, .aload_n 0, 1, 0, 0, 0, 0), (6, .getfield 184, 3, 9, 8, 1, 0), (9, .ifCond .eq 36, 3, 0, 0, 0, 0), (45, .iconst (-1), 1, 0, 0, 0, 0), (46, .ireturn, 1, 0, 0, 0, 0)]
/-- KindJudgeModel.meet(II)I -/
def kjM_150 : mv_Me := (⟨"KindJudgeModel", "meet", "(II)I"⟩, prog_11_method_51_code, 3, (some .int), "KindJudgeModel", kjT_150, 0, 0, 3, 68)
def kjT_151 : List mv_E := [(0, .aload_n 0, 1, 0, 0, 0, 0), (1, .iconst 0, 1, 0, 0, 0, 0), (2, .putfield 74, 3, 9, 0, 0, 0), (5, .aload_n 0, 1, 0, 0, 0, 0), (6, .getfield 184, 3, 9, 8, 1, 0), (9, .ifCond .eq 40, 3, 0, 0, 0, 0), (49, .iconst (-1), 1, 0, 0, 0, 0), (50, .ireturn, 1, 0, 0, 0, 0)]
/-- KindJudgeModel.method(II)I -/
def kjM_151 : mv_Me := (⟨"KindJudgeModel", "method", "(II)I"⟩, prog_11_method_52_code, 3, (some .int), "KindJudgeModel", kjT_151, 0, 0, 1, 23)
def kjT_152 : List mv_E := [(0, .aload_n 0, 1, 0, 0, 0, 0), (1, .iconst 0, 1, 0, 0, 0, 0), (2, .putfield 74, 3, 9, 0, 0, 0), (5, .aload_n 0, 1, 0, 0, 0, 0), (6, .getfield 184, 3, 9, 8, 1, 0), (9, .ifCond .eq 17, 3, 0, 0, 0, 0), (26, .iconst (-1), 1, 0, 0, 0, 0), (27, .ireturn, 1, 0, 0, 0, 0)]
/-- KindJudgeModel.type(II)I -/
def kjM_152 : mv_Me := (⟨"KindJudgeModel", "type", "(II)I"⟩, prog_11_method_53_code, 3, (some .int), "KindJudgeModel", kjT_152, 0, 0, 1, 22)
def kjT_153 : List mv_E := [(0, .aload_n 0, 1, 0, 0, 0, 0), (1, .iconst 0, 1, 0, 0, 0, 0), (2, .putfield 74, 3, 9, 0, 0, 0), (5, .iload_n 1, 1, 0, 0, 0, 0), (6, .tableswitch 92 0 4 #[34, 50, 66, 82, 87], 34, 0, 0, 0, 0), (40, .aload_n 0, 1, 0, 0, 0, 0), (41, .getfield 184, 3, 9, 8, 1, 0), (44, .ifCond .eq 10, 3, 0, 0, 0, 0), (54, .iconst 0, 1, 0, 0, 0, 0), (55, .ireturn, 1, 0, 0, 0, 0), (56, .aload_n 0, 1, 0, 0, 0, 0), (57, .getfield 184, 3, 9, 8, 1, 0), (60, .ifCond .eq 10, 3, 0, 0, 0, 0), (70, .iconst 0, 1, 0, 0, 0, 0), (71, .ireturn, 1, 0, 0, 0, 0), (72, .aload_n 0, 1, 0, 0, 0, 0), (73, .getfield 184, 3, 9, 8, 1, 0), (76, .ifCond .eq 10, 3, 0, 0, 0, 0), (86, .iconst 0, 1, 0, 0, 0, 0), (87, .ireturn, 1, 0, 0, 0, 0), (88, .aload_n 0, 1, 0, 0, 0, 0), (89, .getfield 78, 3, 9, 2, 0, 0), (92, .ireturn, 1, 0, 0, 0, 0), (93, .aload_n 0, 1, 0, 0, 0, 0), (94, .getfield 187, 3, 9, 1, 0, 0), (97, .ireturn, 1, 0, 0, 0, 0), (98, .iconst (-1), 1, 0, 0, 0, 0), (99, .ireturn, 1, 0, 0, 0, 0)]
/-- KindJudgeModel.total(I)I -/
def kjM_153 : mv_Me := (⟨"KindJudgeModel", "total", "(I)I"⟩, prog_11_method_54_code, 2, (some .int), "KindJudgeModel", kjT_153, 0, 0, 0, 0)
def kjP : List mv_Me := [kjM_0, kjM_1, kjM_2, kjM_3, kjM_4, kjM_5, kjM_6, kjM_7, kjM_8, kjM_9, kjM_10, kjM_11, kjM_12, kjM_13, kjM_14, kjM_101, kjM_101, kjM_101, kjM_18, kjM_19, kjM_20, kjM_21, kjM_22, kjM_23, kjM_24, kjM_25, kjM_101, kjM_101, kjM_101, kjM_29, kjM_101, kjM_101, kjM_32, kjM_33, kjM_34, kjM_35, kjM_101, kjM_37, kjM_101, kjM_101, kjM_101, kjM_101, kjM_101, kjM_101, kjM_101, kjM_101, kjM_46, kjM_47, kjM_101, kjM_49, kjM_101, kjM_101, kjM_101, kjM_53, kjM_54, kjM_55, kjM_56, kjM_57, kjM_58, kjM_59, kjM_60, kjM_101, kjM_101, kjM_63, kjM_101, kjM_101, kjM_66, kjM_101, kjM_101, kjM_101, kjM_101, kjM_101, kjM_101, kjM_101, kjM_101, kjM_101, kjM_101, kjM_77, kjM_101, kjM_101, kjM_101, kjM_101, kjM_101, kjM_101, kjM_101, kjM_101, kjM_101, kjM_101, kjM_101, kjM_101, kjM_101, kjM_101, kjM_101, kjM_101, kjM_101, kjM_101, kjM_101, kjM_101, kjM_101, kjM_101, kjM_100, kjM_101, kjM_102, kjM_101, kjM_104, kjM_105, kjM_101, kjM_101, kjM_101, kjM_101, kjM_101, kjM_101, kjM_101, kjM_101, kjM_114, kjM_101, kjM_101, kjM_101, kjM_101, kjM_101, kjM_101, kjM_121, kjM_122, kjM_123, kjM_101, kjM_125, kjM_101, kjM_101, kjM_101, kjM_101, kjM_101, kjM_101, kjM_101, kjM_101, kjM_101, kjM_101, kjM_101, kjM_101, kjM_101, kjM_139, kjM_140, kjM_141, kjM_101, kjM_101, kjM_144, kjM_101, kjM_146, kjM_147, kjM_101, kjM_149, kjM_150, kjM_151, kjM_152, kjM_153]
abbrev kjTs : List Jvm.Cond := lw_tbl.filter goodWord
abbrev kjNw : List Jvm.Cond := lw_tbl.filter mv_nest
