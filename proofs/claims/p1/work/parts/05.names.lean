/-! names: classes, fields, layouts, methods (printed by a program from the class files) -/
abbrev R_UM : String := "UnwindMill"
abbrev R_Tr : String := "UnwindMill$Tree"
abbrev R_Co : String := "UnwindMill$Code"
abbrev R_La : String := "UnwindMill$Layer"
abbrev R_Ma : String := "UnwindMill$Machine"
abbrev R_Sc : String := "UnwindMill$Scopes"
abbrev R_Wo : String := "UnwindMill$Work"
abbrev R_Ha : String := "UnwindMill$Handlers"
abbrev R_Mo : String := "UnwindMillModel"
abbrev R_Ar : String := "java/util/Arrays"
def F_UM : u_T := fun k => match k with
  | 0 => ("UnwindMill", "tree", "LUnwindMill$Tree;", true)
  | 1 => ("UnwindMill", "code", "LUnwindMill$Code;", true)
  | 2 => ("UnwindMill", "layer", "LUnwindMill$Layer;", true)
  | _ => ("UnwindMill", "machine", "LUnwindMill$Machine;", true)
def t_UM : Nat → FieldType := fun k => match k with
  | 0 => .object "UnwindMill$Tree"
  | 1 => .object "UnwindMill$Code"
  | 2 => .object "UnwindMill$Layer"
  | _ => .object "UnwindMill$Machine"
def F_Tr : u_T := fun k => match k with
  | 0 => ("UnwindMill$Tree", "kinds", "[I", true)
  | 1 => ("UnwindMill$Tree", "parts", "[I", true)
  | 2 => ("UnwindMill$Tree", "bodies", "[I", true)
  | _ => ("UnwindMill$Tree", "count", "I", false)
def t_Tr : Nat → FieldType := fun k => match k with
  | 0 => .array .int
  | 1 => .array .int
  | 2 => .array .int
  | _ => .int
def F_Co : u_T := fun k => match k with
  | 0 => ("UnwindMill$Code", "ops", "[I", true)
  | 1 => ("UnwindMill$Code", "args", "[I", true)
  | 2 => ("UnwindMill$Code", "contexts", "[I", true)
  | 3 => ("UnwindMill$Code", "entries", "[I", true)
  | 4 => ("UnwindMill$Code", "rows", "[I", true)
  | 5 => ("UnwindMill$Code", "count", "I", false)
  | 6 => ("UnwindMill$Code", "rowCount", "I", false)
  | 7 => ("UnwindMill$Code", "begun", "I", false)
  | _ => ("UnwindMill$Code", "deepestKeep", "I", false)
def t_Co : Nat → FieldType := fun k => match k with
  | 0 => .array .int
  | 1 => .array .int
  | 2 => .array .int
  | 3 => .array .int
  | 4 => .array .int
  | 5 => .int
  | 6 => .int
  | 7 => .int
  | _ => .int
def F_La : u_T := fun k => match k with
  | 0 => ("UnwindMill$Layer", "tree", "LUnwindMill$Tree;", true)
  | 1 => ("UnwindMill$Layer", "code", "LUnwindMill$Code;", true)
  | 2 => ("UnwindMill$Layer", "scopes", "LUnwindMill$Scopes;", true)
  | 3 => ("UnwindMill$Layer", "work", "LUnwindMill$Work;", true)
  | 4 => ("UnwindMill$Layer", "handlers", "LUnwindMill$Handlers;", true)
  | 5 => ("UnwindMill$Layer", "done", "[I", true)
  | 6 => ("UnwindMill$Layer", "doneCount", "I", false)
  | 7 => ("UnwindMill$Layer", "erased", "Z", false)
  | _ => ("UnwindMill$Layer", "verdict", "I", false)
def t_La : Nat → FieldType := fun k => match k with
  | 0 => .object "UnwindMill$Tree"
  | 1 => .object "UnwindMill$Code"
  | 2 => .object "UnwindMill$Scopes"
  | 3 => .object "UnwindMill$Work"
  | 4 => .object "UnwindMill$Handlers"
  | 5 => .array .int
  | 6 => .int
  | 7 => .boolean
  | _ => .int
def F_Ma : u_T := fun k => match k with
  | 0 => ("UnwindMill$Machine", "code", "LUnwindMill$Code;", true)
  | 1 => ("UnwindMill$Machine", "variables", "[I", true)
  | 2 => ("UnwindMill$Machine", "outs", "[I", true)
  | 3 => ("UnwindMill$Machine", "report", "[I", true)
  | 4 => ("UnwindMill$Machine", "ran", "Z", false)
  | 5 => ("UnwindMill$Machine", "pile", "[I", true)
  | 6 => ("UnwindMill$Machine", "height", "I", false)
  | 7 => ("UnwindMill$Machine", "calls", "[I", true)
  | 8 => ("UnwindMill$Machine", "places", "[I", true)
  | 9 => ("UnwindMill$Machine", "frames", "I", false)
  | _ => ("UnwindMill$Machine", "at", "I", false)
def t_Ma : Nat → FieldType := fun k => match k with
  | 0 => .object "UnwindMill$Code"
  | 1 => .array .int
  | 2 => .array .int
  | 3 => .array .int
  | 4 => .boolean
  | 5 => .array .int
  | 6 => .int
  | 7 => .array .int
  | 8 => .array .int
  | 9 => .int
  | _ => .int
def F_Sc : u_T := fun k => match k with
  | 0 => ("UnwindMill$Scopes", "outers", "[I", true)
  | 1 => ("UnwindMill$Scopes", "tries", "[I", true)
  | 2 => ("UnwindMill$Scopes", "finallies", "[I", true)
  | 3 => ("UnwindMill$Scopes", "loops", "[I", true)
  | 4 => ("UnwindMill$Scopes", "overs", "[I", true)
  | 5 => ("UnwindMill$Scopes", "keeps", "[I", true)
  | 6 => ("UnwindMill$Scopes", "ends", "[I", true)
  | 7 => ("UnwindMill$Scopes", "parts", "[I", true)
  | 8 => ("UnwindMill$Scopes", "looked", "I", false)
  | _ => ("UnwindMill$Scopes", "count", "I", false)
def t_Sc : Nat → FieldType := fun k => match k with
  | 0 => .array .int
  | 1 => .array .int
  | 2 => .array .int
  | 3 => .array .int
  | 4 => .array .int
  | 5 => .array .int
  | 6 => .array .int
  | 7 => .array .int
  | 8 => .int
  | _ => .int
def F_Wo : u_T := fun k => match k with
  | 0 => ("UnwindMill$Work", "nodes", "[I", true)
  | 1 => ("UnwindMill$Work", "contexts", "[I", true)
  | 2 => ("UnwindMill$Work", "steps", "[I", true)
  | 3 => ("UnwindMill$Work", "marks", "[I", true)
  | _ => ("UnwindMill$Work", "open", "I", false)
def t_Wo : Nat → FieldType := fun k => match k with
  | 0 => .array .int
  | 1 => .array .int
  | 2 => .array .int
  | 3 => .array .int
  | _ => .int
def F_Ha : u_T := fun k => match k with
  | 0 => ("UnwindMill$Handlers", "scopes", "[I", true)
  | 1 => ("UnwindMill$Handlers", "catches", "[I", true)
  | 2 => ("UnwindMill$Handlers", "targets", "[I", true)
  | _ => ("UnwindMill$Handlers", "count", "I", false)
def t_Ha : Nat → FieldType := fun k => match k with
  | 0 => .array .int
  | 1 => .array .int
  | 2 => .array .int
  | _ => .int
def F_Mo : u_T := fun k => match k with
  | 0 => ("UnwindMillModel", "thrown", "I", false)
  | 1 => ("UnwindMillModel", "nodes", "I", false)
  | 2 => ("UnwindMillModel", "kind", "[I", true)
  | 3 => ("UnwindMillModel", "partA", "[I", true)
  | 4 => ("UnwindMillModel", "partB", "[I", true)
  | 5 => ("UnwindMillModel", "partC", "[I", true)
  | 6 => ("UnwindMillModel", "partD", "[I", true)
  | 7 => ("UnwindMillModel", "partE", "[I", true)
  | 8 => ("UnwindMillModel", "bodies", "[I", true)
  | 9 => ("UnwindMillModel", "there", "Z", false)
  | 10 => ("UnwindMillModel", "count", "I", false)
  | 11 => ("UnwindMillModel", "number", "[I", true)
  | 12 => ("UnwindMillModel", "arg", "[I", true)
  | 13 => ("UnwindMillModel", "lies", "[I", true)
  | 14 => ("UnwindMillModel", "rows", "I", false)
  | 15 => ("UnwindMillModel", "rowFrom", "[I", true)
  | 16 => ("UnwindMillModel", "rowUntil", "[I", true)
  | 17 => ("UnwindMillModel", "rowTarget", "[I", true)
  | 18 => ("UnwindMillModel", "rowLeast", "[I", true)
  | 19 => ("UnwindMillModel", "rowMost", "[I", true)
  | 20 => ("UnwindMillModel", "laidNodes", "I", false)
  | 21 => ("UnwindMillModel", "deepest", "I", false)
  | 22 => ("UnwindMillModel", "entries", "[I", true)
  | 23 => ("UnwindMillModel", "begun", "I", false)
  | 24 => ("UnwindMillModel", "itsNode", "[I", true)
  | 25 => ("UnwindMillModel", "outer", "[I", true)
  | 26 => ("UnwindMillModel", "over", "[I", true)
  | 27 => ("UnwindMillModel", "deep", "[I", true)
  | 28 => ("UnwindMillModel", "end", "[I", true)
  | 29 => ("UnwindMillModel", "headAt", "[I", true)
  | 30 => ("UnwindMillModel", "heads", "I", false)
  | 31 => ("UnwindMillModel", "head", "[I", true)
  | 32 => ("UnwindMillModel", "done", "I", false)
  | 33 => ("UnwindMillModel", "queue", "[I", true)
  | 34 => ("UnwindMillModel", "erased", "Z", false)
  | 35 => ("UnwindMillModel", "large", "Z", false)
  | 36 => ("UnwindMillModel", "ill", "Z", false)
  | 37 => ("UnwindMillModel", "top", "I", false)
  | 38 => ("UnwindMillModel", "node", "[I", true)
  | 39 => ("UnwindMillModel", "in", "[I", true)
  | 40 => ("UnwindMillModel", "above", "[I", true)
  | 41 => ("UnwindMillModel", "fins", "[I", true)
  | 42 => ("UnwindMillModel", "state", "[I", true)
  | 43 => ("UnwindMillModel", "one", "[I", true)
  | 44 => ("UnwindMillModel", "two", "[I", true)
  | 45 => ("UnwindMillModel", "variables", "[I", true)
  | 46 => ("UnwindMillModel", "how", "I", false)
  | 47 => ("UnwindMillModel", "code", "I", false)
  | 48 => ("UnwindMillModel", "steps", "I", false)
  | 49 => ("UnwindMillModel", "outs", "I", false)
  | 50 => ("UnwindMillModel", "out", "[I", true)
  | 51 => ("UnwindMillModel", "throwsMade", "I", false)
  | 52 => ("UnwindMillModel", "mostFrames", "I", false)
  | 53 => ("UnwindMillModel", "frames", "I", false)
  | 54 => ("UnwindMillModel", "at", "[I", true)
  | 55 => ("UnwindMillModel", "size", "[I", true)
  | 56 => ("UnwindMillModel", "pile", "[I", true)
  | _ => ("UnwindMillModel", "places", "[I", true)
def t_Mo : Nat → FieldType := fun k => match k with
  | 0 => .int
  | 1 => .int
  | 2 => .array .int
  | 3 => .array .int
  | 4 => .array .int
  | 5 => .array .int
  | 6 => .array .int
  | 7 => .array .int
  | 8 => .array .int
  | 9 => .boolean
  | 10 => .int
  | 11 => .array .int
  | 12 => .array .int
  | 13 => .array .int
  | 14 => .int
  | 15 => .array .int
  | 16 => .array .int
  | 17 => .array .int
  | 18 => .array .int
  | 19 => .array .int
  | 20 => .int
  | 21 => .int
  | 22 => .array .int
  | 23 => .int
  | 24 => .array .int
  | 25 => .array .int
  | 26 => .array .int
  | 27 => .array .int
  | 28 => .array .int
  | 29 => .array .int
  | 30 => .int
  | 31 => .array .int
  | 32 => .int
  | 33 => .array .int
  | 34 => .boolean
  | 35 => .boolean
  | 36 => .boolean
  | 37 => .int
  | 38 => .array .int
  | 39 => .array .int
  | 40 => .array .int
  | 41 => .array .int
  | 42 => .array .int
  | 43 => .array .int
  | 44 => .array .int
  | 45 => .array .int
  | 46 => .int
  | 47 => .int
  | 48 => .int
  | 49 => .int
  | 50 => .array .int
  | 51 => .int
  | 52 => .int
  | 53 => .int
  | 54 => .array .int
  | 55 => .array .int
  | 56 => .array .int
  | _ => .array .int
abbrev um_cl : List vw_C := [(R_UM, F_UM, 4), (R_Tr, F_Tr, 4), (R_Co, F_Co, 9), (R_La, F_La, 9), (R_Ma, F_Ma, 11), (R_Sc, F_Sc, 10), (R_Wo, F_Wo, 5), (R_Ha, F_Ha, 4), (R_Mo, F_Mo, 58)]
def um_L : List um_E := [.inl (0, [some 1, some 2, some 3, some 4]), .inl (1, [some 8, some 9, some 10, none]), .inl (2, [some 11, some 12, some 13, some 14, some 15, none, none, none, none]), .inl (3, [some 1, some 2, some 5, some 6, some 7, some 16, none, none, none]), .inl (4, [some 2, some 17, some 18, some 19, none, some 20, none, some 21, some 22, none, none]), .inl (5, [some 23, some 24, some 25, some 26, some 27, some 28, some 29, some 30, none, none]), .inl (6, [some 31, some 32, some 33, some 34, none]), .inl (7, [some 35, some 36, some 37, none]), .inr 150, .inr 750, .inr 6, .inr 1000, .inr 1000, .inr 1000, .inr 6, .inr 1500, .inr 2000, .inr 8, .inr 64, .inr 6, .inr 150, .inr 12, .inr 1800, .inr 2001, .inr 2001, .inr 2001, .inr 2001, .inr 2001, .inr 2001, .inr 2001, .inr 2001, .inr 2001, .inr 2001, .inr 2001, .inr 2001, .inr 501, .inr 501, .inr 501, .inl (8, [none, none, some 39, some 40, some 41, some 42, some 43, some 44, some 45, none, none, some 46, some 47, some 48, none, some 49, some 50, some 51, some 52, some 53, none, none, some 54, none, some 55, some 56, some 57, some 58, some 59, some 60, none, some 61, none, some 62, none, none, none, none, some 63, some 64, some 65, some 66, some 67, some 68, some 69, some 70, none, none, none, none, some 71, none, none, none, some 72, some 73, some 74, some 75]), .inr 150, .inr 150, .inr 150, .inr 150, .inr 150, .inr 150, .inr 6, .inr 1000, .inr 1000, .inr 1000, .inr 300, .inr 300, .inr 300, .inr 300, .inr 300, .inr 6, .inr 2001, .inr 2001, .inr 2001, .inr 2001, .inr 2001, .inr 2001, .inr 2001, .inr 2001, .inr 2002, .inr 2002, .inr 2002, .inr 2002, .inr 2002, .inr 2002, .inr 2002, .inr 8, .inr 64, .inr 12, .inr 12, .inr 2400, .inr 2400]
abbrev y_Ar_fill_AII : MethodName := ⟨R_Ar, "fill", "([II)V"⟩
abbrev b_Ar_fill_AII : ByteArray := prog_20_method_103_code
abbrev M_Ar_fill_AII : um_M := (y_Ar_fill_AII, b_Ar_fill_AII, 4, none)
abbrev y_Tr_kindOf : MethodName := ⟨R_Tr, "kindOf", "(I)I"⟩
abbrev b_Tr_kindOf : ByteArray := prog_9_method_4_code
abbrev M_Tr_kindOf : um_M := (y_Tr_kindOf, b_Tr_kindOf, 2, some .int)
abbrev y_UM_isVariable : MethodName := ⟨R_UM, "isVariable", "(I)Z"⟩
abbrev b_UM_isVariable : ByteArray := prog_1_method_15_code
abbrev M_UM_isVariable : um_M := (y_UM_isVariable, b_UM_isVariable, 1, some .boolean)
abbrev y_UM_isFunction : MethodName := ⟨R_UM, "isFunction", "(I)Z"⟩
abbrev b_UM_isFunction : ByteArray := prog_1_method_14_code
abbrev M_UM_isFunction : um_M := (y_UM_isFunction, b_UM_isFunction, 1, some .boolean)
abbrev y_Tr_fits : MethodName := ⟨R_Tr, "fits", "(II)Z"⟩
abbrev b_Tr_fits : ByteArray := prog_9_method_7_code
abbrev M_Tr_fits : um_M := (y_Tr_fits, b_Tr_fits, 4, some .boolean)
abbrev y_Tr_add : MethodName := ⟨R_Tr, "add", "(IIIIII)I"⟩
abbrev b_Tr_add : ByteArray := prog_9_method_2_code
abbrev M_Tr_add : um_M := (y_Tr_add, b_Tr_add, 10, some .int)
abbrev y_UM_node : MethodName := ⟨R_UM, "node", "(IIIII)I"⟩
abbrev b_UM_node : ByteArray := prog_1_method_2_code
abbrev M_UM_node : um_M := (y_UM_node, b_UM_node, 6, some .int)
abbrev y_UM_catchBehind : MethodName := ⟨R_UM, "catchBehind", "(IIIII)I"⟩
abbrev b_UM_catchBehind : ByteArray := prog_1_method_3_code
abbrev M_UM_catchBehind : um_M := (y_UM_catchBehind, b_UM_catchBehind, 6, some .int)
abbrev y_Tr_setBody : MethodName := ⟨R_Tr, "setBody", "(II)Z"⟩
abbrev b_Tr_setBody : ByteArray := prog_9_method_3_code
abbrev M_Tr_setBody : um_M := (y_Tr_setBody, b_Tr_setBody, 3, some .boolean)
abbrev y_UM_body : MethodName := ⟨R_UM, "body", "(II)Z"⟩
abbrev b_UM_body : ByteArray := prog_1_method_4_code
abbrev M_UM_body : um_M := (y_UM_body, b_UM_body, 3, some .boolean)
abbrev y_La_settleGoals : MethodName := ⟨R_La, "settleGoals", "()V"⟩
abbrev b_La_settleGoals : ByteArray := prog_5_method_23_code
abbrev M_La_settleGoals : um_M := (y_La_settleGoals, b_La_settleGoals, 3, none)
abbrev y_Co_clear : MethodName := ⟨R_Co, "clear", "()V"⟩
abbrev b_Co_clear : ByteArray := prog_2_method_2_code
abbrev M_Co_clear : um_M := (y_Co_clear, b_Co_clear, 1, none)
abbrev y_Tr_part : MethodName := ⟨R_Tr, "part", "(II)I"⟩
abbrev b_Tr_part : ByteArray := prog_9_method_5_code
abbrev M_Tr_part : um_M := (y_Tr_part, b_Tr_part, 3, some .int)
abbrev y_La_addRow : MethodName := ⟨R_La, "addRow", "(III)V"⟩
abbrev b_La_addRow : ByteArray := prog_5_method_26_code
abbrev M_La_addRow : um_M := (y_La_addRow, b_La_addRow, 6, none)
abbrev y_Sc_scopeOf : MethodName := ⟨R_Sc, "scopeOf", "(I)I"⟩
abbrev b_Sc_scopeOf : ByteArray := prog_8_method_4_code
abbrev M_Sc_scopeOf : um_M := (y_Sc_scopeOf, b_Sc_scopeOf, 1, some .int)
abbrev y_Sc_partOf : MethodName := ⟨R_Sc, "partOf", "(I)I"⟩
abbrev b_Sc_partOf : ByteArray := prog_8_method_5_code
abbrev M_Sc_partOf : um_M := (y_Sc_partOf, b_Sc_partOf, 1, some .int)
abbrev y_Sc_partLookedAt : MethodName := ⟨R_Sc, "partLookedAt", "(I)I"⟩
abbrev b_Sc_partLookedAt : ByteArray := prog_8_method_11_code
abbrev M_Sc_partLookedAt : um_M := (y_Sc_partLookedAt, b_Sc_partLookedAt, 3, some .int)
abbrev y_La_takesFrom : MethodName := ⟨R_La, "takesFrom", "(II)Z"⟩
abbrev b_La_takesFrom : ByteArray := prog_5_method_25_code
abbrev M_La_takesFrom : um_M := (y_La_takesFrom, b_La_takesFrom, 4, some .boolean)
abbrev y_Sc_lookAt : MethodName := ⟨R_Sc, "lookAt", "(I)V"⟩
abbrev b_Sc_lookAt : ByteArray := prog_8_method_10_code
abbrev M_Sc_lookAt : um_M := (y_Sc_lookAt, b_Sc_lookAt, 3, none)
abbrev y_La_addRows : MethodName := ⟨R_La, "addRows", "(I)V"⟩
abbrev b_La_addRows : ByteArray := prog_5_method_24_code
abbrev M_La_addRows : um_M := (y_La_addRows, b_La_addRows, 5, none)
abbrev y_Sc_within : MethodName := ⟨R_Sc, "within", "(II)I"⟩
abbrev b_Sc_within : ByteArray := prog_8_method_3_code
abbrev M_Sc_within : um_M := (y_Sc_within, b_Sc_within, 2, some .int)
abbrev y_Wo_push : MethodName := ⟨R_Wo, "push", "(III)V"⟩
abbrev b_Wo_push : ByteArray := prog_10_method_2_code
abbrev M_Wo_push : um_M := (y_Wo_push, b_Wo_push, 4, none)
abbrev y_La_begin : MethodName := ⟨R_La, "begin", "(II)V"⟩
abbrev b_La_begin : ByteArray := prog_5_method_18_code
abbrev M_La_begin : um_M := (y_La_begin, b_La_begin, 3, none)
abbrev y_La_emit : MethodName := ⟨R_La, "emit", "(III)V"⟩
abbrev b_La_emit : ByteArray := prog_5_method_20_code
abbrev M_La_emit : um_M := (y_La_emit, b_La_emit, 4, none)
abbrev y_La_setGoal : MethodName := ⟨R_La, "setGoal", "(II)V"⟩
abbrev b_La_setGoal : ByteArray := prog_5_method_21_code
abbrev M_La_setGoal : um_M := (y_La_setGoal, b_La_setGoal, 3, none)
abbrev y_Wo_pop : MethodName := ⟨R_Wo, "pop", "()V"⟩
abbrev b_Wo_pop : ByteArray := prog_10_method_3_code
abbrev M_Wo_pop : um_M := (y_Wo_pop, b_Wo_pop, 1, none)
abbrev y_La_turnIf : MethodName := ⟨R_La, "turnIf", "(III)V"⟩
abbrev b_La_turnIf : ByteArray := prog_5_method_7_code
abbrev M_La_turnIf : um_M := (y_La_turnIf, b_La_turnIf, 6, none)
abbrev y_La_finish : MethodName := ⟨R_La, "finish", "(III)V"⟩
abbrev b_La_finish : ByteArray := prog_5_method_19_code
abbrev M_La_finish : um_M := (y_La_finish, b_La_finish, 4, none)
abbrev y_La_behind : MethodName := ⟨R_La, "behind", "(I)I"⟩
abbrev b_La_behind : ByteArray := prog_5_method_22_code
abbrev M_La_behind : um_M := (y_La_behind, b_La_behind, 1, some .int)
abbrev y_Sc_open : MethodName := ⟨R_Sc, "open", "(I)I"⟩
abbrev b_Sc_open : ByteArray := prog_8_method_8_code
abbrev M_Sc_open : um_M := (y_Sc_open, b_Sc_open, 4, some .int)
abbrev y_Sc_openLoop : MethodName := ⟨R_Sc, "openLoop", "(I)I"⟩
abbrev b_Sc_openLoop : ByteArray := prog_8_method_7_code
abbrev M_Sc_openLoop : um_M := (y_Sc_openLoop, b_Sc_openLoop, 3, some .int)
abbrev y_La_turnWhile : MethodName := ⟨R_La, "turnWhile", "(III)V"⟩
abbrev b_La_turnWhile : ByteArray := prog_5_method_8_code
abbrev M_La_turnWhile : um_M := (y_La_turnWhile, b_La_turnWhile, 6, none)
abbrev y_Sc_finallyAround : MethodName := ⟨R_Sc, "finallyAround", "(II)I"⟩
abbrev b_Sc_finallyAround : ByteArray := prog_8_method_9_code
abbrev M_Sc_finallyAround : um_M := (y_Sc_finallyAround, b_Sc_finallyAround, 5, some .int)
abbrev y_La_leave : MethodName := ⟨R_La, "leave", "(II)V"⟩
abbrev b_La_leave : ByteArray := prog_5_method_11_code
abbrev M_La_leave : um_M := (y_La_leave, b_La_leave, 3, none)
abbrev y_La_turnReturn : MethodName := ⟨R_La, "turnReturn", "(I)V"⟩
abbrev b_La_turnReturn : ByteArray := prog_5_method_9_code
abbrev M_La_turnReturn : um_M := (y_La_turnReturn, b_La_turnReturn, 3, none)
abbrev y_La_turnBreak : MethodName := ⟨R_La, "turnBreak", "(I)V"⟩
abbrev b_La_turnBreak : ByteArray := prog_5_method_10_code
abbrev M_La_turnBreak : um_M := (y_La_turnBreak, b_La_turnBreak, 5, none)
abbrev y_Ha_comesBefore : MethodName := ⟨R_Ha, "comesBefore", "(II[I)Z"⟩
abbrev b_Ha_comesBefore : ByteArray := prog_3_method_3_code
abbrev M_Ha_comesBefore : um_M := (y_Ha_comesBefore, b_Ha_comesBefore, 3, some .boolean)
abbrev y_Ha_add : MethodName := ⟨R_Ha, "add", "(III[I)V"⟩
abbrev b_Ha_add : ByteArray := prog_3_method_2_code
abbrev M_Ha_add : um_M := (y_Ha_add, b_Ha_add, 6, none)
abbrev y_Tr_catchAfter : MethodName := ⟨R_Tr, "catchAfter", "(II)I"⟩
abbrev b_Tr_catchAfter : ByteArray := prog_9_method_6_code
abbrev M_Tr_catchAfter : um_M := (y_Tr_catchAfter, b_Tr_catchAfter, 6, some .int)
abbrev y_La_beginCatch : MethodName := ⟨R_La, "beginCatch", "(II)V"⟩
abbrev b_La_beginCatch : ByteArray := prog_5_method_15_code
abbrev M_La_beginCatch : um_M := (y_La_beginCatch, b_La_beginCatch, 4, none)
abbrev y_La_beginFinally : MethodName := ⟨R_La, "beginFinally", "(I)V"⟩
abbrev b_La_beginFinally : ByteArray := prog_5_method_17_code
abbrev M_La_beginFinally : um_M := (y_La_beginFinally, b_La_beginFinally, 2, none)
abbrev y_La_beginAny : MethodName := ⟨R_La, "beginAny", "(I)V"⟩
abbrev b_La_beginAny : ByteArray := prog_5_method_16_code
abbrev M_La_beginAny : um_M := (y_La_beginAny, b_La_beginAny, 3, none)
abbrev y_La_turnApart : MethodName := ⟨R_La, "turnApart", "(II)V"⟩
abbrev b_La_turnApart : ByteArray := prog_5_method_14_code
abbrev M_La_turnApart : um_M := (y_La_turnApart, b_La_turnApart, 4, none)
abbrev y_La_setDone : MethodName := ⟨R_La, "setDone", "(I)V"⟩
abbrev b_La_setDone : ByteArray := prog_5_method_13_code
abbrev M_La_setDone : um_M := (y_La_setDone, b_La_setDone, 2, none)
abbrev y_Sc_openTry : MethodName := ⟨R_Sc, "openTry", "(III)I"⟩
abbrev b_Sc_openTry : ByteArray := prog_8_method_6_code
abbrev M_Sc_openTry : um_M := (y_Sc_openTry, b_Sc_openTry, 5, some .int)
abbrev y_La_turnTry : MethodName := ⟨R_La, "turnTry", "(III)V"⟩
abbrev b_La_turnTry : ByteArray := prog_5_method_12_code
abbrev M_La_turnTry : um_M := (y_La_turnTry, b_La_turnTry, 5, none)
abbrev y_La_partsThen : MethodName := ⟨R_La, "partsThen", "(IIIIII)V"⟩
abbrev b_La_partsThen : ByteArray := prog_5_method_6_code
abbrev M_La_partsThen : um_M := (y_La_partsThen, b_La_partsThen, 7, none)
abbrev y_La_turnPlain : MethodName := ⟨R_La, "turnPlain", "(III)V"⟩
abbrev b_La_turnPlain : ByteArray := prog_5_method_5_code
abbrev M_La_turnPlain : um_M := (y_La_turnPlain, b_La_turnPlain, 6, none)
abbrev y_La_takeTurns : MethodName := ⟨R_La, "takeTurns", "()V"⟩
abbrev b_La_takeTurns : ByteArray := prog_5_method_4_code
abbrev M_La_takeTurns : um_M := (y_La_takeTurns, b_La_takeTurns, 5, none)
abbrev y_La_layFunction : MethodName := ⟨R_La, "layFunction", "(I)V"⟩
abbrev b_La_layFunction : ByteArray := prog_5_method_3_code
abbrev M_La_layFunction : um_M := (y_La_layFunction, b_La_layFunction, 5, none)
abbrev y_Sc_clear : MethodName := ⟨R_Sc, "clear", "()V"⟩
abbrev b_Sc_clear : ByteArray := prog_8_method_2_code
abbrev M_Sc_clear : um_M := (y_Sc_clear, b_Sc_clear, 1, none)
abbrev y_La_layDown : MethodName := ⟨R_La, "layDown", "(Z)I"⟩
abbrev b_La_layDown : ByteArray := prog_5_method_2_code
abbrev M_La_layDown : um_M := (y_La_layDown, b_La_layDown, 3, some .int)
abbrev y_UM_lay : MethodName := ⟨R_UM, "lay", "(Z)I"⟩
abbrev b_UM_lay : ByteArray := prog_1_method_5_code
abbrev M_UM_lay : um_M := (y_UM_lay, b_UM_lay, 2, some .int)
abbrev y_Co_stands : MethodName := ⟨R_Co, "stands", "()Z"⟩
abbrev b_Co_stands : ByteArray := prog_2_method_3_code
abbrev M_Co_stands : um_M := (y_Co_stands, b_Co_stands, 1, some .boolean)
abbrev y_UM_laid : MethodName := ⟨R_UM, "laid", "(I)I"⟩
abbrev b_UM_laid : ByteArray := prog_1_method_6_code
abbrev M_UM_laid : um_M := (y_UM_laid, b_UM_laid, 2, some .int)
abbrev y_UM_entry : MethodName := ⟨R_UM, "entry", "(I)I"⟩
abbrev b_UM_entry : ByteArray := prog_1_method_8_code
abbrev M_UM_entry : um_M := (y_UM_entry, b_UM_entry, 2, some .int)
abbrev y_Ma_pull : MethodName := ⟨R_Ma, "pull", "()I"⟩
abbrev b_Ma_pull : ByteArray := prog_6_method_12_code
abbrev M_Ma_pull : um_M := (y_Ma_pull, b_Ma_pull, 1, some .int)
abbrev y_Co_rowFor : MethodName := ⟨R_Co, "rowFor", "(II)I"⟩
abbrev b_Co_rowFor : ByteArray := prog_2_method_4_code
abbrev M_Co_rowFor : um_M := (y_Co_rowFor, b_Co_rowFor, 6, some .int)
abbrev y_Ma_push : MethodName := ⟨R_Ma, "push", "(I)V"⟩
abbrev b_Ma_push : ByteArray := prog_6_method_11_code
abbrev M_Ma_push : um_M := (y_Ma_push, b_Ma_push, 2, none)
abbrev y_Ma_raise : MethodName := ⟨R_Ma, "raise", "(I)V"⟩
abbrev b_Ma_raise : ByteArray := prog_6_method_8_code
abbrev M_Ma_raise : um_M := (y_Ma_raise, b_Ma_raise, 3, none)
abbrev y_Ma_enter : MethodName := ⟨R_Ma, "enter", "(I)V"⟩
abbrev b_Ma_enter : ByteArray := prog_6_method_6_code
abbrev M_Ma_enter : um_M := (y_Ma_enter, b_Ma_enter, 2, none)
abbrev y_Ma_goBack : MethodName := ⟨R_Ma, "goBack", "()V"⟩
abbrev b_Ma_goBack : ByteArray := prog_6_method_7_code
abbrev M_Ma_goBack : um_M := (y_Ma_goBack, b_Ma_goBack, 1, none)
abbrev y_Ma_placeOf : MethodName := ⟨R_Ma, "placeOf", "(I)I"⟩
abbrev b_Ma_placeOf : ByteArray := prog_6_method_10_code
abbrev M_Ma_placeOf : um_M := (y_Ma_placeOf, b_Ma_placeOf, 2, some .int)
abbrev y_Ma_combine : MethodName := ⟨R_Ma, "combine", "(III)I"⟩
abbrev b_Ma_combine : ByteArray := prog_6_method_5_code
abbrev M_Ma_combine : um_M := (y_Ma_combine, b_Ma_combine, 3, some .int)
abbrev y_Ma_putOut : MethodName := ⟨R_Ma, "putOut", "(I)V"⟩
abbrev b_Ma_putOut : ByteArray := prog_6_method_9_code
abbrev M_Ma_putOut : um_M := (y_Ma_putOut, b_Ma_putOut, 2, none)
abbrev y_Ma_doStraight : MethodName := ⟨R_Ma, "doStraight", "(II)V"⟩
abbrev b_Ma_doStraight : ByteArray := prog_6_method_4_code
abbrev M_Ma_doStraight : um_M := (y_Ma_doStraight, b_Ma_doStraight, 5, none)
abbrev y_Ma_doStep : MethodName := ⟨R_Ma, "doStep", "()V"⟩
abbrev b_Ma_doStep : ByteArray := prog_6_method_3_code
abbrev M_Ma_doStep : um_M := (y_Ma_doStep, b_Ma_doStep, 4, none)
abbrev y_Ma_start : MethodName := ⟨R_Ma, "start", "(I)I"⟩
abbrev b_Ma_start : ByteArray := prog_6_method_2_code
abbrev M_Ma_start : um_M := (y_Ma_start, b_Ma_start, 3, some .int)
abbrev y_UM_run : MethodName := ⟨R_UM, "run", "(I)I"⟩
abbrev b_UM_run : ByteArray := prog_1_method_10_code
abbrev M_UM_run : um_M := (y_UM_run, b_UM_run, 2, some .int)
abbrev y_UM_latest : MethodName := ⟨R_UM, "latest", "(I)I"⟩
abbrev b_UM_latest : ByteArray := prog_1_method_11_code
abbrev M_UM_latest : um_M := (y_UM_latest, b_UM_latest, 2, some .int)
abbrev y_UM_out : MethodName := ⟨R_UM, "out", "(I)I"⟩
abbrev b_UM_out : ByteArray := prog_1_method_12_code
abbrev M_UM_out : um_M := (y_UM_out, b_UM_out, 2, some .int)
abbrev y_UM_variable : MethodName := ⟨R_UM, "variable", "(I)I"⟩
abbrev b_UM_variable : ByteArray := prog_1_method_13_code
abbrev M_UM_variable : um_M := (y_UM_variable, b_UM_variable, 2, some .int)
abbrev y_Mo_isThere : MethodName := ⟨R_Mo, "isThere", "(III)Z"⟩
abbrev b_Mo_isThere : ByteArray := prog_12_method_3_code
abbrev M_Mo_isThere : um_M := (y_Mo_isThere, b_Mo_isThere, 4, some .boolean)
abbrev y_Mo_isStatement : MethodName := ⟨R_Mo, "isStatement", "(I)Z"⟩
abbrev b_Mo_isStatement : ByteArray := prog_12_method_5_code
abbrev M_Mo_isStatement : um_M := (y_Mo_isStatement, b_Mo_isStatement, 2, some .boolean)
abbrev y_Mo_isVariable : MethodName := ⟨R_Mo, "isVariable", "(I)Z"⟩
abbrev b_Mo_isVariable : ByteArray := prog_12_method_7_code
abbrev M_Mo_isVariable : um_M := (y_Mo_isVariable, b_Mo_isVariable, 1, some .boolean)
abbrev y_Mo_isExpression : MethodName := ⟨R_Mo, "isExpression", "(I)Z"⟩
abbrev b_Mo_isExpression : ByteArray := prog_12_method_4_code
abbrev M_Mo_isExpression : um_M := (y_Mo_isExpression, b_Mo_isExpression, 2, some .boolean)
abbrev y_Mo_isCatch : MethodName := ⟨R_Mo, "isCatch", "(I)Z"⟩
abbrev b_Mo_isCatch : ByteArray := prog_12_method_6_code
abbrev M_Mo_isCatch : um_M := (y_Mo_isCatch, b_Mo_isCatch, 2, some .boolean)
abbrev y_Mo_can : MethodName := ⟨R_Mo, "can", "(IIIII)Z"⟩
abbrev b_Mo_can : ByteArray := prog_12_method_8_code
abbrev M_Mo_can : um_M := (y_Mo_can, b_Mo_can, 6, some .boolean)
abbrev y_Mo_adds : MethodName := ⟨R_Mo, "adds", "(IIIII)I"⟩
abbrev b_Mo_adds : ByteArray := prog_12_method_9_code
abbrev M_Mo_adds : um_M := (y_Mo_adds, b_Mo_adds, 6, some .int)
abbrev y_Mo_node : MethodName := ⟨R_Mo, "node", "(IIIII)I"⟩
abbrev b_Mo_node : ByteArray := prog_12_method_10_code
abbrev M_Mo_node : um_M := (y_Mo_node, b_Mo_node, 6, some .int)
abbrev y_Mo_catchBehind : MethodName := ⟨R_Mo, "catchBehind", "(IIIII)I"⟩
abbrev b_Mo_catchBehind : ByteArray := prog_12_method_11_code
abbrev M_Mo_catchBehind : um_M := (y_Mo_catchBehind, b_Mo_catchBehind, 6, some .int)
abbrev y_Mo_body : MethodName := ⟨R_Mo, "body", "(II)Z"⟩
abbrev b_Mo_body : ByteArray := prog_12_method_12_code
abbrev M_Mo_body : um_M := (y_Mo_body, b_Mo_body, 3, some .boolean)
abbrev y_Mo_hasFinally : MethodName := ⟨R_Mo, "hasFinally", "(I)Z"⟩
abbrev b_Mo_hasFinally : ByteArray := prog_12_method_13_code
abbrev M_Mo_hasFinally : um_M := (y_Mo_hasFinally, b_Mo_hasFinally, 2, some .boolean)
abbrev y_Mo_row_IIIII : MethodName := ⟨R_Mo, "row", "(IIIII)V"⟩
abbrev b_Mo_row_IIIII : ByteArray := prog_12_method_33_code
abbrev M_Mo_row_IIIII : um_M := (y_Mo_row_IIIII, b_Mo_row_IIIII, 6, none)
abbrev y_Mo_isAround : MethodName := ⟨R_Mo, "isAround", "(II)I"⟩
abbrev b_Mo_isAround : ByteArray := prog_12_method_32_code
abbrev M_Mo_isAround : um_M := (y_Mo_isAround, b_Mo_isAround, 4, some .int)
abbrev y_Mo_stretches : MethodName := ⟨R_Mo, "stretches", "(IZIII)V"⟩
abbrev b_Mo_stretches : ByteArray := prog_12_method_34_code
abbrev M_Mo_stretches : um_M := (y_Mo_stretches, b_Mo_stretches, 10, none)
abbrev y_Mo_catches : MethodName := ⟨R_Mo, "catches", "(I)I"⟩
abbrev b_Mo_catches : ByteArray := prog_12_method_14_code
abbrev M_Mo_catches : um_M := (y_Mo_catches, b_Mo_catches, 4, some .int)
abbrev y_Mo_catchAt : MethodName := ⟨R_Mo, "catchAt", "(II)I"⟩
abbrev b_Mo_catchAt : ByteArray := prog_12_method_15_code
abbrev M_Mo_catchAt : um_M := (y_Mo_catchAt, b_Mo_catchAt, 5, some .int)
abbrev y_Mo_table : MethodName := ⟨R_Mo, "table", "(I)V"⟩
abbrev b_Mo_table : ByteArray := prog_12_method_35_code
abbrev M_Mo_table : um_M := (y_Mo_table, b_Mo_table, 5, none)
abbrev y_Mo_separates : MethodName := ⟨R_Mo, "separates", "(I)V"⟩
abbrev b_Mo_separates : ByteArray := prog_12_method_31_code
abbrev M_Mo_separates : um_M := (y_Mo_separates, b_Mo_separates, 2, none)
abbrev y_Mo_put : MethodName := ⟨R_Mo, "put", "(III)V"⟩
abbrev b_Mo_put : ByteArray := prog_12_method_16_code
abbrev M_Mo_put : um_M := (y_Mo_put, b_Mo_put, 4, none)
abbrev y_Mo_begin : MethodName := ⟨R_Mo, "begin", "(IIII)V"⟩
abbrev b_Mo_begin : ByteArray := prog_12_method_17_code
abbrev M_Mo_begin : um_M := (y_Mo_begin, b_Mo_begin, 5, none)
abbrev y_Mo_last : MethodName := ⟨R_Mo, "last", "(I)V"⟩
abbrev b_Mo_last : ByteArray := prog_12_method_19_code
abbrev M_Mo_last : um_M := (y_Mo_last, b_Mo_last, 2, none)
abbrev y_Mo_loop : MethodName := ⟨R_Mo, "loop", "(I)I"⟩
abbrev b_Mo_loop : ByteArray := prog_12_method_27_code
abbrev M_Mo_loop : um_M := (y_Mo_loop, b_Mo_loop, 3, some .int)
abbrev y_Mo_leaves : MethodName := ⟨R_Mo, "leaves", "(II)V"⟩
abbrev b_Mo_leaves : ByteArray := prog_12_method_28_code
abbrev M_Mo_leaves : um_M := (y_Mo_leaves, b_Mo_leaves, 6, none)
abbrev y_Mo_part : MethodName := ⟨R_Mo, "part", "(II)V"⟩
abbrev b_Mo_part : ByteArray := prog_12_method_18_code
abbrev M_Mo_part : um_M := (y_Mo_part, b_Mo_part, 3, none)
abbrev y_Mo_decides : MethodName := ⟨R_Mo, "decides", "(II)V"⟩
abbrev b_Mo_decides : ByteArray := prog_12_method_25_code
abbrev M_Mo_decides : um_M := (y_Mo_decides, b_Mo_decides, 3, none)
abbrev y_Mo_item : MethodName := ⟨R_Mo, "item", "(I)V"⟩
abbrev b_Mo_item : ByteArray := prog_12_method_20_code
abbrev M_Mo_item : um_M := (y_Mo_item, b_Mo_item, 2, none)
abbrev y_Mo_ends : MethodName := ⟨R_Mo, "ends", "(I)V"⟩
abbrev b_Mo_ends : ByteArray := prog_12_method_21_code
abbrev M_Mo_ends : um_M := (y_Mo_ends, b_Mo_ends, 3, none)
abbrev y_Mo_repeats : MethodName := ⟨R_Mo, "repeats", "(II)V"⟩
abbrev b_Mo_repeats : ByteArray := prog_12_method_26_code
abbrev M_Mo_repeats : um_M := (y_Mo_repeats, b_Mo_repeats, 3, none)
abbrev y_Mo_statement : MethodName := ⟨R_Mo, "statement", "(II)V"⟩
abbrev b_Mo_statement : ByteArray := prog_12_method_24_code
abbrev M_Mo_statement : um_M := (y_Mo_statement, b_Mo_statement, 4, none)
abbrev y_Mo_tries : MethodName := ⟨R_Mo, "tries", "(I)V"⟩
abbrev b_Mo_tries : ByteArray := prog_12_method_29_code
abbrev M_Mo_tries : um_M := (y_Mo_tries, b_Mo_tries, 3, none)
abbrev y_Mo_apart : MethodName := ⟨R_Mo, "apart", "(I)V"⟩
abbrev b_Mo_apart : ByteArray := prog_12_method_30_code
abbrev M_Mo_apart : um_M := (y_Mo_apart, b_Mo_apart, 5, none)
abbrev y_Mo_expression : MethodName := ⟨R_Mo, "expression", "(II)V"⟩
abbrev b_Mo_expression : ByteArray := prog_12_method_23_code
abbrev M_Mo_expression : um_M := (y_Mo_expression, b_Mo_expression, 4, none)
abbrev y_Mo_goesOn : MethodName := ⟨R_Mo, "goesOn", "()V"⟩
abbrev b_Mo_goesOn : ByteArray := prog_12_method_22_code
abbrev M_Mo_goesOn : um_M := (y_Mo_goesOn, b_Mo_goesOn, 3, none)
abbrev y_Mo_laysAll : MethodName := ⟨R_Mo, "laysAll", "()V"⟩
abbrev b_Mo_laysAll : ByteArray := prog_12_method_36_code
abbrev M_Mo_laysAll : um_M := (y_Mo_laysAll, b_Mo_laysAll, 4, none)
abbrev y_Mo_lay : MethodName := ⟨R_Mo, "lay", "(Z)I"⟩
abbrev b_Mo_lay : ByteArray := prog_12_method_37_code
abbrev M_Mo_lay : um_M := (y_Mo_lay, b_Mo_lay, 4, some .int)
abbrev y_Mo_laid : MethodName := ⟨R_Mo, "laid", "(I)I"⟩
abbrev b_Mo_laid : ByteArray := prog_12_method_38_code
abbrev M_Mo_laid : um_M := (y_Mo_laid, b_Mo_laid, 2, some .int)
abbrev y_Mo_instruction : MethodName := ⟨R_Mo, "instruction", "(II)I"⟩
abbrev b_Mo_instruction : ByteArray := prog_12_method_39_code
abbrev M_Mo_instruction : um_M := (y_Mo_instruction, b_Mo_instruction, 3, some .int)
abbrev y_Mo_entry : MethodName := ⟨R_Mo, "entry", "(I)I"⟩
abbrev b_Mo_entry : ByteArray := prog_12_method_40_code
abbrev M_Mo_entry : um_M := (y_Mo_entry, b_Mo_entry, 2, some .int)
abbrev y_Mo_row_II : MethodName := ⟨R_Mo, "row", "(II)I"⟩
abbrev b_Mo_row_II : ByteArray := prog_12_method_41_code
abbrev M_Mo_row_II : um_M := (y_Mo_row_II, b_Mo_row_II, 3, some .int)
abbrev y_Mo_push : MethodName := ⟨R_Mo, "push", "(I)V"⟩
abbrev b_Mo_push : ByteArray := prog_12_method_42_code
abbrev M_Mo_push : um_M := (y_Mo_push, b_Mo_push, 2, none)
abbrev y_Mo_pop : MethodName := ⟨R_Mo, "pop", "()I"⟩
abbrev b_Mo_pop : ByteArray := prog_12_method_43_code
abbrev M_Mo_pop : um_M := (y_Mo_pop, b_Mo_pop, 1, some .int)
abbrev y_Mo_throwing : MethodName := ⟨R_Mo, "throwing", "(I)V"⟩
abbrev b_Mo_throwing : ByteArray := prog_12_method_44_code
abbrev M_Mo_throwing : um_M := (y_Mo_throwing, b_Mo_throwing, 4, none)
abbrev y_Mo_calls : MethodName := ⟨R_Mo, "calls", "(I)V"⟩
abbrev b_Mo_calls : ByteArray := prog_12_method_47_code
abbrev M_Mo_calls : um_M := (y_Mo_calls, b_Mo_calls, 2, none)
abbrev y_Mo_returns : MethodName := ⟨R_Mo, "returns", "()V"⟩
abbrev b_Mo_returns : ByteArray := prog_12_method_48_code
abbrev M_Mo_returns : um_M := (y_Mo_returns, b_Mo_returns, 1, none)
abbrev y_Mo_worked : MethodName := ⟨R_Mo, "worked", "(III)I"⟩
abbrev b_Mo_worked : ByteArray := prog_12_method_45_code
abbrev M_Mo_worked : um_M := (y_Mo_worked, b_Mo_worked, 3, some .int)
abbrev y_Mo_works : MethodName := ⟨R_Mo, "works", "(I)V"⟩
abbrev b_Mo_works : ByteArray := prog_12_method_46_code
abbrev M_Mo_works : um_M := (y_Mo_works, b_Mo_works, 4, none)
abbrev y_Mo_step : MethodName := ⟨R_Mo, "step", "()V"⟩
abbrev b_Mo_step : ByteArray := prog_12_method_49_code
abbrev M_Mo_step : um_M := (y_Mo_step, b_Mo_step, 4, none)
abbrev y_Mo_run : MethodName := ⟨R_Mo, "run", "(I)I"⟩
abbrev b_Mo_run : ByteArray := prog_12_method_50_code
abbrev M_Mo_run : um_M := (y_Mo_run, b_Mo_run, 3, some .int)
abbrev y_Mo_latest : MethodName := ⟨R_Mo, "latest", "(I)I"⟩
abbrev b_Mo_latest : ByteArray := prog_12_method_51_code
abbrev M_Mo_latest : um_M := (y_Mo_latest, b_Mo_latest, 2, some .int)
abbrev y_Mo_out : MethodName := ⟨R_Mo, "out", "(I)I"⟩
abbrev b_Mo_out : ByteArray := prog_12_method_52_code
abbrev M_Mo_out : um_M := (y_Mo_out, b_Mo_out, 2, some .int)
abbrev y_Mo_variable : MethodName := ⟨R_Mo, "variable", "(I)I"⟩
abbrev b_Mo_variable : ByteArray := prog_12_method_53_code
abbrev M_Mo_variable : um_M := (y_Mo_variable, b_Mo_variable, 2, some .int)
abbrev y_Mo_thrown : MethodName := ⟨R_Mo, "thrown", "()I"⟩
abbrev b_Mo_thrown : ByteArray := prog_12_method_2_code
abbrev M_Mo_thrown : um_M := (y_Mo_thrown, b_Mo_thrown, 1, some .int)
/-! the words: those of the tables that stay -/
def um_AW : List Cond := lw_tbl.filter goodWord
theorem um_gd : um_good um_AW := fun w hw => good_of_word (List.mem_filter.mp hw).2
theorem um_in (i : Nat) {w : Cond} (h : lw_tbl[i]? = some w) (hg : goodWord w = true) : w ∈ um_AW := List.mem_filter.mpr ⟨List.mem_of_getElem? h, hg⟩
theorem um_all {l : List Cond} (ps : List Nat) (h : l = ps.filterMap (fun i => lw_tbl[i]?)) (hg : l.all goodWord = true) : ∀ w ∈ l, w ∈ um_AW := by
  intro w hw
  have h1 := List.all_eq_true.mp hg w hw
  rw [h] at hw
  obtain ⟨i, -, hi⟩ := List.mem_filterMap.mp hw
  exact um_in i hi h1
def um_SORTS : Nat → Int32 := fun j => ([0, 0, 0, 0, 0, 1, 0, 0, 0, 0, 3, 3, 0, 0, 0, 3, 3, 0, 0, 0, 3, 3, 0, 0, 0, 3, 3, 0, 0, 0, 3, 3, 0, 0, 0, 3, 3, 0, 0, 0, 0, 0, 0, 0, 0, 1, 3, 0, 0, 0, 3, 0, 0, 0, 0, 4, 4, 0, 0, 0, 3, 4, 4, 0, 0, 3, 4, 0, 0, 0, 3, 0, 0, 0, 0, 2, 0, 0, 0, 0, 0, 0, 0, 0, 0, 0, 0, 0, 0, 0, 4, 7, 6, 0, 0, 0, 0, 1, 4, 0, 0, 0, 1, 4, 5] : List Int32).getD j 0
def um_SX : List um_X := [("UnwindMill$Tree", "SORTS", 105, um_SORTS)]
set_option maxRecDepth 100000 in
theorem cl_UM : um_Cl um_cl um_AW 0 R_UM F_UM 4 := ⟨rfl, um_all [352, 354, 356, 358] (by decide +kernel) (by decide +kernel), ⟨t_UM, by decide +kernel⟩, by decide +kernel⟩
set_option maxRecDepth 100000 in
theorem cl_Tr : um_Cl um_cl um_AW 1 R_Tr F_Tr 4 := ⟨rfl, um_all [111, 113, 115, 117] (by decide +kernel) (by decide +kernel), ⟨t_Tr, by decide +kernel⟩, by decide +kernel⟩
set_option maxRecDepth 100000 in
theorem cl_Co : um_Cl um_cl um_AW 2 R_Co F_Co 9 := ⟨rfl, um_all [157, 159, 161, 163, 165, 167, 169, 171, 173] (by decide +kernel) (by decide +kernel), ⟨t_Co, by decide +kernel⟩, by decide +kernel⟩
set_option maxRecDepth 100000 in
theorem cl_La : um_Cl um_cl um_AW 3 R_La F_La 9 := ⟨rfl, um_all [285, 287, 289, 291, 293, 295, 297, 299, 301] (by decide +kernel) (by decide +kernel), ⟨t_La, by decide +kernel⟩, by decide +kernel⟩
set_option maxRecDepth 100000 in
theorem cl_Ma : um_Cl um_cl um_AW 4 R_Ma F_Ma 11 := ⟨rfl, um_all [325, 327, 329, 331, 333, 335, 337, 339, 341, 343, 345] (by decide +kernel) (by decide +kernel), ⟨t_Ma, by decide +kernel⟩, by decide +kernel⟩
set_option maxRecDepth 100000 in
theorem cl_Sc : um_Cl um_cl um_AW 5 R_Sc F_Sc 10 := ⟨rfl, um_all [205, 207, 209, 211, 213, 215, 217, 219, 221, 223] (by decide +kernel) (by decide +kernel), ⟨t_Sc, by decide +kernel⟩, by decide +kernel⟩
set_option maxRecDepth 100000 in
theorem cl_Wo : um_Cl um_cl um_AW 6 R_Wo F_Wo 5 := ⟨rfl, um_all [242, 244, 246, 248, 250] (by decide +kernel) (by decide +kernel), ⟨t_Wo, by decide +kernel⟩, by decide +kernel⟩
set_option maxRecDepth 100000 in
theorem cl_Ha : um_Cl um_cl um_AW 7 R_Ha F_Ha 4 := ⟨rfl, um_all [267, 269, 271, 273] (by decide +kernel) (by decide +kernel), ⟨t_Ha, by decide +kernel⟩, by decide +kernel⟩
set_option maxRecDepth 100000 in
theorem cl_Mo : um_Cl um_cl um_AW 8 R_Mo F_Mo 58 := ⟨rfl, um_all [818, 820, 822, 824, 826, 828, 830, 832, 834, 836, 838, 840, 842, 844, 846, 848, 850, 852, 854, 856, 858, 860, 862, 864, 866, 868, 870, 872, 874, 876, 878, 880, 882, 884, 886, 888, 890, 892, 894, 896, 898, 900, 902, 904, 906, 908, 910, 912, 914, 916, 918, 920, 922, 924, 926, 928, 930, 932] (by decide +kernel) (by decide +kernel), ⟨t_Mo, by decide +kernel⟩, by decide +kernel⟩
set_option maxRecDepth 100000 in
theorem wc_Ar_fill_AII : Cond.code M_Ar_fill_AII.1 M_Ar_fill_AII.2.1 M_Ar_fill_AII.2.2.1 M_Ar_fill_AII.2.2.2 ∈ um_AW := um_in 105 (by rfl) rfl
set_option maxRecDepth 100000 in
theorem wi_Ar : Cond.initialized R_Ar ∈ um_AW := um_in 75 (by decide +kernel) rfl
set_option maxRecDepth 100000 in
theorem wc_Tr_kindOf : Cond.code M_Tr_kindOf.1 M_Tr_kindOf.2.1 M_Tr_kindOf.2.2.1 M_Tr_kindOf.2.2.2 ∈ um_AW := um_in 378 (by rfl) rfl
set_option maxRecDepth 100000 in
theorem wi_Tr : Cond.initialized R_Tr ∈ um_AW := um_in 74 (by decide +kernel) rfl
set_option maxRecDepth 100000 in
theorem wc_UM_isVariable : Cond.code M_UM_isVariable.1 M_UM_isVariable.2.1 M_UM_isVariable.2.2.1 M_UM_isVariable.2.2.2 ∈ um_AW := um_in 381 (by rfl) rfl
set_option maxRecDepth 100000 in
theorem wi_UM : Cond.initialized R_UM ∈ um_AW := um_in 73 (by decide +kernel) rfl
set_option maxRecDepth 100000 in
theorem wc_UM_isFunction : Cond.code M_UM_isFunction.1 M_UM_isFunction.2.1 M_UM_isFunction.2.2.1 M_UM_isFunction.2.2.2 ∈ um_AW := um_in 384 (by rfl) rfl
set_option maxRecDepth 100000 in
theorem wc_Tr_fits : Cond.code M_Tr_fits.1 M_Tr_fits.2.1 M_Tr_fits.2.2.1 M_Tr_fits.2.2.2 ∈ um_AW := um_in 374 (by rfl) rfl
set_option maxRecDepth 100000 in
theorem wc_Tr_add : Cond.code M_Tr_add.1 M_Tr_add.2.1 M_Tr_add.2.2.1 M_Tr_add.2.2.2 ∈ um_AW := um_in 368 (by rfl) rfl
set_option maxRecDepth 100000 in
theorem wc_UM_node : Cond.code M_UM_node.1 M_UM_node.2.1 M_UM_node.2.2.1 M_UM_node.2.2.2 ∈ um_AW := um_in 364 (by rfl) rfl
set_option maxRecDepth 100000 in
theorem wc_UM_catchBehind : Cond.code M_UM_catchBehind.1 M_UM_catchBehind.2.1 M_UM_catchBehind.2.2.1 M_UM_catchBehind.2.2.2 ∈ um_AW := um_in 388 (by rfl) rfl
set_option maxRecDepth 100000 in
theorem wc_Tr_setBody : Cond.code M_Tr_setBody.1 M_Tr_setBody.2.1 M_Tr_setBody.2.2.1 M_Tr_setBody.2.2.2 ∈ um_AW := um_in 396 (by rfl) rfl
set_option maxRecDepth 100000 in
theorem wc_UM_body : Cond.code M_UM_body.1 M_UM_body.2.1 M_UM_body.2.2.1 M_UM_body.2.2.2 ∈ um_AW := um_in 392 (by rfl) rfl
set_option maxRecDepth 100000 in
theorem wc_La_settleGoals : Cond.code M_La_settleGoals.1 M_La_settleGoals.2.1 M_La_settleGoals.2.2.1 M_La_settleGoals.2.2.2 ∈ um_AW := um_in 573 (by rfl) rfl
set_option maxRecDepth 100000 in
theorem wi_La : Cond.initialized R_La ∈ um_AW := um_in 77 (by decide +kernel) rfl
set_option maxRecDepth 100000 in
theorem wc_Co_clear : Cond.code M_Co_clear.1 M_Co_clear.2.1 M_Co_clear.2.2.1 M_Co_clear.2.2.2 ∈ um_AW := um_in 408 (by rfl) rfl
set_option maxRecDepth 100000 in
theorem wi_Co : Cond.initialized R_Co ∈ um_AW := um_in 76 (by decide +kernel) rfl
set_option maxRecDepth 100000 in
theorem wc_Tr_part : Cond.code M_Tr_part.1 M_Tr_part.2.1 M_Tr_part.2.2.1 M_Tr_part.2.2.2 ∈ um_AW := um_in 438 (by rfl) rfl
set_option maxRecDepth 100000 in
theorem wc_La_addRow : Cond.code M_La_addRow.1 M_La_addRow.2.1 M_La_addRow.2.2.1 M_La_addRow.2.2.2 ∈ um_AW := um_in 567 (by rfl) rfl
set_option maxRecDepth 100000 in
theorem wc_Sc_scopeOf : Cond.code M_Sc_scopeOf.1 M_Sc_scopeOf.2.1 M_Sc_scopeOf.2.2.1 M_Sc_scopeOf.2.2.2 ∈ um_AW := um_in 465 (by rfl) rfl
set_option maxRecDepth 100000 in
theorem wi_Sc : Cond.initialized R_Sc ∈ um_AW := um_in 78 (by decide +kernel) rfl
set_option maxRecDepth 100000 in
theorem wc_Sc_partOf : Cond.code M_Sc_partOf.1 M_Sc_partOf.2.1 M_Sc_partOf.2.2.1 M_Sc_partOf.2.2.2 ∈ um_AW := um_in 487 (by rfl) rfl
set_option maxRecDepth 100000 in
theorem wc_Sc_partLookedAt : Cond.code M_Sc_partLookedAt.1 M_Sc_partLookedAt.2.1 M_Sc_partLookedAt.2.2.1 M_Sc_partLookedAt.2.2.2 ∈ um_AW := um_in 558 (by rfl) rfl
set_option maxRecDepth 100000 in
theorem wc_La_takesFrom : Cond.code M_La_takesFrom.1 M_La_takesFrom.2.1 M_La_takesFrom.2.2.1 M_La_takesFrom.2.2.2 ∈ um_AW := um_in 562 (by rfl) rfl
set_option maxRecDepth 100000 in
theorem wc_Sc_lookAt : Cond.code M_Sc_lookAt.1 M_Sc_lookAt.2.1 M_Sc_lookAt.2.2.1 M_Sc_lookAt.2.2.2 ∈ um_AW := um_in 554 (by rfl) rfl
set_option maxRecDepth 100000 in
theorem wc_La_addRows : Cond.code M_La_addRows.1 M_La_addRows.2.1 M_La_addRows.2.2.1 M_La_addRows.2.2.2 ∈ um_AW := um_in 550 (by rfl) rfl
set_option maxRecDepth 100000 in
theorem wc_Sc_within : Cond.code M_Sc_within.1 M_Sc_within.2.1 M_Sc_within.2.2.1 M_Sc_within.2.2.2 ∈ um_AW := um_in 468 (by rfl) rfl
set_option maxRecDepth 100000 in
theorem wc_Wo_push : Cond.code M_Wo_push.1 M_Wo_push.2.1 M_Wo_push.2.2.1 M_Wo_push.2.2.2 ∈ um_AW := um_in 424 (by rfl) rfl
set_option maxRecDepth 100000 in
theorem wi_Wo : Cond.initialized R_Wo ∈ um_AW := um_in 79 (by decide +kernel) rfl
set_option maxRecDepth 100000 in
theorem wc_La_begin : Cond.code M_La_begin.1 M_La_begin.2.1 M_La_begin.2.2.1 M_La_begin.2.2.2 ∈ um_AW := um_in 420 (by rfl) rfl
set_option maxRecDepth 100000 in
theorem wc_La_emit : Cond.code M_La_emit.1 M_La_emit.2.1 M_La_emit.2.2.1 M_La_emit.2.2.2 ∈ um_AW := um_in 442 (by rfl) rfl
set_option maxRecDepth 100000 in
theorem wc_La_setGoal : Cond.code M_La_setGoal.1 M_La_setGoal.2.1 M_La_setGoal.2.2.1 M_La_setGoal.2.2.2 ∈ um_AW := um_in 446 (by rfl) rfl
set_option maxRecDepth 100000 in
theorem wc_Wo_pop : Cond.code M_Wo_pop.1 M_Wo_pop.2.1 M_Wo_pop.2.2.1 M_Wo_pop.2.2.2 ∈ um_AW := um_in 450 (by rfl) rfl
set_option maxRecDepth 100000 in
theorem wc_La_turnIf : Cond.code M_La_turnIf.1 M_La_turnIf.2.1 M_La_turnIf.2.2.1 M_La_turnIf.2.2.2 ∈ um_AW := um_in 434 (by rfl) rfl
set_option maxRecDepth 100000 in
theorem wc_La_finish : Cond.code M_La_finish.1 M_La_finish.2.1 M_La_finish.2.2.1 M_La_finish.2.2.2 ∈ um_AW := um_in 476 (by rfl) rfl
set_option maxRecDepth 100000 in
theorem wc_La_behind : Cond.code M_La_behind.1 M_La_behind.2.1 M_La_behind.2.2.1 M_La_behind.2.2.2 ∈ um_AW := um_in 472 (by rfl) rfl
set_option maxRecDepth 100000 in
theorem wc_Sc_open : Cond.code M_Sc_open.1 M_Sc_open.2.1 M_Sc_open.2.2.1 M_Sc_open.2.2.2 ∈ um_AW := um_in 462 (by rfl) rfl
set_option maxRecDepth 100000 in
theorem wc_Sc_openLoop : Cond.code M_Sc_openLoop.1 M_Sc_openLoop.2.1 M_Sc_openLoop.2.2.1 M_Sc_openLoop.2.2.2 ∈ um_AW := um_in 458 (by rfl) rfl
set_option maxRecDepth 100000 in
theorem wc_La_turnWhile : Cond.code M_La_turnWhile.1 M_La_turnWhile.2.1 M_La_turnWhile.2.2.1 M_La_turnWhile.2.2.2 ∈ um_AW := um_in 454 (by rfl) rfl
set_option maxRecDepth 100000 in
theorem wc_Sc_finallyAround : Cond.code M_Sc_finallyAround.1 M_Sc_finallyAround.2.1 M_Sc_finallyAround.2.2.1 M_Sc_finallyAround.2.2.2 ∈ um_AW := um_in 484 (by rfl) rfl
set_option maxRecDepth 100000 in
theorem wc_La_leave : Cond.code M_La_leave.1 M_La_leave.2.1 M_La_leave.2.2.1 M_La_leave.2.2.2 ∈ um_AW := um_in 491 (by rfl) rfl
set_option maxRecDepth 100000 in
theorem wc_La_turnReturn : Cond.code M_La_turnReturn.1 M_La_turnReturn.2.1 M_La_turnReturn.2.2.1 M_La_turnReturn.2.2.2 ∈ um_AW := um_in 480 (by rfl) rfl
set_option maxRecDepth 100000 in
theorem wc_La_turnBreak : Cond.code M_La_turnBreak.1 M_La_turnBreak.2.1 M_La_turnBreak.2.2.1 M_La_turnBreak.2.2.2 ∈ um_AW := um_in 495 (by rfl) rfl
set_option maxRecDepth 100000 in
theorem wc_Ha_comesBefore : Cond.code M_Ha_comesBefore.1 M_Ha_comesBefore.2.1 M_Ha_comesBefore.2.2.1 M_Ha_comesBefore.2.2.2 ∈ um_AW := um_in 531 (by rfl) rfl
set_option maxRecDepth 100000 in
theorem wi_Ha : Cond.initialized R_Ha ∈ um_AW := um_in 80 (by decide +kernel) rfl
set_option maxRecDepth 100000 in
theorem wc_Ha_add : Cond.code M_Ha_add.1 M_Ha_add.2.1 M_Ha_add.2.2.1 M_Ha_add.2.2.2 ∈ um_AW := um_in 528 (by rfl) rfl
set_option maxRecDepth 100000 in
theorem wc_Tr_catchAfter : Cond.code M_Tr_catchAfter.1 M_Tr_catchAfter.2.1 M_Tr_catchAfter.2.2.1 M_Tr_catchAfter.2.2.2 ∈ um_AW := um_in 523 (by rfl) rfl
set_option maxRecDepth 100000 in
theorem wc_La_beginCatch : Cond.code M_La_beginCatch.1 M_La_beginCatch.2.1 M_La_beginCatch.2.2.1 M_La_beginCatch.2.2.2 ∈ um_AW := um_in 519 (by rfl) rfl
set_option maxRecDepth 100000 in
theorem wc_La_beginFinally : Cond.code M_La_beginFinally.1 M_La_beginFinally.2.1 M_La_beginFinally.2.2.1 M_La_beginFinally.2.2.2 ∈ um_AW := um_in 507 (by rfl) rfl
set_option maxRecDepth 100000 in
theorem wc_La_beginAny : Cond.code M_La_beginAny.1 M_La_beginAny.2.1 M_La_beginAny.2.2.1 M_La_beginAny.2.2.2 ∈ um_AW := um_in 535 (by rfl) rfl
set_option maxRecDepth 100000 in
theorem wc_La_turnApart : Cond.code M_La_turnApart.1 M_La_turnApart.2.1 M_La_turnApart.2.2.1 M_La_turnApart.2.2.2 ∈ um_AW := um_in 515 (by rfl) rfl
set_option maxRecDepth 100000 in
theorem wc_La_setDone : Cond.code M_La_setDone.1 M_La_setDone.2.1 M_La_setDone.2.2.1 M_La_setDone.2.2.2 ∈ um_AW := um_in 511 (by rfl) rfl
set_option maxRecDepth 100000 in
theorem wc_Sc_openTry : Cond.code M_Sc_openTry.1 M_Sc_openTry.2.1 M_Sc_openTry.2.2.1 M_Sc_openTry.2.2.2 ∈ um_AW := um_in 503 (by rfl) rfl
set_option maxRecDepth 100000 in
theorem wc_La_turnTry : Cond.code M_La_turnTry.1 M_La_turnTry.2.1 M_La_turnTry.2.2.1 M_La_turnTry.2.2.2 ∈ um_AW := um_in 499 (by rfl) rfl
set_option maxRecDepth 100000 in
theorem wc_La_partsThen : Cond.code M_La_partsThen.1 M_La_partsThen.2.1 M_La_partsThen.2.2.1 M_La_partsThen.2.2.2 ∈ um_AW := um_in 546 (by rfl) rfl
set_option maxRecDepth 100000 in
theorem wc_La_turnPlain : Cond.code M_La_turnPlain.1 M_La_turnPlain.2.1 M_La_turnPlain.2.2.1 M_La_turnPlain.2.2.2 ∈ um_AW := um_in 542 (by rfl) rfl
set_option maxRecDepth 100000 in
theorem wc_La_takeTurns : Cond.code M_La_takeTurns.1 M_La_takeTurns.2.1 M_La_takeTurns.2.2.1 M_La_takeTurns.2.2.2 ∈ um_AW := um_in 428 (by rfl) rfl
set_option maxRecDepth 100000 in
theorem wc_La_layFunction : Cond.code M_La_layFunction.1 M_La_layFunction.2.1 M_La_layFunction.2.2.1 M_La_layFunction.2.2.2 ∈ um_AW := um_in 416 (by rfl) rfl
set_option maxRecDepth 100000 in
theorem wc_Sc_clear : Cond.code M_Sc_clear.1 M_Sc_clear.2.1 M_Sc_clear.2.2.1 M_Sc_clear.2.2.2 ∈ um_AW := um_in 412 (by rfl) rfl
set_option maxRecDepth 100000 in
theorem wc_La_layDown : Cond.code M_La_layDown.1 M_La_layDown.2.1 M_La_layDown.2.2.1 M_La_layDown.2.2.2 ∈ um_AW := um_in 404 (by rfl) rfl
set_option maxRecDepth 100000 in
theorem wc_UM_lay : Cond.code M_UM_lay.1 M_UM_lay.2.1 M_UM_lay.2.2.1 M_UM_lay.2.2.2 ∈ um_AW := um_in 400 (by rfl) rfl
set_option maxRecDepth 100000 in
theorem wc_Co_stands : Cond.code M_Co_stands.1 M_Co_stands.2.1 M_Co_stands.2.2.1 M_Co_stands.2.2.2 ∈ um_AW := um_in 581 (by rfl) rfl
set_option maxRecDepth 100000 in
theorem wc_UM_laid : Cond.code M_UM_laid.1 M_UM_laid.2.1 M_UM_laid.2.2.1 M_UM_laid.2.2.2 ∈ um_AW := um_in 577 (by rfl) rfl
set_option maxRecDepth 100000 in
theorem wc_UM_entry : Cond.code M_UM_entry.1 M_UM_entry.2.1 M_UM_entry.2.2.1 M_UM_entry.2.2.2 ∈ um_AW := um_in 585 (by rfl) rfl
set_option maxRecDepth 100000 in
theorem wc_Ma_pull : Cond.code M_Ma_pull.1 M_Ma_pull.2.1 M_Ma_pull.2.2.1 M_Ma_pull.2.2.2 ∈ um_AW := um_in 603 (by rfl) rfl
set_option maxRecDepth 100000 in
theorem wi_Ma : Cond.initialized R_Ma ∈ um_AW := um_in 81 (by decide +kernel) rfl
set_option maxRecDepth 100000 in
theorem wc_Co_rowFor : Cond.code M_Co_rowFor.1 M_Co_rowFor.2.1 M_Co_rowFor.2.2.1 M_Co_rowFor.2.2.2 ∈ um_AW := um_in 611 (by rfl) rfl
set_option maxRecDepth 100000 in
theorem wc_Ma_push : Cond.code M_Ma_push.1 M_Ma_push.2.1 M_Ma_push.2.2.1 M_Ma_push.2.2.2 ∈ um_AW := um_in 615 (by rfl) rfl
set_option maxRecDepth 100000 in
theorem wc_Ma_raise : Cond.code M_Ma_raise.1 M_Ma_raise.2.1 M_Ma_raise.2.2.1 M_Ma_raise.2.2.2 ∈ um_AW := um_in 607 (by rfl) rfl
set_option maxRecDepth 100000 in
theorem wc_Ma_enter : Cond.code M_Ma_enter.1 M_Ma_enter.2.1 M_Ma_enter.2.2.1 M_Ma_enter.2.2.2 ∈ um_AW := um_in 619 (by rfl) rfl
set_option maxRecDepth 100000 in
theorem wc_Ma_goBack : Cond.code M_Ma_goBack.1 M_Ma_goBack.2.1 M_Ma_goBack.2.2.1 M_Ma_goBack.2.2.2 ∈ um_AW := um_in 624 (by rfl) rfl
set_option maxRecDepth 100000 in
theorem wc_Ma_placeOf : Cond.code M_Ma_placeOf.1 M_Ma_placeOf.2.1 M_Ma_placeOf.2.2.1 M_Ma_placeOf.2.2.2 ∈ um_AW := um_in 628 (by rfl) rfl
set_option maxRecDepth 100000 in
theorem wc_Ma_combine : Cond.code M_Ma_combine.1 M_Ma_combine.2.1 M_Ma_combine.2.2.1 M_Ma_combine.2.2.2 ∈ um_AW := um_in 639 (by rfl) rfl
set_option maxRecDepth 100000 in
theorem wc_Ma_putOut : Cond.code M_Ma_putOut.1 M_Ma_putOut.2.1 M_Ma_putOut.2.2.1 M_Ma_putOut.2.2.2 ∈ um_AW := um_in 636 (by rfl) rfl
set_option maxRecDepth 100000 in
theorem wc_Ma_doStraight : Cond.code M_Ma_doStraight.1 M_Ma_doStraight.2.1 M_Ma_doStraight.2.2.1 M_Ma_doStraight.2.2.2 ∈ um_AW := um_in 632 (by rfl) rfl
set_option maxRecDepth 100000 in
theorem wc_Ma_doStep : Cond.code M_Ma_doStep.1 M_Ma_doStep.2.1 M_Ma_doStep.2.2.1 M_Ma_doStep.2.2.2 ∈ um_AW := um_in 599 (by rfl) rfl
set_option maxRecDepth 100000 in
theorem wc_Ma_start : Cond.code M_Ma_start.1 M_Ma_start.2.1 M_Ma_start.2.2.1 M_Ma_start.2.2.2 ∈ um_AW := um_in 594 (by rfl) rfl
set_option maxRecDepth 100000 in
theorem wc_UM_run : Cond.code M_UM_run.1 M_UM_run.2.1 M_UM_run.2.2.1 M_UM_run.2.2.2 ∈ um_AW := um_in 590 (by rfl) rfl
set_option maxRecDepth 100000 in
theorem wc_UM_latest : Cond.code M_UM_latest.1 M_UM_latest.2.1 M_UM_latest.2.2.1 M_UM_latest.2.2.2 ∈ um_AW := um_in 643 (by rfl) rfl
set_option maxRecDepth 100000 in
theorem wc_UM_out : Cond.code M_UM_out.1 M_UM_out.2.1 M_UM_out.2.2.1 M_UM_out.2.2.2 ∈ um_AW := um_in 647 (by rfl) rfl
set_option maxRecDepth 100000 in
theorem wc_UM_variable : Cond.code M_UM_variable.1 M_UM_variable.2.1 M_UM_variable.2.2.1 M_UM_variable.2.2.2 ∈ um_AW := um_in 651 (by rfl) rfl
set_option maxRecDepth 100000 in
theorem wc_Mo_isThere : Cond.code M_Mo_isThere.1 M_Mo_isThere.2.1 M_Mo_isThere.2.2.1 M_Mo_isThere.2.2.2 ∈ um_AW := um_in 957 (by rfl) rfl
set_option maxRecDepth 100000 in
theorem wi_Mo : Cond.initialized R_Mo ∈ um_AW := um_in 82 (by decide +kernel) rfl
set_option maxRecDepth 100000 in
theorem wc_Mo_isStatement : Cond.code M_Mo_isStatement.1 M_Mo_isStatement.2.1 M_Mo_isStatement.2.2.1 M_Mo_isStatement.2.2.2 ∈ um_AW := um_in 961 (by rfl) rfl
set_option maxRecDepth 100000 in
theorem wc_Mo_isVariable : Cond.code M_Mo_isVariable.1 M_Mo_isVariable.2.1 M_Mo_isVariable.2.2.1 M_Mo_isVariable.2.2.2 ∈ um_AW := um_in 949 (by rfl) rfl
set_option maxRecDepth 100000 in
theorem wc_Mo_isExpression : Cond.code M_Mo_isExpression.1 M_Mo_isExpression.2.1 M_Mo_isExpression.2.2.1 M_Mo_isExpression.2.2.2 ∈ um_AW := um_in 953 (by rfl) rfl
set_option maxRecDepth 100000 in
theorem wc_Mo_isCatch : Cond.code M_Mo_isCatch.1 M_Mo_isCatch.2.1 M_Mo_isCatch.2.2.1 M_Mo_isCatch.2.2.2 ∈ um_AW := um_in 965 (by rfl) rfl
set_option maxRecDepth 100000 in
theorem wc_Mo_can : Cond.code M_Mo_can.1 M_Mo_can.2.1 M_Mo_can.2.2.1 M_Mo_can.2.2.2 ∈ um_AW := um_in 946 (by rfl) rfl
set_option maxRecDepth 100000 in
theorem wc_Mo_adds : Cond.code M_Mo_adds.1 M_Mo_adds.2.1 M_Mo_adds.2.2.1 M_Mo_adds.2.2.2 ∈ um_AW := um_in 969 (by rfl) rfl
set_option maxRecDepth 100000 in
theorem wc_Mo_node : Cond.code M_Mo_node.1 M_Mo_node.2.1 M_Mo_node.2.2.1 M_Mo_node.2.2.2 ∈ um_AW := um_in 942 (by rfl) rfl
set_option maxRecDepth 100000 in
theorem wc_Mo_catchBehind : Cond.code M_Mo_catchBehind.1 M_Mo_catchBehind.2.1 M_Mo_catchBehind.2.2.1 M_Mo_catchBehind.2.2.2 ∈ um_AW := um_in 973 (by rfl) rfl
set_option maxRecDepth 100000 in
theorem wc_Mo_body : Cond.code M_Mo_body.1 M_Mo_body.2.1 M_Mo_body.2.2.1 M_Mo_body.2.2.2 ∈ um_AW := um_in 977 (by rfl) rfl
set_option maxRecDepth 100000 in
theorem wc_Mo_hasFinally : Cond.code M_Mo_hasFinally.1 M_Mo_hasFinally.2.1 M_Mo_hasFinally.2.2.1 M_Mo_hasFinally.2.2.2 ∈ um_AW := um_in 1021 (by rfl) rfl
set_option maxRecDepth 100000 in
theorem wc_Mo_row_IIIII : Cond.code M_Mo_row_IIIII.1 M_Mo_row_IIIII.2.1 M_Mo_row_IIIII.2.2.1 M_Mo_row_IIIII.2.2.2 ∈ um_AW := um_in 1077 (by rfl) rfl
set_option maxRecDepth 100000 in
theorem wc_Mo_isAround : Cond.code M_Mo_isAround.1 M_Mo_isAround.2.1 M_Mo_isAround.2.2.1 M_Mo_isAround.2.2.2 ∈ um_AW := um_in 1073 (by rfl) rfl
set_option maxRecDepth 100000 in
theorem wc_Mo_stretches : Cond.code M_Mo_stretches.1 M_Mo_stretches.2.1 M_Mo_stretches.2.2.1 M_Mo_stretches.2.2.2 ∈ um_AW := um_in 1069 (by rfl) rfl
set_option maxRecDepth 100000 in
theorem wc_Mo_catches : Cond.code M_Mo_catches.1 M_Mo_catches.2.1 M_Mo_catches.2.2.1 M_Mo_catches.2.2.2 ∈ um_AW := um_in 1013 (by rfl) rfl
set_option maxRecDepth 100000 in
theorem wc_Mo_catchAt : Cond.code M_Mo_catchAt.1 M_Mo_catchAt.2.1 M_Mo_catchAt.2.2.1 M_Mo_catchAt.2.2.2 ∈ um_AW := um_in 1017 (by rfl) rfl
set_option maxRecDepth 100000 in
theorem wc_Mo_table : Cond.code M_Mo_table.1 M_Mo_table.2.1 M_Mo_table.2.2.1 M_Mo_table.2.2.2 ∈ um_AW := um_in 1065 (by rfl) rfl
set_option maxRecDepth 100000 in
theorem wc_Mo_separates : Cond.code M_Mo_separates.1 M_Mo_separates.2.1 M_Mo_separates.2.2.1 M_Mo_separates.2.2.2 ∈ um_AW := um_in 1061 (by rfl) rfl
set_option maxRecDepth 100000 in
theorem wc_Mo_put : Cond.code M_Mo_put.1 M_Mo_put.2.1 M_Mo_put.2.2.1 M_Mo_put.2.2.2 ∈ um_AW := um_in 1001 (by rfl) rfl
set_option maxRecDepth 100000 in
theorem wc_Mo_begin : Cond.code M_Mo_begin.1 M_Mo_begin.2.1 M_Mo_begin.2.2.1 M_Mo_begin.2.2.2 ∈ um_AW := um_in 989 (by rfl) rfl
set_option maxRecDepth 100000 in
theorem wc_Mo_last : Cond.code M_Mo_last.1 M_Mo_last.2.1 M_Mo_last.2.2.1 M_Mo_last.2.2.2 ∈ um_AW := um_in 1025 (by rfl) rfl
set_option maxRecDepth 100000 in
theorem wc_Mo_loop : Cond.code M_Mo_loop.1 M_Mo_loop.2.1 M_Mo_loop.2.2.1 M_Mo_loop.2.2.2 ∈ um_AW := um_in 1045 (by rfl) rfl
set_option maxRecDepth 100000 in
theorem wc_Mo_leaves : Cond.code M_Mo_leaves.1 M_Mo_leaves.2.1 M_Mo_leaves.2.2.1 M_Mo_leaves.2.2.2 ∈ um_AW := um_in 1041 (by rfl) rfl
set_option maxRecDepth 100000 in
theorem wc_Mo_part : Cond.code M_Mo_part.1 M_Mo_part.2.1 M_Mo_part.2.2.1 M_Mo_part.2.2.2 ∈ um_AW := um_in 1005 (by rfl) rfl
set_option maxRecDepth 100000 in
theorem wc_Mo_decides : Cond.code M_Mo_decides.1 M_Mo_decides.2.1 M_Mo_decides.2.2.1 M_Mo_decides.2.2.2 ∈ um_AW := um_in 1053 (by rfl) rfl
set_option maxRecDepth 100000 in
theorem wc_Mo_item : Cond.code M_Mo_item.1 M_Mo_item.2.1 M_Mo_item.2.2.1 M_Mo_item.2.2.2 ∈ um_AW := um_in 1033 (by rfl) rfl
set_option maxRecDepth 100000 in
theorem wc_Mo_ends : Cond.code M_Mo_ends.1 M_Mo_ends.2.1 M_Mo_ends.2.2.1 M_Mo_ends.2.2.2 ∈ um_AW := um_in 1037 (by rfl) rfl
set_option maxRecDepth 100000 in
theorem wc_Mo_repeats : Cond.code M_Mo_repeats.1 M_Mo_repeats.2.1 M_Mo_repeats.2.2.1 M_Mo_repeats.2.2.2 ∈ um_AW := um_in 1057 (by rfl) rfl
set_option maxRecDepth 100000 in
theorem wc_Mo_statement : Cond.code M_Mo_statement.1 M_Mo_statement.2.1 M_Mo_statement.2.2.1 M_Mo_statement.2.2.2 ∈ um_AW := um_in 1049 (by rfl) rfl
set_option maxRecDepth 100000 in
theorem wc_Mo_tries : Cond.code M_Mo_tries.1 M_Mo_tries.2.1 M_Mo_tries.2.2.1 M_Mo_tries.2.2.2 ∈ um_AW := um_in 1029 (by rfl) rfl
set_option maxRecDepth 100000 in
theorem wc_Mo_apart : Cond.code M_Mo_apart.1 M_Mo_apart.2.1 M_Mo_apart.2.2.1 M_Mo_apart.2.2.2 ∈ um_AW := um_in 1009 (by rfl) rfl
set_option maxRecDepth 100000 in
theorem wc_Mo_expression : Cond.code M_Mo_expression.1 M_Mo_expression.2.1 M_Mo_expression.2.2.1 M_Mo_expression.2.2.2 ∈ um_AW := um_in 997 (by rfl) rfl
set_option maxRecDepth 100000 in
theorem wc_Mo_goesOn : Cond.code M_Mo_goesOn.1 M_Mo_goesOn.2.1 M_Mo_goesOn.2.2.1 M_Mo_goesOn.2.2.2 ∈ um_AW := um_in 993 (by rfl) rfl
set_option maxRecDepth 100000 in
theorem wc_Mo_laysAll : Cond.code M_Mo_laysAll.1 M_Mo_laysAll.2.1 M_Mo_laysAll.2.2.1 M_Mo_laysAll.2.2.2 ∈ um_AW := um_in 985 (by rfl) rfl
set_option maxRecDepth 100000 in
theorem wc_Mo_lay : Cond.code M_Mo_lay.1 M_Mo_lay.2.1 M_Mo_lay.2.2.1 M_Mo_lay.2.2.2 ∈ um_AW := um_in 981 (by rfl) rfl
set_option maxRecDepth 100000 in
theorem wc_Mo_laid : Cond.code M_Mo_laid.1 M_Mo_laid.2.1 M_Mo_laid.2.2.1 M_Mo_laid.2.2.2 ∈ um_AW := um_in 1083 (by rfl) rfl
set_option maxRecDepth 100000 in
theorem wc_Mo_instruction : Cond.code M_Mo_instruction.1 M_Mo_instruction.2.1 M_Mo_instruction.2.2.1 M_Mo_instruction.2.2.2 ∈ um_AW := um_in 1087 (by rfl) rfl
set_option maxRecDepth 100000 in
theorem wc_Mo_entry : Cond.code M_Mo_entry.1 M_Mo_entry.2.1 M_Mo_entry.2.2.1 M_Mo_entry.2.2.2 ∈ um_AW := um_in 1091 (by rfl) rfl
set_option maxRecDepth 100000 in
theorem wc_Mo_row_II : Cond.code M_Mo_row_II.1 M_Mo_row_II.2.1 M_Mo_row_II.2.2.1 M_Mo_row_II.2.2.2 ∈ um_AW := um_in 1095 (by rfl) rfl
set_option maxRecDepth 100000 in
theorem wc_Mo_push : Cond.code M_Mo_push.1 M_Mo_push.2.1 M_Mo_push.2.2.1 M_Mo_push.2.2.2 ∈ um_AW := um_in 1107 (by rfl) rfl
set_option maxRecDepth 100000 in
theorem wc_Mo_pop : Cond.code M_Mo_pop.1 M_Mo_pop.2.1 M_Mo_pop.2.2.1 M_Mo_pop.2.2.2 ∈ um_AW := um_in 1111 (by rfl) rfl
set_option maxRecDepth 100000 in
theorem wc_Mo_throwing : Cond.code M_Mo_throwing.1 M_Mo_throwing.2.1 M_Mo_throwing.2.2.1 M_Mo_throwing.2.2.2 ∈ um_AW := um_in 1115 (by rfl) rfl
set_option maxRecDepth 100000 in
theorem wc_Mo_calls : Cond.code M_Mo_calls.1 M_Mo_calls.2.1 M_Mo_calls.2.2.1 M_Mo_calls.2.2.2 ∈ um_AW := um_in 1119 (by rfl) rfl
set_option maxRecDepth 100000 in
theorem wc_Mo_returns : Cond.code M_Mo_returns.1 M_Mo_returns.2.1 M_Mo_returns.2.2.1 M_Mo_returns.2.2.2 ∈ um_AW := um_in 1123 (by rfl) rfl
set_option maxRecDepth 100000 in
theorem wc_Mo_worked : Cond.code M_Mo_worked.1 M_Mo_worked.2.1 M_Mo_worked.2.2.1 M_Mo_worked.2.2.2 ∈ um_AW := um_in 1130 (by rfl) rfl
set_option maxRecDepth 100000 in
theorem wc_Mo_works : Cond.code M_Mo_works.1 M_Mo_works.2.1 M_Mo_works.2.2.1 M_Mo_works.2.2.2 ∈ um_AW := um_in 1127 (by rfl) rfl
set_option maxRecDepth 100000 in
theorem wc_Mo_step : Cond.code M_Mo_step.1 M_Mo_step.2.1 M_Mo_step.2.2.1 M_Mo_step.2.2.2 ∈ um_AW := um_in 1103 (by rfl) rfl
set_option maxRecDepth 100000 in
theorem wc_Mo_run : Cond.code M_Mo_run.1 M_Mo_run.2.1 M_Mo_run.2.2.1 M_Mo_run.2.2.2 ∈ um_AW := um_in 1099 (by rfl) rfl
set_option maxRecDepth 100000 in
theorem wc_Mo_latest : Cond.code M_Mo_latest.1 M_Mo_latest.2.1 M_Mo_latest.2.2.1 M_Mo_latest.2.2.2 ∈ um_AW := um_in 1134 (by rfl) rfl
set_option maxRecDepth 100000 in
theorem wc_Mo_out : Cond.code M_Mo_out.1 M_Mo_out.2.1 M_Mo_out.2.2.1 M_Mo_out.2.2.2 ∈ um_AW := um_in 1138 (by rfl) rfl
set_option maxRecDepth 100000 in
theorem wc_Mo_variable : Cond.code M_Mo_variable.1 M_Mo_variable.2.1 M_Mo_variable.2.2.1 M_Mo_variable.2.2.2 ∈ um_AW := um_in 1142 (by rfl) rfl
set_option maxRecDepth 100000 in
theorem wc_Mo_thrown : Cond.code M_Mo_thrown.1 M_Mo_thrown.2.1 M_Mo_thrown.2.2.1 M_Mo_thrown.2.2.2 ∈ um_AW := um_in 938 (by rfl) rfl
set_option maxRecDepth 100000 in
theorem wf_Co_24 : Cond.fieldLink R_Co 24 (F_Co 4).1 (F_Co 4).2.1 (F_Co 4).2.2.1 ∈ um_AW := um_in 141 (by decide +kernel) rfl
theorem f_Co_24 : um_Fd um_cl um_AW R_Co 24 2 4 := ⟨R_Co, F_Co, 9, cl_Co, by decide, Or.inl wf_Co_24⟩
set_option maxRecDepth 100000 in
theorem wf_Co_27 : Cond.fieldLink R_Co 27 (F_Co 5).1 (F_Co 5).2.1 (F_Co 5).2.2.1 ∈ um_AW := um_in 145 (by decide +kernel) rfl
theorem f_Co_27 : um_Fd um_cl um_AW R_Co 27 2 5 := ⟨R_Co, F_Co, 9, cl_Co, by decide, Or.inl wf_Co_27⟩
theorem fw_Co_27 : um_Fw um_cl um_AW R_Co 27 2 5 .int := ⟨R_Co, F_Co, 9, cl_Co, by decide, Or.inl wf_Co_27, rfl, by decide +kernel⟩
set_option maxRecDepth 100000 in
theorem wf_Co_31 : Cond.fieldLink R_Co 31 (F_Co 6).1 (F_Co 6).2.1 (F_Co 6).2.2.1 ∈ um_AW := um_in 148 (by decide +kernel) rfl
theorem f_Co_31 : um_Fd um_cl um_AW R_Co 31 2 6 := ⟨R_Co, F_Co, 9, cl_Co, by decide, Or.inl wf_Co_31⟩
theorem fw_Co_31 : um_Fw um_cl um_AW R_Co 31 2 6 .int := ⟨R_Co, F_Co, 9, cl_Co, by decide, Or.inl wf_Co_31, rfl, by decide +kernel⟩
set_option maxRecDepth 100000 in
theorem wf_Co_34 : Cond.fieldLink R_Co 34 (F_Co 7).1 (F_Co 7).2.1 (F_Co 7).2.2.1 ∈ um_AW := um_in 151 (by decide +kernel) rfl
theorem f_Co_34 : um_Fd um_cl um_AW R_Co 34 2 7 := ⟨R_Co, F_Co, 9, cl_Co, by decide, Or.inl wf_Co_34⟩
theorem fw_Co_34 : um_Fw um_cl um_AW R_Co 34 2 7 .int := ⟨R_Co, F_Co, 9, cl_Co, by decide, Or.inl wf_Co_34, rfl, by decide +kernel⟩
set_option maxRecDepth 100000 in
theorem wf_Co_37 : Cond.fieldLink R_Co 37 (F_Co 8).1 (F_Co 8).2.1 (F_Co 8).2.2.1 ∈ um_AW := um_in 154 (by decide +kernel) rfl
theorem f_Co_37 : um_Fd um_cl um_AW R_Co 37 2 8 := ⟨R_Co, F_Co, 9, cl_Co, by decide, Or.inl wf_Co_37⟩
theorem fw_Co_37 : um_Fw um_cl um_AW R_Co 37 2 8 .int := ⟨R_Co, F_Co, 9, cl_Co, by decide, Or.inl wf_Co_37, rfl, by decide +kernel⟩
set_option maxRecDepth 100000 in
theorem wf_Ha_11 : Cond.fieldLink R_Ha 11 (F_Ha 0).1 (F_Ha 0).2.1 (F_Ha 0).2.2.1 ∈ um_AW := um_in 259 (by decide +kernel) rfl
theorem f_Ha_11 : um_Fd um_cl um_AW R_Ha 11 7 0 := ⟨R_Ha, F_Ha, 4, cl_Ha, by decide, Or.inl wf_Ha_11⟩
set_option maxRecDepth 100000 in
theorem wf_Ha_15 : Cond.fieldLink R_Ha 15 (F_Ha 1).1 (F_Ha 1).2.1 (F_Ha 1).2.2.1 ∈ um_AW := um_in 261 (by decide +kernel) rfl
theorem f_Ha_15 : um_Fd um_cl um_AW R_Ha 15 7 1 := ⟨R_Ha, F_Ha, 4, cl_Ha, by decide, Or.inl wf_Ha_15⟩
set_option maxRecDepth 100000 in
theorem wf_Ha_18 : Cond.fieldLink R_Ha 18 (F_Ha 2).1 (F_Ha 2).2.1 (F_Ha 2).2.2.1 ∈ um_AW := um_in 263 (by decide +kernel) rfl
theorem f_Ha_18 : um_Fd um_cl um_AW R_Ha 18 7 2 := ⟨R_Ha, F_Ha, 4, cl_Ha, by decide, Or.inl wf_Ha_18⟩
set_option maxRecDepth 100000 in
theorem wf_Ha_21 : Cond.fieldLink R_Ha 21 (F_Ha 3).1 (F_Ha 3).2.1 (F_Ha 3).2.2.1 ∈ um_AW := um_in 265 (by decide +kernel) rfl
theorem f_Ha_21 : um_Fd um_cl um_AW R_Ha 21 7 3 := ⟨R_Ha, F_Ha, 4, cl_Ha, by decide, Or.inl wf_Ha_21⟩
theorem fw_Ha_21 : um_Fw um_cl um_AW R_Ha 21 7 3 .int := ⟨R_Ha, F_Ha, 4, cl_Ha, by decide, Or.inl wf_Ha_21, rfl, by decide +kernel⟩
set_option maxRecDepth 100000 in
theorem wl_Ha_25 : Cond.methodLink R_Ha 25 M_Ha_comesBefore.1 ∈ um_AW := um_in 529 (by decide +kernel) rfl
set_option maxRecDepth 100000 in
theorem ws_Ha_comesBefore : Cond.static M_Ha_comesBefore.1 ∈ um_AW := um_in 530 (by decide +kernel) rfl
theorem g_Ha_25 : um_Is um_AW R_Ha 25 M_Ha_comesBefore 3 := ⟨⟨um_gd, wc_Ha_comesBefore, wi_Ha, ⟨by decide, by decide, by decide +kernel⟩, Or.inl wl_Ha_25⟩, ws_Ha_comesBefore⟩
set_option maxRecDepth 100000 in
theorem wf_La_12 : Cond.fieldLink R_La 12 (F_La 2).1 (F_La 2).2.1 (F_La 2).2.2.1 ∈ um_AW := um_in 278 (by decide +kernel) rfl
theorem f_La_12 : um_Fd um_cl um_AW R_La 12 3 2 := ⟨R_La, F_La, 9, cl_La, by decide, Or.inl wf_La_12⟩
set_option maxRecDepth 100000 in
theorem wf_La_21 : Cond.fieldLink R_La 21 (F_La 3).1 (F_La 3).2.1 (F_La 3).2.2.1 ∈ um_AW := um_in 279 (by decide +kernel) rfl
theorem f_La_21 : um_Fd um_cl um_AW R_La 21 3 3 := ⟨R_La, F_La, 9, cl_La, by decide, Or.inl wf_La_21⟩
set_option maxRecDepth 100000 in
theorem wf_La_28 : Cond.fieldLink R_La 28 (F_La 4).1 (F_La 4).2.1 (F_La 4).2.2.1 ∈ um_AW := um_in 280 (by decide +kernel) rfl
theorem f_La_28 : um_Fd um_cl um_AW R_La 28 3 4 := ⟨R_La, F_La, 9, cl_La, by decide, Or.inl wf_La_28⟩
set_option maxRecDepth 100000 in
theorem wf_La_32 : Cond.fieldLink R_La 32 (F_La 5).1 (F_La 5).2.1 (F_La 5).2.2.1 ∈ um_AW := um_in 281 (by decide +kernel) rfl
theorem f_La_32 : um_Fd um_cl um_AW R_La 32 3 5 := ⟨R_La, F_La, 9, cl_La, by decide, Or.inl wf_La_32⟩
set_option maxRecDepth 100000 in
theorem wf_La_36 : Cond.fieldLink R_La 36 (F_La 0).1 (F_La 0).2.1 (F_La 0).2.2.1 ∈ um_AW := um_in 276 (by decide +kernel) rfl
theorem f_La_36 : um_Fd um_cl um_AW R_La 36 3 0 := ⟨R_La, F_La, 9, cl_La, by decide, Or.inl wf_La_36⟩
set_option maxRecDepth 100000 in
theorem wf_La_40 : Cond.fieldLink R_La 40 (F_La 1).1 (F_La 1).2.1 (F_La 1).2.2.1 ∈ um_AW := um_in 277 (by decide +kernel) rfl
theorem f_La_40 : um_Fd um_cl um_AW R_La 40 3 1 := ⟨R_La, F_La, 9, cl_La, by decide, Or.inl wf_La_40⟩
set_option maxRecDepth 100000 in
theorem wl_La_44 : Cond.methodLink R_La 44 M_Co_clear.1 ∈ um_AW := um_in 405 (by decide +kernel) rfl
set_option maxRecDepth 100000 in
theorem wn_Co_clear : Cond.instanceMethod M_Co_clear.1 ∈ um_AW := um_in 406 (by decide +kernel) rfl
set_option maxRecDepth 100000 in
theorem wv_Co_clear : Cond.selects R_Co M_Co_clear.1 M_Co_clear.1 ∈ um_AW := um_in 407 (by decide +kernel) rfl
theorem g_La_44 : um_Iv um_cl um_AW R_La 44 2 M_Co_clear 0 := ⟨⟨um_gd, wc_Co_clear, wi_Co, ⟨by decide, by decide, by decide +kernel⟩, Or.inl wl_La_44⟩, (R_Co, F_Co, 9), rfl, wn_Co_clear, wv_Co_clear⟩
set_option maxRecDepth 100000 in
theorem wl_La_49 : Cond.methodLink R_La 49 M_Sc_clear.1 ∈ um_AW := um_in 409 (by decide +kernel) rfl
set_option maxRecDepth 100000 in
theorem wn_Sc_clear : Cond.instanceMethod M_Sc_clear.1 ∈ um_AW := um_in 410 (by decide +kernel) rfl
set_option maxRecDepth 100000 in
theorem wv_Sc_clear : Cond.selects R_Sc M_Sc_clear.1 M_Sc_clear.1 ∈ um_AW := um_in 411 (by decide +kernel) rfl
theorem g_La_49 : um_Iv um_cl um_AW R_La 49 5 M_Sc_clear 0 := ⟨⟨um_gd, wc_Sc_clear, wi_Sc, ⟨by decide, by decide, by decide +kernel⟩, Or.inl wl_La_49⟩, (R_Sc, F_Sc, 10), rfl, wn_Sc_clear, wv_Sc_clear⟩
set_option maxRecDepth 100000 in
theorem wf_La_50 : Cond.fieldLink R_La 50 (F_Wo 4).1 (F_Wo 4).2.1 (F_Wo 4).2.2.1 ∈ um_AW := um_in 241 (by decide +kernel) rfl
theorem f_La_50 : um_Fd um_cl um_AW R_La 50 6 4 := ⟨R_Wo, F_Wo, 5, cl_Wo, by decide, Or.inl wf_La_50⟩
theorem fw_La_50 : um_Fw um_cl um_AW R_La 50 6 4 .int := ⟨R_Wo, F_Wo, 5, cl_Wo, by decide, Or.inl wf_La_50, rfl, by decide +kernel⟩
set_option maxRecDepth 100000 in
theorem wf_La_54 : Cond.fieldLink R_La 54 (F_Ha 3).1 (F_Ha 3).2.1 (F_Ha 3).2.2.1 ∈ um_AW := um_in 266 (by decide +kernel) rfl
theorem f_La_54 : um_Fd um_cl um_AW R_La 54 7 3 := ⟨R_Ha, F_Ha, 4, cl_Ha, by decide, Or.inl wf_La_54⟩
theorem fw_La_54 : um_Fw um_cl um_AW R_La 54 7 3 .int := ⟨R_Ha, F_Ha, 4, cl_Ha, by decide, Or.inl wf_La_54, rfl, by decide +kernel⟩
set_option maxRecDepth 100000 in
theorem wf_La_57 : Cond.fieldLink R_La 57 (F_La 7).1 (F_La 7).2.1 (F_La 7).2.2.1 ∈ um_AW := um_in 283 (by decide +kernel) rfl
theorem f_La_57 : um_Fd um_cl um_AW R_La 57 3 7 := ⟨R_La, F_La, 9, cl_La, by decide, Or.inl wf_La_57⟩
theorem fw_La_57 : um_Fw um_cl um_AW R_La 57 3 7 .boolean := ⟨R_La, F_La, 9, cl_La, by decide, Or.inl wf_La_57, rfl, by decide +kernel⟩
set_option maxRecDepth 100000 in
theorem wf_La_61 : Cond.fieldLink R_La 61 (F_La 8).1 (F_La 8).2.1 (F_La 8).2.2.1 ∈ um_AW := um_in 284 (by decide +kernel) rfl
theorem f_La_61 : um_Fd um_cl um_AW R_La 61 3 8 := ⟨R_La, F_La, 9, cl_La, by decide, Or.inl wf_La_61⟩
theorem fw_La_61 : um_Fw um_cl um_AW R_La 61 3 8 .int := ⟨R_La, F_La, 9, cl_La, by decide, Or.inl wf_La_61, rfl, by decide +kernel⟩
set_option maxRecDepth 100000 in
theorem wl_La_64 : Cond.methodLink R_La 64 M_La_layFunction.1 ∈ um_AW := um_in 413 (by decide +kernel) rfl
set_option maxRecDepth 100000 in
theorem wn_La_layFunction : Cond.instanceMethod M_La_layFunction.1 ∈ um_AW := um_in 415 (by decide +kernel) rfl
set_option maxRecDepth 100000 in
theorem wv_La_layFunction : Cond.selects R_La M_La_layFunction.1 M_La_layFunction.1 ∈ um_AW := um_in 1 (by decide +kernel) rfl
theorem g_La_64 : um_Iv um_cl um_AW R_La 64 3 M_La_layFunction 1 := ⟨⟨um_gd, wc_La_layFunction, wi_La, ⟨by decide, by decide, by decide +kernel⟩, Or.inl wl_La_64⟩, (R_La, F_La, 9), rfl, wn_La_layFunction, wv_La_layFunction⟩
set_option maxRecDepth 100000 in
theorem wl_La_68 : Cond.methodLink R_La 68 M_La_addRows.1 ∈ um_AW := um_in 547 (by decide +kernel) rfl
set_option maxRecDepth 100000 in
theorem wn_La_addRows : Cond.instanceMethod M_La_addRows.1 ∈ um_AW := um_in 549 (by decide +kernel) rfl
set_option maxRecDepth 100000 in
theorem wv_La_addRows : Cond.selects R_La M_La_addRows.1 M_La_addRows.1 ∈ um_AW := um_in 21 (by decide +kernel) rfl
theorem g_La_68 : um_Iv um_cl um_AW R_La 68 3 M_La_addRows 1 := ⟨⟨um_gd, wc_La_addRows, wi_La, ⟨by decide, by decide, by decide +kernel⟩, Or.inl wl_La_68⟩, (R_La, F_La, 9), rfl, wn_La_addRows, wv_La_addRows⟩
set_option maxRecDepth 100000 in
theorem wl_La_71 : Cond.methodLink R_La 71 M_La_settleGoals.1 ∈ um_AW := um_in 570 (by decide +kernel) rfl
set_option maxRecDepth 100000 in
theorem wn_La_settleGoals : Cond.instanceMethod M_La_settleGoals.1 ∈ um_AW := um_in 572 (by decide +kernel) rfl
set_option maxRecDepth 100000 in
theorem wv_La_settleGoals : Cond.selects R_La M_La_settleGoals.1 M_La_settleGoals.1 ∈ um_AW := um_in 24 (by decide +kernel) rfl
theorem g_La_71 : um_Iv um_cl um_AW R_La 71 3 M_La_settleGoals 0 := ⟨⟨um_gd, wc_La_settleGoals, wi_La, ⟨by decide, by decide, by decide +kernel⟩, Or.inl wl_La_71⟩, (R_La, F_La, 9), rfl, wn_La_settleGoals, wv_La_settleGoals⟩
set_option maxRecDepth 100000 in
theorem wf_La_74 : Cond.fieldLink R_La 74 (F_Co 5).1 (F_Co 5).2.1 (F_Co 5).2.2.1 ∈ um_AW := um_in 146 (by decide +kernel) rfl
theorem f_La_74 : um_Fd um_cl um_AW R_La 74 2 5 := ⟨R_Co, F_Co, 9, cl_Co, by decide, Or.inl wf_La_74⟩
theorem fw_La_74 : um_Fw um_cl um_AW R_La 74 2 5 .int := ⟨R_Co, F_Co, 9, cl_Co, by decide, Or.inl wf_La_74, rfl, by decide +kernel⟩
set_option maxRecDepth 100000 in
theorem wf_La_75 : Cond.fieldLink R_La 75 (F_Co 3).1 (F_Co 3).2.1 (F_Co 3).2.2.1 ∈ um_AW := um_in 138 (by decide +kernel) rfl
theorem f_La_75 : um_Fd um_cl um_AW R_La 75 2 3 := ⟨R_Co, F_Co, 9, cl_Co, by decide, Or.inl wf_La_75⟩
set_option maxRecDepth 100000 in
theorem wf_La_78 : Cond.fieldLink R_La 78 (F_La 6).1 (F_La 6).2.1 (F_La 6).2.2.1 ∈ um_AW := um_in 282 (by decide +kernel) rfl
theorem f_La_78 : um_Fd um_cl um_AW R_La 78 3 6 := ⟨R_La, F_La, 9, cl_La, by decide, Or.inl wf_La_78⟩
theorem fw_La_78 : um_Fw um_cl um_AW R_La 78 3 6 .int := ⟨R_La, F_La, 9, cl_La, by decide, Or.inl wf_La_78, rfl, by decide +kernel⟩
set_option maxRecDepth 100000 in
theorem wf_La_81 : Cond.fieldLink R_La 81 (F_Tr 2).1 (F_Tr 2).2.1 (F_Tr 2).2.2.1 ∈ um_AW := um_in 109 (by decide +kernel) rfl
theorem f_La_81 : um_Fd um_cl um_AW R_La 81 1 2 := ⟨R_Tr, F_Tr, 4, cl_Tr, by decide, Or.inl wf_La_81⟩
set_option maxRecDepth 100000 in
theorem wl_La_86 : Cond.methodLink R_La 86 M_La_begin.1 ∈ um_AW := um_in 417 (by decide +kernel) rfl
set_option maxRecDepth 100000 in
theorem wn_La_begin : Cond.instanceMethod M_La_begin.1 ∈ um_AW := um_in 419 (by decide +kernel) rfl
set_option maxRecDepth 100000 in
theorem wv_La_begin : Cond.selects R_La M_La_begin.1 M_La_begin.1 ∈ um_AW := um_in 2 (by decide +kernel) rfl
theorem g_La_86 : um_Iv um_cl um_AW R_La 86 3 M_La_begin 2 := ⟨⟨um_gd, wc_La_begin, wi_La, ⟨by decide, by decide, by decide +kernel⟩, Or.inl wl_La_86⟩, (R_La, F_La, 9), rfl, wn_La_begin, wv_La_begin⟩
set_option maxRecDepth 100000 in
theorem wl_La_90 : Cond.methodLink R_La 90 M_La_takeTurns.1 ∈ um_AW := um_in 425 (by decide +kernel) rfl
set_option maxRecDepth 100000 in
theorem wn_La_takeTurns : Cond.instanceMethod M_La_takeTurns.1 ∈ um_AW := um_in 427 (by decide +kernel) rfl
set_option maxRecDepth 100000 in
theorem wv_La_takeTurns : Cond.selects R_La M_La_takeTurns.1 M_La_takeTurns.1 ∈ um_AW := um_in 3 (by decide +kernel) rfl
theorem g_La_90 : um_Iv um_cl um_AW R_La 90 3 M_La_takeTurns 0 := ⟨⟨um_gd, wc_La_takeTurns, wi_La, ⟨by decide, by decide, by decide +kernel⟩, Or.inl wl_La_90⟩, (R_La, F_La, 9), rfl, wn_La_takeTurns, wv_La_takeTurns⟩
set_option maxRecDepth 100000 in
theorem wl_La_95 : Cond.methodLink R_La 95 M_La_emit.1 ∈ um_AW := um_in 439 (by decide +kernel) rfl
set_option maxRecDepth 100000 in
theorem wn_La_emit : Cond.instanceMethod M_La_emit.1 ∈ um_AW := um_in 441 (by decide +kernel) rfl
set_option maxRecDepth 100000 in
theorem wv_La_emit : Cond.selects R_La M_La_emit.1 M_La_emit.1 ∈ um_AW := um_in 5 (by decide +kernel) rfl
theorem g_La_95 : um_Iv um_cl um_AW R_La 95 3 M_La_emit 3 := ⟨⟨um_gd, wc_La_emit, wi_La, ⟨by decide, by decide, by decide +kernel⟩, Or.inl wl_La_95⟩, (R_La, F_La, 9), rfl, wn_La_emit, wv_La_emit⟩
set_option maxRecDepth 100000 in
theorem wf_La_99 : Cond.fieldLink R_La 99 (F_Sc 1).1 (F_Sc 1).2.1 (F_Sc 1).2.2.1 ∈ um_AW := um_in 191 (by decide +kernel) rfl
theorem f_La_99 : um_Fd um_cl um_AW R_La 99 5 1 := ⟨R_Sc, F_Sc, 10, cl_Sc, by decide, Or.inl wf_La_99⟩
set_option maxRecDepth 100000 in
theorem wl_La_102 : Cond.methodLink R_La 102 M_Sc_within.1 ∈ um_AW := um_in 466 (by decide +kernel) rfl
set_option maxRecDepth 100000 in
theorem ws_Sc_within : Cond.static M_Sc_within.1 ∈ um_AW := um_in 467 (by decide +kernel) rfl
theorem g_La_102 : um_Is um_AW R_La 102 M_Sc_within 2 := ⟨⟨um_gd, wc_Sc_within, wi_Sc, ⟨by decide, by decide, by decide +kernel⟩, Or.inl wl_La_102⟩, ws_Sc_within⟩
set_option maxRecDepth 100000 in
theorem wl_La_106 : Cond.methodLink R_La 106 M_Wo_push.1 ∈ um_AW := um_in 421 (by decide +kernel) rfl
set_option maxRecDepth 100000 in
theorem wn_Wo_push : Cond.instanceMethod M_Wo_push.1 ∈ um_AW := um_in 422 (by decide +kernel) rfl
set_option maxRecDepth 100000 in
theorem wv_Wo_push : Cond.selects R_Wo M_Wo_push.1 M_Wo_push.1 ∈ um_AW := um_in 423 (by decide +kernel) rfl
theorem g_La_106 : um_Iv um_cl um_AW R_La 106 6 M_Wo_push 3 := ⟨⟨um_gd, wc_Wo_push, wi_Wo, ⟨by decide, by decide, by decide +kernel⟩, Or.inl wl_La_106⟩, (R_Wo, F_Wo, 5), rfl, wn_Wo_push, wv_Wo_push⟩
set_option maxRecDepth 100000 in
theorem k_La_109 : Cond.constant R_La 109 1000000 ∈ um_AW := um_in 429 (by decide +kernel) rfl
set_option maxRecDepth 100000 in
theorem wf_La_110 : Cond.fieldLink R_La 110 (F_Wo 0).1 (F_Wo 0).2.1 (F_Wo 0).2.2.1 ∈ um_AW := um_in 233 (by decide +kernel) rfl
theorem f_La_110 : um_Fd um_cl um_AW R_La 110 6 0 := ⟨R_Wo, F_Wo, 5, cl_Wo, by decide, Or.inl wf_La_110⟩
set_option maxRecDepth 100000 in
theorem wf_La_113 : Cond.fieldLink R_La 113 (F_Wo 2).1 (F_Wo 2).2.1 (F_Wo 2).2.2.1 ∈ um_AW := um_in 237 (by decide +kernel) rfl
theorem f_La_113 : um_Fd um_cl um_AW R_La 113 6 2 := ⟨R_Wo, F_Wo, 5, cl_Wo, by decide, Or.inl wf_La_113⟩
set_option maxRecDepth 100000 in
theorem wl_La_116 : Cond.methodLink R_La 116 M_Tr_kindOf.1 ∈ um_AW := um_in 430 (by decide +kernel) rfl
set_option maxRecDepth 100000 in
theorem wn_Tr_kindOf : Cond.instanceMethod M_Tr_kindOf.1 ∈ um_AW := um_in 376 (by decide +kernel) rfl
set_option maxRecDepth 100000 in
theorem wv_Tr_kindOf : Cond.selects R_Tr M_Tr_kindOf.1 M_Tr_kindOf.1 ∈ um_AW := um_in 377 (by decide +kernel) rfl
theorem g_La_116 : um_Iv um_cl um_AW R_La 116 1 M_Tr_kindOf 1 := ⟨⟨um_gd, wc_Tr_kindOf, wi_Tr, ⟨by decide, by decide, by decide +kernel⟩, Or.inl wl_La_116⟩, (R_Tr, F_Tr, 4), rfl, wn_Tr_kindOf, wv_Tr_kindOf⟩
set_option maxRecDepth 100000 in
theorem wl_La_120 : Cond.methodLink R_La 120 M_La_turnIf.1 ∈ um_AW := um_in 431 (by decide +kernel) rfl
set_option maxRecDepth 100000 in
theorem wn_La_turnIf : Cond.instanceMethod M_La_turnIf.1 ∈ um_AW := um_in 433 (by decide +kernel) rfl
set_option maxRecDepth 100000 in
theorem wv_La_turnIf : Cond.selects R_La M_La_turnIf.1 M_La_turnIf.1 ∈ um_AW := um_in 4 (by decide +kernel) rfl
theorem g_La_120 : um_Iv um_cl um_AW R_La 120 3 M_La_turnIf 3 := ⟨⟨um_gd, wc_La_turnIf, wi_La, ⟨by decide, by decide, by decide +kernel⟩, Or.inl wl_La_120⟩, (R_La, F_La, 9), rfl, wn_La_turnIf, wv_La_turnIf⟩
set_option maxRecDepth 100000 in
theorem wl_La_123 : Cond.methodLink R_La 123 M_La_turnWhile.1 ∈ um_AW := um_in 451 (by decide +kernel) rfl
set_option maxRecDepth 100000 in
theorem wn_La_turnWhile : Cond.instanceMethod M_La_turnWhile.1 ∈ um_AW := um_in 453 (by decide +kernel) rfl
set_option maxRecDepth 100000 in
theorem wv_La_turnWhile : Cond.selects R_La M_La_turnWhile.1 M_La_turnWhile.1 ∈ um_AW := um_in 7 (by decide +kernel) rfl
theorem g_La_123 : um_Iv um_cl um_AW R_La 123 3 M_La_turnWhile 3 := ⟨⟨um_gd, wc_La_turnWhile, wi_La, ⟨by decide, by decide, by decide +kernel⟩, Or.inl wl_La_123⟩, (R_La, F_La, 9), rfl, wn_La_turnWhile, wv_La_turnWhile⟩
set_option maxRecDepth 100000 in
theorem wl_La_126 : Cond.methodLink R_La 126 M_La_turnReturn.1 ∈ um_AW := um_in 477 (by decide +kernel) rfl
set_option maxRecDepth 100000 in
theorem wn_La_turnReturn : Cond.instanceMethod M_La_turnReturn.1 ∈ um_AW := um_in 479 (by decide +kernel) rfl
set_option maxRecDepth 100000 in
theorem wv_La_turnReturn : Cond.selects R_La M_La_turnReturn.1 M_La_turnReturn.1 ∈ um_AW := um_in 10 (by decide +kernel) rfl
theorem g_La_126 : um_Iv um_cl um_AW R_La 126 3 M_La_turnReturn 1 := ⟨⟨um_gd, wc_La_turnReturn, wi_La, ⟨by decide, by decide, by decide +kernel⟩, Or.inl wl_La_126⟩, (R_La, F_La, 9), rfl, wn_La_turnReturn, wv_La_turnReturn⟩
set_option maxRecDepth 100000 in
theorem wl_La_129 : Cond.methodLink R_La 129 M_La_turnBreak.1 ∈ um_AW := um_in 492 (by decide +kernel) rfl
set_option maxRecDepth 100000 in
theorem wn_La_turnBreak : Cond.instanceMethod M_La_turnBreak.1 ∈ um_AW := um_in 494 (by decide +kernel) rfl
set_option maxRecDepth 100000 in
theorem wv_La_turnBreak : Cond.selects R_La M_La_turnBreak.1 M_La_turnBreak.1 ∈ um_AW := um_in 12 (by decide +kernel) rfl
theorem g_La_129 : um_Iv um_cl um_AW R_La 129 3 M_La_turnBreak 1 := ⟨⟨um_gd, wc_La_turnBreak, wi_La, ⟨by decide, by decide, by decide +kernel⟩, Or.inl wl_La_129⟩, (R_La, F_La, 9), rfl, wn_La_turnBreak, wv_La_turnBreak⟩
set_option maxRecDepth 100000 in
theorem wl_La_132 : Cond.methodLink R_La 132 M_La_turnTry.1 ∈ um_AW := um_in 496 (by decide +kernel) rfl
set_option maxRecDepth 100000 in
theorem wn_La_turnTry : Cond.instanceMethod M_La_turnTry.1 ∈ um_AW := um_in 498 (by decide +kernel) rfl
set_option maxRecDepth 100000 in
theorem wv_La_turnTry : Cond.selects R_La M_La_turnTry.1 M_La_turnTry.1 ∈ um_AW := um_in 13 (by decide +kernel) rfl
theorem g_La_132 : um_Iv um_cl um_AW R_La 132 3 M_La_turnTry 3 := ⟨⟨um_gd, wc_La_turnTry, wi_La, ⟨by decide, by decide, by decide +kernel⟩, Or.inl wl_La_132⟩, (R_La, F_La, 9), rfl, wn_La_turnTry, wv_La_turnTry⟩
set_option maxRecDepth 100000 in
theorem wl_La_135 : Cond.methodLink R_La 135 M_La_turnApart.1 ∈ um_AW := um_in 512 (by decide +kernel) rfl
set_option maxRecDepth 100000 in
theorem wn_La_turnApart : Cond.instanceMethod M_La_turnApart.1 ∈ um_AW := um_in 514 (by decide +kernel) rfl
set_option maxRecDepth 100000 in
theorem wv_La_turnApart : Cond.selects R_La M_La_turnApart.1 M_La_turnApart.1 ∈ um_AW := um_in 16 (by decide +kernel) rfl
theorem g_La_135 : um_Iv um_cl um_AW R_La 135 3 M_La_turnApart 2 := ⟨⟨um_gd, wc_La_turnApart, wi_La, ⟨by decide, by decide, by decide +kernel⟩, Or.inl wl_La_135⟩, (R_La, F_La, 9), rfl, wn_La_turnApart, wv_La_turnApart⟩
set_option maxRecDepth 100000 in
theorem wl_La_138 : Cond.methodLink R_La 138 M_La_turnPlain.1 ∈ um_AW := um_in 539 (by decide +kernel) rfl
set_option maxRecDepth 100000 in
theorem wn_La_turnPlain : Cond.instanceMethod M_La_turnPlain.1 ∈ um_AW := um_in 541 (by decide +kernel) rfl
set_option maxRecDepth 100000 in
theorem wv_La_turnPlain : Cond.selects R_La M_La_turnPlain.1 M_La_turnPlain.1 ∈ um_AW := um_in 19 (by decide +kernel) rfl
theorem g_La_138 : um_Iv um_cl um_AW R_La 138 3 M_La_turnPlain 3 := ⟨⟨um_gd, wc_La_turnPlain, wi_La, ⟨by decide, by decide, by decide +kernel⟩, Or.inl wl_La_138⟩, (R_La, F_La, 9), rfl, wn_La_turnPlain, wv_La_turnPlain⟩
set_option maxRecDepth 100000 in
theorem wl_La_141 : Cond.methodLink R_La 141 M_Tr_part.1 ∈ um_AW := um_in 435 (by decide +kernel) rfl
set_option maxRecDepth 100000 in
theorem wn_Tr_part : Cond.instanceMethod M_Tr_part.1 ∈ um_AW := um_in 436 (by decide +kernel) rfl
set_option maxRecDepth 100000 in
theorem wv_Tr_part : Cond.selects R_Tr M_Tr_part.1 M_Tr_part.1 ∈ um_AW := um_in 437 (by decide +kernel) rfl
theorem g_La_141 : um_Iv um_cl um_AW R_La 141 1 M_Tr_part 2 := ⟨⟨um_gd, wc_Tr_part, wi_Tr, ⟨by decide, by decide, by decide +kernel⟩, Or.inl wl_La_141⟩, (R_Tr, F_Tr, 4), rfl, wn_Tr_part, wv_Tr_part⟩
set_option maxRecDepth 100000 in
theorem wl_La_144 : Cond.methodLink R_La 144 M_La_finish.1 ∈ um_AW := um_in 473 (by decide +kernel) rfl
set_option maxRecDepth 100000 in
theorem wn_La_finish : Cond.instanceMethod M_La_finish.1 ∈ um_AW := um_in 475 (by decide +kernel) rfl
set_option maxRecDepth 100000 in
theorem wv_La_finish : Cond.selects R_La M_La_finish.1 M_La_finish.1 ∈ um_AW := um_in 9 (by decide +kernel) rfl
theorem g_La_144 : um_Iv um_cl um_AW R_La 144 3 M_La_finish 3 := ⟨⟨um_gd, wc_La_finish, wi_La, ⟨by decide, by decide, by decide +kernel⟩, Or.inl wl_La_144⟩, (R_La, F_La, 9), rfl, wn_La_finish, wv_La_finish⟩
set_option maxRecDepth 100000 in
theorem wl_La_147 : Cond.methodLink R_La 147 M_Wo_pop.1 ∈ um_AW := um_in 447 (by decide +kernel) rfl
set_option maxRecDepth 100000 in
theorem wn_Wo_pop : Cond.instanceMethod M_Wo_pop.1 ∈ um_AW := um_in 448 (by decide +kernel) rfl
set_option maxRecDepth 100000 in
theorem wv_Wo_pop : Cond.selects R_Wo M_Wo_pop.1 M_Wo_pop.1 ∈ um_AW := um_in 449 (by decide +kernel) rfl
theorem g_La_147 : um_Iv um_cl um_AW R_La 147 6 M_Wo_pop 0 := ⟨⟨um_gd, wc_Wo_pop, wi_Wo, ⟨by decide, by decide, by decide +kernel⟩, Or.inl wl_La_147⟩, (R_Wo, F_Wo, 5), rfl, wn_Wo_pop, wv_Wo_pop⟩
set_option maxRecDepth 100000 in
theorem wl_La_150 : Cond.methodLink R_La 150 M_La_partsThen.1 ∈ um_AW := um_in 543 (by decide +kernel) rfl
set_option maxRecDepth 100000 in
theorem wn_La_partsThen : Cond.instanceMethod M_La_partsThen.1 ∈ um_AW := um_in 545 (by decide +kernel) rfl
set_option maxRecDepth 100000 in
theorem wv_La_partsThen : Cond.selects R_La M_La_partsThen.1 M_La_partsThen.1 ∈ um_AW := um_in 20 (by decide +kernel) rfl
theorem g_La_150 : um_Iv um_cl um_AW R_La 150 3 M_La_partsThen 6 := ⟨⟨um_gd, wc_La_partsThen, wi_La, ⟨by decide, by decide, by decide +kernel⟩, Or.inl wl_La_150⟩, (R_La, F_La, 9), rfl, wn_La_partsThen, wv_La_partsThen⟩
set_option maxRecDepth 100000 in
theorem wf_La_154 : Cond.fieldLink R_La 154 (F_Wo 1).1 (F_Wo 1).2.1 (F_Wo 1).2.2.1 ∈ um_AW := um_in 235 (by decide +kernel) rfl
theorem f_La_154 : um_Fd um_cl um_AW R_La 154 6 1 := ⟨R_Wo, F_Wo, 5, cl_Wo, by decide, Or.inl wf_La_154⟩
set_option maxRecDepth 100000 in
theorem wf_La_157 : Cond.fieldLink R_La 157 (F_Wo 3).1 (F_Wo 3).2.1 (F_Wo 3).2.2.1 ∈ um_AW := um_in 239 (by decide +kernel) rfl
theorem f_La_157 : um_Fd um_cl um_AW R_La 157 6 3 := ⟨R_Wo, F_Wo, 5, cl_Wo, by decide, Or.inl wf_La_157⟩
set_option maxRecDepth 100000 in
theorem wl_La_160 : Cond.methodLink R_La 160 M_La_setGoal.1 ∈ um_AW := um_in 443 (by decide +kernel) rfl
set_option maxRecDepth 100000 in
theorem wn_La_setGoal : Cond.instanceMethod M_La_setGoal.1 ∈ um_AW := um_in 445 (by decide +kernel) rfl
set_option maxRecDepth 100000 in
theorem wv_La_setGoal : Cond.selects R_La M_La_setGoal.1 M_La_setGoal.1 ∈ um_AW := um_in 6 (by decide +kernel) rfl
theorem g_La_160 : um_Iv um_cl um_AW R_La 160 3 M_La_setGoal 2 := ⟨⟨um_gd, wc_La_setGoal, wi_La, ⟨by decide, by decide, by decide +kernel⟩, Or.inl wl_La_160⟩, (R_La, F_La, 9), rfl, wn_La_setGoal, wv_La_setGoal⟩
set_option maxRecDepth 100000 in
theorem wl_La_163 : Cond.methodLink R_La 163 M_Sc_openLoop.1 ∈ um_AW := um_in 455 (by decide +kernel) rfl
set_option maxRecDepth 100000 in
theorem wn_Sc_openLoop : Cond.instanceMethod M_Sc_openLoop.1 ∈ um_AW := um_in 456 (by decide +kernel) rfl
set_option maxRecDepth 100000 in
theorem wv_Sc_openLoop : Cond.selects R_Sc M_Sc_openLoop.1 M_Sc_openLoop.1 ∈ um_AW := um_in 457 (by decide +kernel) rfl
theorem g_La_163 : um_Iv um_cl um_AW R_La 163 5 M_Sc_openLoop 1 := ⟨⟨um_gd, wc_Sc_openLoop, wi_Sc, ⟨by decide, by decide, by decide +kernel⟩, Or.inl wl_La_163⟩, (R_Sc, F_Sc, 10), rfl, wn_Sc_openLoop, wv_Sc_openLoop⟩
set_option maxRecDepth 100000 in
theorem wl_La_166 : Cond.methodLink R_La 166 M_Sc_scopeOf.1 ∈ um_AW := um_in 469 (by decide +kernel) rfl
set_option maxRecDepth 100000 in
theorem ws_Sc_scopeOf : Cond.static M_Sc_scopeOf.1 ∈ um_AW := um_in 464 (by decide +kernel) rfl
theorem g_La_166 : um_Is um_AW R_La 166 M_Sc_scopeOf 1 := ⟨⟨um_gd, wc_Sc_scopeOf, wi_Sc, ⟨by decide, by decide, by decide +kernel⟩, Or.inl wl_La_166⟩, ws_Sc_scopeOf⟩
set_option maxRecDepth 100000 in
theorem wl_La_169 : Cond.methodLink R_La 169 M_La_behind.1 ∈ um_AW := um_in 470 (by decide +kernel) rfl
set_option maxRecDepth 100000 in
theorem ws_La_behind : Cond.static M_La_behind.1 ∈ um_AW := um_in 471 (by decide +kernel) rfl
theorem g_La_169 : um_Is um_AW R_La 169 M_La_behind 1 := ⟨⟨um_gd, wc_La_behind, wi_La, ⟨by decide, by decide, by decide +kernel⟩, Or.inl wl_La_169⟩, ws_La_behind⟩
set_option maxRecDepth 100000 in
theorem wf_La_172 : Cond.fieldLink R_La 172 (F_Sc 6).1 (F_Sc 6).2.1 (F_Sc 6).2.2.1 ∈ um_AW := um_in 201 (by decide +kernel) rfl
theorem f_La_172 : um_Fd um_cl um_AW R_La 172 5 6 := ⟨R_Sc, F_Sc, 10, cl_Sc, by decide, Or.inl wf_La_172⟩
set_option maxRecDepth 100000 in
theorem wl_La_175 : Cond.methodLink R_La 175 M_Sc_finallyAround.1 ∈ um_AW := um_in 481 (by decide +kernel) rfl
set_option maxRecDepth 100000 in
theorem wn_Sc_finallyAround : Cond.instanceMethod M_Sc_finallyAround.1 ∈ um_AW := um_in 482 (by decide +kernel) rfl
set_option maxRecDepth 100000 in
theorem wv_Sc_finallyAround : Cond.selects R_Sc M_Sc_finallyAround.1 M_Sc_finallyAround.1 ∈ um_AW := um_in 483 (by decide +kernel) rfl
theorem g_La_175 : um_Iv um_cl um_AW R_La 175 5 M_Sc_finallyAround 2 := ⟨⟨um_gd, wc_Sc_finallyAround, wi_Sc, ⟨by decide, by decide, by decide +kernel⟩, Or.inl wl_La_175⟩, (R_Sc, F_Sc, 10), rfl, wn_Sc_finallyAround, wv_Sc_finallyAround⟩
set_option maxRecDepth 100000 in
theorem wl_La_178 : Cond.methodLink R_La 178 M_La_leave.1 ∈ um_AW := um_in 488 (by decide +kernel) rfl
set_option maxRecDepth 100000 in
theorem wn_La_leave : Cond.instanceMethod M_La_leave.1 ∈ um_AW := um_in 490 (by decide +kernel) rfl
set_option maxRecDepth 100000 in
theorem wv_La_leave : Cond.selects R_La M_La_leave.1 M_La_leave.1 ∈ um_AW := um_in 11 (by decide +kernel) rfl
theorem g_La_178 : um_Iv um_cl um_AW R_La 178 3 M_La_leave 2 := ⟨⟨um_gd, wc_La_leave, wi_La, ⟨by decide, by decide, by decide +kernel⟩, Or.inl wl_La_178⟩, (R_La, F_La, 9), rfl, wn_La_leave, wv_La_leave⟩
set_option maxRecDepth 100000 in
theorem wf_La_181 : Cond.fieldLink R_La 181 (F_Sc 3).1 (F_Sc 3).2.1 (F_Sc 3).2.2.1 ∈ um_AW := um_in 195 (by decide +kernel) rfl
theorem f_La_181 : um_Fd um_cl um_AW R_La 181 5 3 := ⟨R_Sc, F_Sc, 10, cl_Sc, by decide, Or.inl wf_La_181⟩
set_option maxRecDepth 100000 in
theorem wf_La_184 : Cond.fieldLink R_La 184 (F_Sc 0).1 (F_Sc 0).2.1 (F_Sc 0).2.2.1 ∈ um_AW := um_in 189 (by decide +kernel) rfl
theorem f_La_184 : um_Fd um_cl um_AW R_La 184 5 0 := ⟨R_Sc, F_Sc, 10, cl_Sc, by decide, Or.inl wf_La_184⟩
set_option maxRecDepth 100000 in
theorem wf_La_187 : Cond.fieldLink R_La 187 (F_Sc 2).1 (F_Sc 2).2.1 (F_Sc 2).2.2.1 ∈ um_AW := um_in 193 (by decide +kernel) rfl
theorem f_La_187 : um_Fd um_cl um_AW R_La 187 5 2 := ⟨R_Sc, F_Sc, 10, cl_Sc, by decide, Or.inl wf_La_187⟩
set_option maxRecDepth 100000 in
theorem wl_La_190 : Cond.methodLink R_La 190 M_Sc_openTry.1 ∈ um_AW := um_in 500 (by decide +kernel) rfl
set_option maxRecDepth 100000 in
theorem wn_Sc_openTry : Cond.instanceMethod M_Sc_openTry.1 ∈ um_AW := um_in 501 (by decide +kernel) rfl
set_option maxRecDepth 100000 in
theorem wv_Sc_openTry : Cond.selects R_Sc M_Sc_openTry.1 M_Sc_openTry.1 ∈ um_AW := um_in 502 (by decide +kernel) rfl
theorem g_La_190 : um_Iv um_cl um_AW R_La 190 5 M_Sc_openTry 3 := ⟨⟨um_gd, wc_Sc_openTry, wi_Sc, ⟨by decide, by decide, by decide +kernel⟩, Or.inl wl_La_190⟩, (R_Sc, F_Sc, 10), rfl, wn_Sc_openTry, wv_Sc_openTry⟩
set_option maxRecDepth 100000 in
theorem wl_La_194 : Cond.methodLink R_La 194 M_La_beginFinally.1 ∈ um_AW := um_in 504 (by decide +kernel) rfl
set_option maxRecDepth 100000 in
theorem wn_La_beginFinally : Cond.instanceMethod M_La_beginFinally.1 ∈ um_AW := um_in 506 (by decide +kernel) rfl
set_option maxRecDepth 100000 in
theorem wv_La_beginFinally : Cond.selects R_La M_La_beginFinally.1 M_La_beginFinally.1 ∈ um_AW := um_in 14 (by decide +kernel) rfl
theorem g_La_194 : um_Iv um_cl um_AW R_La 194 3 M_La_beginFinally 1 := ⟨⟨um_gd, wc_La_beginFinally, wi_La, ⟨by decide, by decide, by decide +kernel⟩, Or.inl wl_La_194⟩, (R_La, F_La, 9), rfl, wn_La_beginFinally, wv_La_beginFinally⟩
set_option maxRecDepth 100000 in
theorem wl_La_197 : Cond.methodLink R_La 197 M_La_setDone.1 ∈ um_AW := um_in 508 (by decide +kernel) rfl
set_option maxRecDepth 100000 in
theorem wn_La_setDone : Cond.instanceMethod M_La_setDone.1 ∈ um_AW := um_in 510 (by decide +kernel) rfl
set_option maxRecDepth 100000 in
theorem wv_La_setDone : Cond.selects R_La M_La_setDone.1 M_La_setDone.1 ∈ um_AW := um_in 15 (by decide +kernel) rfl
theorem g_La_197 : um_Iv um_cl um_AW R_La 197 3 M_La_setDone 1 := ⟨⟨um_gd, wc_La_setDone, wi_La, ⟨by decide, by decide, by decide +kernel⟩, Or.inl wl_La_197⟩, (R_La, F_La, 9), rfl, wn_La_setDone, wv_La_setDone⟩
set_option maxRecDepth 100000 in
theorem wl_La_200 : Cond.methodLink R_La 200 M_La_beginCatch.1 ∈ um_AW := um_in 516 (by decide +kernel) rfl
set_option maxRecDepth 100000 in
theorem wn_La_beginCatch : Cond.instanceMethod M_La_beginCatch.1 ∈ um_AW := um_in 518 (by decide +kernel) rfl
set_option maxRecDepth 100000 in
theorem wv_La_beginCatch : Cond.selects R_La M_La_beginCatch.1 M_La_beginCatch.1 ∈ um_AW := um_in 17 (by decide +kernel) rfl
theorem g_La_200 : um_Iv um_cl um_AW R_La 200 3 M_La_beginCatch 2 := ⟨⟨um_gd, wc_La_beginCatch, wi_La, ⟨by decide, by decide, by decide +kernel⟩, Or.inl wl_La_200⟩, (R_La, F_La, 9), rfl, wn_La_beginCatch, wv_La_beginCatch⟩
set_option maxRecDepth 100000 in
theorem wl_La_203 : Cond.methodLink R_La 203 M_La_beginAny.1 ∈ um_AW := um_in 532 (by decide +kernel) rfl
set_option maxRecDepth 100000 in
theorem wn_La_beginAny : Cond.instanceMethod M_La_beginAny.1 ∈ um_AW := um_in 534 (by decide +kernel) rfl
set_option maxRecDepth 100000 in
theorem wv_La_beginAny : Cond.selects R_La M_La_beginAny.1 M_La_beginAny.1 ∈ um_AW := um_in 18 (by decide +kernel) rfl
theorem g_La_203 : um_Iv um_cl um_AW R_La 203 3 M_La_beginAny 1 := ⟨⟨um_gd, wc_La_beginAny, wi_La, ⟨by decide, by decide, by decide +kernel⟩, Or.inl wl_La_203⟩, (R_La, F_La, 9), rfl, wn_La_beginAny, wv_La_beginAny⟩
set_option maxRecDepth 100000 in
theorem wf_La_206 : Cond.fieldLink R_La 206 (F_Sc 5).1 (F_Sc 5).2.1 (F_Sc 5).2.2.1 ∈ um_AW := um_in 199 (by decide +kernel) rfl
theorem f_La_206 : um_Fd um_cl um_AW R_La 206 5 5 := ⟨R_Sc, F_Sc, 10, cl_Sc, by decide, Or.inl wf_La_206⟩
set_option maxRecDepth 100000 in
theorem wl_La_209 : Cond.methodLink R_La 209 M_Tr_catchAfter.1 ∈ um_AW := um_in 520 (by decide +kernel) rfl
set_option maxRecDepth 100000 in
theorem wn_Tr_catchAfter : Cond.instanceMethod M_Tr_catchAfter.1 ∈ um_AW := um_in 521 (by decide +kernel) rfl
set_option maxRecDepth 100000 in
theorem wv_Tr_catchAfter : Cond.selects R_Tr M_Tr_catchAfter.1 M_Tr_catchAfter.1 ∈ um_AW := um_in 522 (by decide +kernel) rfl
theorem g_La_209 : um_Iv um_cl um_AW R_La 209 1 M_Tr_catchAfter 2 := ⟨⟨um_gd, wc_Tr_catchAfter, wi_Tr, ⟨by decide, by decide, by decide +kernel⟩, Or.inl wl_La_209⟩, (R_Tr, F_Tr, 4), rfl, wn_Tr_catchAfter, wv_Tr_catchAfter⟩
set_option maxRecDepth 100000 in
theorem wf_La_212 : Cond.fieldLink R_La 212 (F_Sc 4).1 (F_Sc 4).2.1 (F_Sc 4).2.2.1 ∈ um_AW := um_in 197 (by decide +kernel) rfl
theorem f_La_212 : um_Fd um_cl um_AW R_La 212 5 4 := ⟨R_Sc, F_Sc, 10, cl_Sc, by decide, Or.inl wf_La_212⟩
set_option maxRecDepth 100000 in
theorem wl_La_215 : Cond.methodLink R_La 215 M_Ha_add.1 ∈ um_AW := um_in 525 (by decide +kernel) rfl
set_option maxRecDepth 100000 in
theorem wn_Ha_add : Cond.instanceMethod M_Ha_add.1 ∈ um_AW := um_in 526 (by decide +kernel) rfl
set_option maxRecDepth 100000 in
theorem wv_Ha_add : Cond.selects R_Ha M_Ha_add.1 M_Ha_add.1 ∈ um_AW := um_in 527 (by decide +kernel) rfl
theorem g_La_215 : um_Iv um_cl um_AW R_La 215 7 M_Ha_add 4 := ⟨⟨um_gd, wc_Ha_add, wi_Ha, ⟨by decide, by decide, by decide +kernel⟩, Or.inl wl_La_215⟩, (R_Ha, F_Ha, 4), rfl, wn_Ha_add, wv_Ha_add⟩
set_option maxRecDepth 100000 in
theorem wf_La_219 : Cond.fieldLink R_La 219 (F_Co 8).1 (F_Co 8).2.1 (F_Co 8).2.2.1 ∈ um_AW := um_in 156 (by decide +kernel) rfl
theorem f_La_219 : um_Fd um_cl um_AW R_La 219 2 8 := ⟨R_Co, F_Co, 9, cl_Co, by decide, Or.inl wf_La_219⟩
theorem fw_La_219 : um_Fw um_cl um_AW R_La 219 2 8 .int := ⟨R_Co, F_Co, 9, cl_Co, by decide, Or.inl wf_La_219, rfl, by decide +kernel⟩
set_option maxRecDepth 100000 in
theorem wm_La_222 : Cond.methodLink R_La 222 Lib.Math.max.name ∈ um_AW := um_in 536 (by decide +kernel) rfl
set_option maxRecDepth 100000 in
theorem wm_static : Cond.static Lib.Math.max.name ∈ um_AW := um_in 537 (by decide +kernel) rfl
set_option maxRecDepth 100000 in
theorem wm_init : Cond.initialized "java/lang/Math" ∈ um_AW := um_in 83 (by decide +kernel) rfl
set_option maxRecDepth 100000 in
theorem wm_code : Cond.code Lib.Math.max.name Lib.Math.max.code 2 (some .int) ∈ um_AW := um_in 538 (by decide +kernel) rfl
theorem mx_La_222 : Cond.methodLink R_La 222 Lib.Math.max.name ∈ um_AW ∧ Cond.static Lib.Math.max.name ∈ um_AW ∧ Cond.initialized "java/lang/Math" ∈ um_AW ∧ Cond.code Lib.Math.max.name Lib.Math.max.code 2 (some .int) ∈ um_AW := ⟨wm_La_222, wm_static, wm_init, wm_code⟩
set_option maxRecDepth 100000 in
theorem wf_La_227 : Cond.fieldLink R_La 227 (F_Co 7).1 (F_Co 7).2.1 (F_Co 7).2.2.1 ∈ um_AW := um_in 153 (by decide +kernel) rfl
theorem f_La_227 : um_Fd um_cl um_AW R_La 227 2 7 := ⟨R_Co, F_Co, 9, cl_Co, by decide, Or.inl wf_La_227⟩
theorem fw_La_227 : um_Fw um_cl um_AW R_La 227 2 7 .int := ⟨R_Co, F_Co, 9, cl_Co, by decide, Or.inl wf_La_227, rfl, by decide +kernel⟩
set_option maxRecDepth 100000 in
theorem wf_La_230 : Cond.fieldLink R_La 230 (F_Co 0).1 (F_Co 0).2.1 (F_Co 0).2.2.1 ∈ um_AW := um_in 130 (by decide +kernel) rfl
theorem f_La_230 : um_Fd um_cl um_AW R_La 230 2 0 := ⟨R_Co, F_Co, 9, cl_Co, by decide, Or.inl wf_La_230⟩
set_option maxRecDepth 100000 in
theorem wf_La_233 : Cond.fieldLink R_La 233 (F_Co 1).1 (F_Co 1).2.1 (F_Co 1).2.2.1 ∈ um_AW := um_in 134 (by decide +kernel) rfl
theorem f_La_233 : um_Fd um_cl um_AW R_La 233 2 1 := ⟨R_Co, F_Co, 9, cl_Co, by decide, Or.inl wf_La_233⟩
set_option maxRecDepth 100000 in
theorem wf_La_236 : Cond.fieldLink R_La 236 (F_Co 2).1 (F_Co 2).2.1 (F_Co 2).2.2.1 ∈ um_AW := um_in 136 (by decide +kernel) rfl
theorem f_La_236 : um_Fd um_cl um_AW R_La 236 2 2 := ⟨R_Co, F_Co, 9, cl_Co, by decide, Or.inl wf_La_236⟩
set_option maxRecDepth 100000 in
theorem wf_La_237 : Cond.fieldLink R_La 237 (F_Ha 0).1 (F_Ha 0).2.1 (F_Ha 0).2.2.1 ∈ um_AW := um_in 260 (by decide +kernel) rfl
theorem f_La_237 : um_Fd um_cl um_AW R_La 237 7 0 := ⟨R_Ha, F_Ha, 4, cl_Ha, by decide, Or.inl wf_La_237⟩
set_option maxRecDepth 100000 in
theorem wl_La_239 : Cond.methodLink R_La 239 M_Sc_lookAt.1 ∈ um_AW := um_in 551 (by decide +kernel) rfl
set_option maxRecDepth 100000 in
theorem wn_Sc_lookAt : Cond.instanceMethod M_Sc_lookAt.1 ∈ um_AW := um_in 552 (by decide +kernel) rfl
set_option maxRecDepth 100000 in
theorem wv_Sc_lookAt : Cond.selects R_Sc M_Sc_lookAt.1 M_Sc_lookAt.1 ∈ um_AW := um_in 553 (by decide +kernel) rfl
theorem g_La_239 : um_Iv um_cl um_AW R_La 239 5 M_Sc_lookAt 1 := ⟨⟨um_gd, wc_Sc_lookAt, wi_Sc, ⟨by decide, by decide, by decide +kernel⟩, Or.inl wl_La_239⟩, (R_Sc, F_Sc, 10), rfl, wn_Sc_lookAt, wv_Sc_lookAt⟩
set_option maxRecDepth 100000 in
theorem wl_La_242 : Cond.methodLink R_La 242 M_La_takesFrom.1 ∈ um_AW := um_in 559 (by decide +kernel) rfl
set_option maxRecDepth 100000 in
theorem wn_La_takesFrom : Cond.instanceMethod M_La_takesFrom.1 ∈ um_AW := um_in 561 (by decide +kernel) rfl
set_option maxRecDepth 100000 in
theorem wv_La_takesFrom : Cond.selects R_La M_La_takesFrom.1 M_La_takesFrom.1 ∈ um_AW := um_in 22 (by decide +kernel) rfl
theorem g_La_242 : um_Iv um_cl um_AW R_La 242 3 M_La_takesFrom 2 := ⟨⟨um_gd, wc_La_takesFrom, wi_La, ⟨by decide, by decide, by decide +kernel⟩, Or.inl wl_La_242⟩, (R_La, F_La, 9), rfl, wn_La_takesFrom, wv_La_takesFrom⟩
set_option maxRecDepth 100000 in
theorem wl_La_246 : Cond.methodLink R_La 246 M_La_addRow.1 ∈ um_AW := um_in 564 (by decide +kernel) rfl
set_option maxRecDepth 100000 in
theorem wn_La_addRow : Cond.instanceMethod M_La_addRow.1 ∈ um_AW := um_in 566 (by decide +kernel) rfl
set_option maxRecDepth 100000 in
theorem wv_La_addRow : Cond.selects R_La M_La_addRow.1 M_La_addRow.1 ∈ um_AW := um_in 23 (by decide +kernel) rfl
theorem g_La_246 : um_Iv um_cl um_AW R_La 246 3 M_La_addRow 3 := ⟨⟨um_gd, wc_La_addRow, wi_La, ⟨by decide, by decide, by decide +kernel⟩, Or.inl wl_La_246⟩, (R_La, F_La, 9), rfl, wn_La_addRow, wv_La_addRow⟩
set_option maxRecDepth 100000 in
theorem wl_La_249 : Cond.methodLink R_La 249 M_Sc_partLookedAt.1 ∈ um_AW := um_in 563 (by decide +kernel) rfl
set_option maxRecDepth 100000 in
theorem wn_Sc_partLookedAt : Cond.instanceMethod M_Sc_partLookedAt.1 ∈ um_AW := um_in 556 (by decide +kernel) rfl
set_option maxRecDepth 100000 in
theorem wv_Sc_partLookedAt : Cond.selects R_Sc M_Sc_partLookedAt.1 M_Sc_partLookedAt.1 ∈ um_AW := um_in 557 (by decide +kernel) rfl
theorem g_La_249 : um_Iv um_cl um_AW R_La 249 5 M_Sc_partLookedAt 1 := ⟨⟨um_gd, wc_Sc_partLookedAt, wi_Sc, ⟨by decide, by decide, by decide +kernel⟩, Or.inl wl_La_249⟩, (R_Sc, F_Sc, 10), rfl, wn_Sc_partLookedAt, wv_Sc_partLookedAt⟩
set_option maxRecDepth 100000 in
theorem wf_La_252 : Cond.fieldLink R_La 252 (F_Ha 1).1 (F_Ha 1).2.1 (F_Ha 1).2.2.1 ∈ um_AW := um_in 262 (by decide +kernel) rfl
theorem f_La_252 : um_Fd um_cl um_AW R_La 252 7 1 := ⟨R_Ha, F_Ha, 4, cl_Ha, by decide, Or.inl wf_La_252⟩
set_option maxRecDepth 100000 in
theorem wf_La_255 : Cond.fieldLink R_La 255 (F_Co 6).1 (F_Co 6).2.1 (F_Co 6).2.2.1 ∈ um_AW := um_in 150 (by decide +kernel) rfl
theorem f_La_255 : um_Fd um_cl um_AW R_La 255 2 6 := ⟨R_Co, F_Co, 9, cl_Co, by decide, Or.inl wf_La_255⟩
theorem fw_La_255 : um_Fw um_cl um_AW R_La 255 2 6 .int := ⟨R_Co, F_Co, 9, cl_Co, by decide, Or.inl wf_La_255, rfl, by decide +kernel⟩
set_option maxRecDepth 100000 in
theorem wf_La_258 : Cond.fieldLink R_La 258 (F_Co 4).1 (F_Co 4).2.1 (F_Co 4).2.2.1 ∈ um_AW := um_in 144 (by decide +kernel) rfl
theorem f_La_258 : um_Fd um_cl um_AW R_La 258 2 4 := ⟨R_Co, F_Co, 9, cl_Co, by decide, Or.inl wf_La_258⟩
set_option maxRecDepth 100000 in
theorem wf_La_261 : Cond.fieldLink R_La 261 (F_Ha 2).1 (F_Ha 2).2.1 (F_Ha 2).2.2.1 ∈ um_AW := um_in 264 (by decide +kernel) rfl
theorem f_La_261 : um_Fd um_cl um_AW R_La 261 7 2 := ⟨R_Ha, F_Ha, 4, cl_Ha, by decide, Or.inl wf_La_261⟩
set_option maxRecDepth 100000 in
theorem k_La_264 : Cond.constant R_La 264 (-2147483648) ∈ um_AW := um_in 568 (by decide +kernel) rfl
set_option maxRecDepth 100000 in
theorem k_La_265 : Cond.constant R_La 265 2147483647 ∈ um_AW := um_in 569 (by decide +kernel) rfl
set_option maxRecDepth 100000 in
theorem wf_Ma_9 : Cond.fieldLink R_Ma 9 (F_Ma 1).1 (F_Ma 1).2.1 (F_Ma 1).2.2.1 ∈ um_AW := um_in 311 (by decide +kernel) rfl
theorem f_Ma_9 : um_Fd um_cl um_AW R_Ma 9 4 1 := ⟨R_Ma, F_Ma, 11, cl_Ma, by decide, Or.inl wf_Ma_9⟩
set_option maxRecDepth 100000 in
theorem wf_Ma_15 : Cond.fieldLink R_Ma 15 (F_Ma 2).1 (F_Ma 2).2.1 (F_Ma 2).2.2.1 ∈ um_AW := um_in 313 (by decide +kernel) rfl
theorem f_Ma_15 : um_Fd um_cl um_AW R_Ma 15 4 2 := ⟨R_Ma, F_Ma, 11, cl_Ma, by decide, Or.inl wf_Ma_15⟩
set_option maxRecDepth 100000 in
theorem wf_Ma_18 : Cond.fieldLink R_Ma 18 (F_Ma 3).1 (F_Ma 3).2.1 (F_Ma 3).2.2.1 ∈ um_AW := um_in 315 (by decide +kernel) rfl
theorem f_Ma_18 : um_Fd um_cl um_AW R_Ma 18 4 3 := ⟨R_Ma, F_Ma, 11, cl_Ma, by decide, Or.inl wf_Ma_18⟩
set_option maxRecDepth 100000 in
theorem wf_Ma_21 : Cond.fieldLink R_Ma 21 (F_Ma 5).1 (F_Ma 5).2.1 (F_Ma 5).2.2.1 ∈ um_AW := um_in 319 (by decide +kernel) rfl
theorem f_Ma_21 : um_Fd um_cl um_AW R_Ma 21 4 5 := ⟨R_Ma, F_Ma, 11, cl_Ma, by decide, Or.inl wf_Ma_21⟩
set_option maxRecDepth 100000 in
theorem wf_Ma_24 : Cond.fieldLink R_Ma 24 (F_Ma 7).1 (F_Ma 7).2.1 (F_Ma 7).2.2.1 ∈ um_AW := um_in 321 (by decide +kernel) rfl
theorem f_Ma_24 : um_Fd um_cl um_AW R_Ma 24 4 7 := ⟨R_Ma, F_Ma, 11, cl_Ma, by decide, Or.inl wf_Ma_24⟩
set_option maxRecDepth 100000 in
theorem wf_Ma_27 : Cond.fieldLink R_Ma 27 (F_Ma 8).1 (F_Ma 8).2.1 (F_Ma 8).2.2.1 ∈ um_AW := um_in 322 (by decide +kernel) rfl
theorem f_Ma_27 : um_Fd um_cl um_AW R_Ma 27 4 8 := ⟨R_Ma, F_Ma, 11, cl_Ma, by decide, Or.inl wf_Ma_27⟩
set_option maxRecDepth 100000 in
theorem wf_Ma_30 : Cond.fieldLink R_Ma 30 (F_Ma 0).1 (F_Ma 0).2.1 (F_Ma 0).2.2.1 ∈ um_AW := um_in 310 (by decide +kernel) rfl
theorem f_Ma_30 : um_Fd um_cl um_AW R_Ma 30 4 0 := ⟨R_Ma, F_Ma, 11, cl_Ma, by decide, Or.inl wf_Ma_30⟩
set_option maxRecDepth 100000 in
theorem wf_Ma_34 : Cond.fieldLink R_Ma 34 (F_Ma 4).1 (F_Ma 4).2.1 (F_Ma 4).2.2.1 ∈ um_AW := um_in 317 (by decide +kernel) rfl
theorem f_Ma_34 : um_Fd um_cl um_AW R_Ma 34 4 4 := ⟨R_Ma, F_Ma, 11, cl_Ma, by decide, Or.inl wf_Ma_34⟩
theorem fw_Ma_34 : um_Fw um_cl um_AW R_Ma 34 4 4 .boolean := ⟨R_Ma, F_Ma, 11, cl_Ma, by decide, Or.inl wf_Ma_34, rfl, by decide +kernel⟩
set_option maxRecDepth 100000 in
theorem wl_Ma_38 : Cond.methodLink R_Ma 38 M_Ar_fill_AII.1 ∈ um_AW := um_in 595 (by decide +kernel) rfl
set_option maxRecDepth 100000 in
theorem ws_Ar_fill_AII : Cond.static M_Ar_fill_AII.1 ∈ um_AW := um_in 104 (by decide +kernel) rfl
theorem g_Ma_38 : um_Is um_AW R_Ma 38 M_Ar_fill_AII 2 := ⟨⟨um_gd, wc_Ar_fill_AII, wi_Ar, ⟨by decide, by decide, by decide +kernel⟩, Or.inl wl_Ma_38⟩, ws_Ar_fill_AII⟩
set_option maxRecDepth 100000 in
theorem wf_Ma_44 : Cond.fieldLink R_Ma 44 (F_Ma 6).1 (F_Ma 6).2.1 (F_Ma 6).2.2.1 ∈ um_AW := um_in 320 (by decide +kernel) rfl
theorem f_Ma_44 : um_Fd um_cl um_AW R_Ma 44 4 6 := ⟨R_Ma, F_Ma, 11, cl_Ma, by decide, Or.inl wf_Ma_44⟩
theorem fw_Ma_44 : um_Fw um_cl um_AW R_Ma 44 4 6 .int := ⟨R_Ma, F_Ma, 11, cl_Ma, by decide, Or.inl wf_Ma_44, rfl, by decide +kernel⟩
set_option maxRecDepth 100000 in
theorem wf_Ma_48 : Cond.fieldLink R_Ma 48 (F_Ma 9).1 (F_Ma 9).2.1 (F_Ma 9).2.2.1 ∈ um_AW := um_in 323 (by decide +kernel) rfl
theorem f_Ma_48 : um_Fd um_cl um_AW R_Ma 48 4 9 := ⟨R_Ma, F_Ma, 11, cl_Ma, by decide, Or.inl wf_Ma_48⟩
theorem fw_Ma_48 : um_Fw um_cl um_AW R_Ma 48 4 9 .int := ⟨R_Ma, F_Ma, 11, cl_Ma, by decide, Or.inl wf_Ma_48, rfl, by decide +kernel⟩
set_option maxRecDepth 100000 in
theorem wf_Ma_51 : Cond.fieldLink R_Ma 51 (F_Ma 10).1 (F_Ma 10).2.1 (F_Ma 10).2.2.1 ∈ um_AW := um_in 324 (by decide +kernel) rfl
theorem f_Ma_51 : um_Fd um_cl um_AW R_Ma 51 4 10 := ⟨R_Ma, F_Ma, 11, cl_Ma, by decide, Or.inl wf_Ma_51⟩
theorem fw_Ma_51 : um_Fw um_cl um_AW R_Ma 51 4 10 .int := ⟨R_Ma, F_Ma, 11, cl_Ma, by decide, Or.inl wf_Ma_51, rfl, by decide +kernel⟩
set_option maxRecDepth 100000 in
theorem wl_Ma_54 : Cond.methodLink R_Ma 54 M_Ma_doStep.1 ∈ um_AW := um_in 596 (by decide +kernel) rfl
set_option maxRecDepth 100000 in
theorem wn_Ma_doStep : Cond.instanceMethod M_Ma_doStep.1 ∈ um_AW := um_in 598 (by decide +kernel) rfl
set_option maxRecDepth 100000 in
theorem wv_Ma_doStep : Cond.selects R_Ma M_Ma_doStep.1 M_Ma_doStep.1 ∈ um_AW := um_in 25 (by decide +kernel) rfl
theorem g_Ma_54 : um_Iv um_cl um_AW R_Ma 54 4 M_Ma_doStep 0 := ⟨⟨um_gd, wc_Ma_doStep, wi_Ma, ⟨by decide, by decide, by decide +kernel⟩, Or.inl wl_Ma_54⟩, (R_Ma, F_Ma, 11), rfl, wn_Ma_doStep, wv_Ma_doStep⟩
set_option maxRecDepth 100000 in
theorem wf_Ma_57 : Cond.fieldLink R_Ma 57 (F_Co 0).1 (F_Co 0).2.1 (F_Co 0).2.2.1 ∈ um_AW := um_in 128 (by decide +kernel) rfl
theorem f_Ma_57 : um_Fd um_cl um_AW R_Ma 57 2 0 := ⟨R_Co, F_Co, 9, cl_Co, by decide, Or.inl wf_Ma_57⟩
set_option maxRecDepth 100000 in
theorem wf_Ma_62 : Cond.fieldLink R_Ma 62 (F_Co 1).1 (F_Co 1).2.1 (F_Co 1).2.2.1 ∈ um_AW := um_in 132 (by decide +kernel) rfl
theorem f_Ma_62 : um_Fd um_cl um_AW R_Ma 62 2 1 := ⟨R_Co, F_Co, 9, cl_Co, by decide, Or.inl wf_Ma_62⟩
set_option maxRecDepth 100000 in
theorem wl_Ma_65 : Cond.methodLink R_Ma 65 M_Ma_pull.1 ∈ um_AW := um_in 600 (by decide +kernel) rfl
set_option maxRecDepth 100000 in
theorem wn_Ma_pull : Cond.instanceMethod M_Ma_pull.1 ∈ um_AW := um_in 602 (by decide +kernel) rfl
set_option maxRecDepth 100000 in
theorem wv_Ma_pull : Cond.selects R_Ma M_Ma_pull.1 M_Ma_pull.1 ∈ um_AW := um_in 26 (by decide +kernel) rfl
theorem g_Ma_65 : um_Iv um_cl um_AW R_Ma 65 4 M_Ma_pull 0 := ⟨⟨um_gd, wc_Ma_pull, wi_Ma, ⟨by decide, by decide, by decide +kernel⟩, Or.inl wl_Ma_65⟩, (R_Ma, F_Ma, 11), rfl, wn_Ma_pull, wv_Ma_pull⟩
set_option maxRecDepth 100000 in
theorem wl_Ma_69 : Cond.methodLink R_Ma 69 M_Ma_raise.1 ∈ um_AW := um_in 604 (by decide +kernel) rfl
set_option maxRecDepth 100000 in
theorem wn_Ma_raise : Cond.instanceMethod M_Ma_raise.1 ∈ um_AW := um_in 606 (by decide +kernel) rfl
set_option maxRecDepth 100000 in
theorem wv_Ma_raise : Cond.selects R_Ma M_Ma_raise.1 M_Ma_raise.1 ∈ um_AW := um_in 27 (by decide +kernel) rfl
theorem g_Ma_69 : um_Iv um_cl um_AW R_Ma 69 4 M_Ma_raise 1 := ⟨⟨um_gd, wc_Ma_raise, wi_Ma, ⟨by decide, by decide, by decide +kernel⟩, Or.inl wl_Ma_69⟩, (R_Ma, F_Ma, 11), rfl, wn_Ma_raise, wv_Ma_raise⟩
set_option maxRecDepth 100000 in
theorem wl_Ma_73 : Cond.methodLink R_Ma 73 M_Ma_enter.1 ∈ um_AW := um_in 616 (by decide +kernel) rfl
set_option maxRecDepth 100000 in
theorem wn_Ma_enter : Cond.instanceMethod M_Ma_enter.1 ∈ um_AW := um_in 618 (by decide +kernel) rfl
set_option maxRecDepth 100000 in
theorem wv_Ma_enter : Cond.selects R_Ma M_Ma_enter.1 M_Ma_enter.1 ∈ um_AW := um_in 29 (by decide +kernel) rfl
theorem g_Ma_73 : um_Iv um_cl um_AW R_Ma 73 4 M_Ma_enter 1 := ⟨⟨um_gd, wc_Ma_enter, wi_Ma, ⟨by decide, by decide, by decide +kernel⟩, Or.inl wl_Ma_73⟩, (R_Ma, F_Ma, 11), rfl, wn_Ma_enter, wv_Ma_enter⟩
set_option maxRecDepth 100000 in
theorem wl_Ma_76 : Cond.methodLink R_Ma 76 M_Ma_goBack.1 ∈ um_AW := um_in 621 (by decide +kernel) rfl
set_option maxRecDepth 100000 in
theorem wn_Ma_goBack : Cond.instanceMethod M_Ma_goBack.1 ∈ um_AW := um_in 623 (by decide +kernel) rfl
set_option maxRecDepth 100000 in
theorem wv_Ma_goBack : Cond.selects R_Ma M_Ma_goBack.1 M_Ma_goBack.1 ∈ um_AW := um_in 30 (by decide +kernel) rfl
theorem g_Ma_76 : um_Iv um_cl um_AW R_Ma 76 4 M_Ma_goBack 0 := ⟨⟨um_gd, wc_Ma_goBack, wi_Ma, ⟨by decide, by decide, by decide +kernel⟩, Or.inl wl_Ma_76⟩, (R_Ma, F_Ma, 11), rfl, wn_Ma_goBack, wv_Ma_goBack⟩
set_option maxRecDepth 100000 in
theorem wl_Ma_79 : Cond.methodLink R_Ma 79 M_Ma_placeOf.1 ∈ um_AW := um_in 625 (by decide +kernel) rfl
set_option maxRecDepth 100000 in
theorem wn_Ma_placeOf : Cond.instanceMethod M_Ma_placeOf.1 ∈ um_AW := um_in 627 (by decide +kernel) rfl
set_option maxRecDepth 100000 in
theorem wv_Ma_placeOf : Cond.selects R_Ma M_Ma_placeOf.1 M_Ma_placeOf.1 ∈ um_AW := um_in 31 (by decide +kernel) rfl
theorem g_Ma_79 : um_Iv um_cl um_AW R_Ma 79 4 M_Ma_placeOf 1 := ⟨⟨um_gd, wc_Ma_placeOf, wi_Ma, ⟨by decide, by decide, by decide +kernel⟩, Or.inl wl_Ma_79⟩, (R_Ma, F_Ma, 11), rfl, wn_Ma_placeOf, wv_Ma_placeOf⟩
set_option maxRecDepth 100000 in
theorem wl_Ma_83 : Cond.methodLink R_Ma 83 M_Ma_doStraight.1 ∈ um_AW := um_in 629 (by decide +kernel) rfl
set_option maxRecDepth 100000 in
theorem wn_Ma_doStraight : Cond.instanceMethod M_Ma_doStraight.1 ∈ um_AW := um_in 631 (by decide +kernel) rfl
set_option maxRecDepth 100000 in
theorem wv_Ma_doStraight : Cond.selects R_Ma M_Ma_doStraight.1 M_Ma_doStraight.1 ∈ um_AW := um_in 32 (by decide +kernel) rfl
theorem g_Ma_83 : um_Iv um_cl um_AW R_Ma 83 4 M_Ma_doStraight 2 := ⟨⟨um_gd, wc_Ma_doStraight, wi_Ma, ⟨by decide, by decide, by decide +kernel⟩, Or.inl wl_Ma_83⟩, (R_Ma, F_Ma, 11), rfl, wn_Ma_doStraight, wv_Ma_doStraight⟩
set_option maxRecDepth 100000 in
theorem wl_Ma_87 : Cond.methodLink R_Ma 87 M_Ma_push.1 ∈ um_AW := um_in 612 (by decide +kernel) rfl
set_option maxRecDepth 100000 in
theorem wn_Ma_push : Cond.instanceMethod M_Ma_push.1 ∈ um_AW := um_in 614 (by decide +kernel) rfl
set_option maxRecDepth 100000 in
theorem wv_Ma_push : Cond.selects R_Ma M_Ma_push.1 M_Ma_push.1 ∈ um_AW := um_in 28 (by decide +kernel) rfl
theorem g_Ma_87 : um_Iv um_cl um_AW R_Ma 87 4 M_Ma_push 1 := ⟨⟨um_gd, wc_Ma_push, wi_Ma, ⟨by decide, by decide, by decide +kernel⟩, Or.inl wl_Ma_87⟩, (R_Ma, F_Ma, 11), rfl, wn_Ma_push, wv_Ma_push⟩
set_option maxRecDepth 100000 in
theorem wl_Ma_90 : Cond.methodLink R_Ma 90 M_Ma_putOut.1 ∈ um_AW := um_in 633 (by decide +kernel) rfl
set_option maxRecDepth 100000 in
theorem wn_Ma_putOut : Cond.instanceMethod M_Ma_putOut.1 ∈ um_AW := um_in 635 (by decide +kernel) rfl
set_option maxRecDepth 100000 in
theorem wv_Ma_putOut : Cond.selects R_Ma M_Ma_putOut.1 M_Ma_putOut.1 ∈ um_AW := um_in 33 (by decide +kernel) rfl
theorem g_Ma_90 : um_Iv um_cl um_AW R_Ma 90 4 M_Ma_putOut 1 := ⟨⟨um_gd, wc_Ma_putOut, wi_Ma, ⟨by decide, by decide, by decide +kernel⟩, Or.inl wl_Ma_90⟩, (R_Ma, F_Ma, 11), rfl, wn_Ma_putOut, wv_Ma_putOut⟩
set_option maxRecDepth 100000 in
theorem wl_Ma_95 : Cond.methodLink R_Ma 95 M_Ma_combine.1 ∈ um_AW := um_in 637 (by decide +kernel) rfl
set_option maxRecDepth 100000 in
theorem ws_Ma_combine : Cond.static M_Ma_combine.1 ∈ um_AW := um_in 638 (by decide +kernel) rfl
theorem g_Ma_95 : um_Is um_AW R_Ma 95 M_Ma_combine 3 := ⟨⟨um_gd, wc_Ma_combine, wi_Ma, ⟨by decide, by decide, by decide +kernel⟩, Or.inl wl_Ma_95⟩, ws_Ma_combine⟩
set_option maxRecDepth 100000 in
theorem wm_Ma_99 : Cond.methodLink R_Ma 99 Lib.Math.max.name ∈ um_AW := um_in 620 (by decide +kernel) rfl
theorem mx_Ma_99 : Cond.methodLink R_Ma 99 Lib.Math.max.name ∈ um_AW ∧ Cond.static Lib.Math.max.name ∈ um_AW ∧ Cond.initialized "java/lang/Math" ∈ um_AW ∧ Cond.code Lib.Math.max.name Lib.Math.max.code 2 (some .int) ∈ um_AW := ⟨wm_Ma_99, wm_static, wm_init, wm_code⟩
set_option maxRecDepth 100000 in
theorem wf_Ma_105 : Cond.fieldLink R_Ma 105 (F_Co 3).1 (F_Co 3).2.1 (F_Co 3).2.2.1 ∈ um_AW := um_in 139 (by decide +kernel) rfl
theorem f_Ma_105 : um_Fd um_cl um_AW R_Ma 105 2 3 := ⟨R_Co, F_Co, 9, cl_Co, by decide, Or.inl wf_Ma_105⟩
set_option maxRecDepth 100000 in
theorem wl_Ma_108 : Cond.methodLink R_Ma 108 M_Co_rowFor.1 ∈ um_AW := um_in 608 (by decide +kernel) rfl
set_option maxRecDepth 100000 in
theorem wn_Co_rowFor : Cond.instanceMethod M_Co_rowFor.1 ∈ um_AW := um_in 609 (by decide +kernel) rfl
set_option maxRecDepth 100000 in
theorem wv_Co_rowFor : Cond.selects R_Co M_Co_rowFor.1 M_Co_rowFor.1 ∈ um_AW := um_in 610 (by decide +kernel) rfl
theorem g_Ma_108 : um_Iv um_cl um_AW R_Ma 108 2 M_Co_rowFor 2 := ⟨⟨um_gd, wc_Co_rowFor, wi_Co, ⟨by decide, by decide, by decide +kernel⟩, Or.inl wl_Ma_108⟩, (R_Co, F_Co, 9), rfl, wn_Co_rowFor, wv_Co_rowFor⟩
set_option maxRecDepth 100000 in
theorem wf_Ma_111 : Cond.fieldLink R_Ma 111 (F_Co 4).1 (F_Co 4).2.1 (F_Co 4).2.2.1 ∈ um_AW := um_in 142 (by decide +kernel) rfl
theorem f_Ma_111 : um_Fd um_cl um_AW R_Ma 111 2 4 := ⟨R_Co, F_Co, 9, cl_Co, by decide, Or.inl wf_Ma_111⟩
set_option maxRecDepth 100000 in
theorem wf_Mo_7 : Cond.fieldLink R_Mo 7 (F_Mo 2).1 (F_Mo 2).2.1 (F_Mo 2).2.2.1 ∈ um_AW := um_in 762 (by decide +kernel) rfl
theorem f_Mo_7 : um_Fd um_cl um_AW R_Mo 7 8 2 := ⟨R_Mo, F_Mo, 58, cl_Mo, by decide, Or.inl wf_Mo_7⟩
set_option maxRecDepth 100000 in
theorem wf_Mo_13 : Cond.fieldLink R_Mo 13 (F_Mo 3).1 (F_Mo 3).2.1 (F_Mo 3).2.2.1 ∈ um_AW := um_in 763 (by decide +kernel) rfl
theorem f_Mo_13 : um_Fd um_cl um_AW R_Mo 13 8 3 := ⟨R_Mo, F_Mo, 58, cl_Mo, by decide, Or.inl wf_Mo_13⟩
set_option maxRecDepth 100000 in
theorem wf_Mo_16 : Cond.fieldLink R_Mo 16 (F_Mo 4).1 (F_Mo 4).2.1 (F_Mo 4).2.2.1 ∈ um_AW := um_in 764 (by decide +kernel) rfl
theorem f_Mo_16 : um_Fd um_cl um_AW R_Mo 16 8 4 := ⟨R_Mo, F_Mo, 58, cl_Mo, by decide, Or.inl wf_Mo_16⟩
set_option maxRecDepth 100000 in
theorem wf_Mo_19 : Cond.fieldLink R_Mo 19 (F_Mo 5).1 (F_Mo 5).2.1 (F_Mo 5).2.2.1 ∈ um_AW := um_in 765 (by decide +kernel) rfl
theorem f_Mo_19 : um_Fd um_cl um_AW R_Mo 19 8 5 := ⟨R_Mo, F_Mo, 58, cl_Mo, by decide, Or.inl wf_Mo_19⟩
set_option maxRecDepth 100000 in
theorem wf_Mo_22 : Cond.fieldLink R_Mo 22 (F_Mo 6).1 (F_Mo 6).2.1 (F_Mo 6).2.2.1 ∈ um_AW := um_in 766 (by decide +kernel) rfl
theorem f_Mo_22 : um_Fd um_cl um_AW R_Mo 22 8 6 := ⟨R_Mo, F_Mo, 58, cl_Mo, by decide, Or.inl wf_Mo_22⟩
set_option maxRecDepth 100000 in
theorem wf_Mo_25 : Cond.fieldLink R_Mo 25 (F_Mo 7).1 (F_Mo 7).2.1 (F_Mo 7).2.2.1 ∈ um_AW := um_in 767 (by decide +kernel) rfl
theorem f_Mo_25 : um_Fd um_cl um_AW R_Mo 25 8 7 := ⟨R_Mo, F_Mo, 58, cl_Mo, by decide, Or.inl wf_Mo_25⟩
set_option maxRecDepth 100000 in
theorem wf_Mo_28 : Cond.fieldLink R_Mo 28 (F_Mo 8).1 (F_Mo 8).2.1 (F_Mo 8).2.2.1 ∈ um_AW := um_in 768 (by decide +kernel) rfl
theorem f_Mo_28 : um_Fd um_cl um_AW R_Mo 28 8 8 := ⟨R_Mo, F_Mo, 58, cl_Mo, by decide, Or.inl wf_Mo_28⟩
set_option maxRecDepth 100000 in
theorem wf_Mo_31 : Cond.fieldLink R_Mo 31 (F_Mo 11).1 (F_Mo 11).2.1 (F_Mo 11).2.2.1 ∈ um_AW := um_in 771 (by decide +kernel) rfl
theorem f_Mo_31 : um_Fd um_cl um_AW R_Mo 31 8 11 := ⟨R_Mo, F_Mo, 58, cl_Mo, by decide, Or.inl wf_Mo_31⟩
set_option maxRecDepth 100000 in
theorem wf_Mo_34 : Cond.fieldLink R_Mo 34 (F_Mo 12).1 (F_Mo 12).2.1 (F_Mo 12).2.2.1 ∈ um_AW := um_in 772 (by decide +kernel) rfl
theorem f_Mo_34 : um_Fd um_cl um_AW R_Mo 34 8 12 := ⟨R_Mo, F_Mo, 58, cl_Mo, by decide, Or.inl wf_Mo_34⟩
set_option maxRecDepth 100000 in
theorem wf_Mo_37 : Cond.fieldLink R_Mo 37 (F_Mo 13).1 (F_Mo 13).2.1 (F_Mo 13).2.2.1 ∈ um_AW := um_in 773 (by decide +kernel) rfl
theorem f_Mo_37 : um_Fd um_cl um_AW R_Mo 37 8 13 := ⟨R_Mo, F_Mo, 58, cl_Mo, by decide, Or.inl wf_Mo_37⟩
set_option maxRecDepth 100000 in
theorem wf_Mo_40 : Cond.fieldLink R_Mo 40 (F_Mo 15).1 (F_Mo 15).2.1 (F_Mo 15).2.2.1 ∈ um_AW := um_in 775 (by decide +kernel) rfl
theorem f_Mo_40 : um_Fd um_cl um_AW R_Mo 40 8 15 := ⟨R_Mo, F_Mo, 58, cl_Mo, by decide, Or.inl wf_Mo_40⟩
set_option maxRecDepth 100000 in
theorem wf_Mo_43 : Cond.fieldLink R_Mo 43 (F_Mo 16).1 (F_Mo 16).2.1 (F_Mo 16).2.2.1 ∈ um_AW := um_in 776 (by decide +kernel) rfl
theorem f_Mo_43 : um_Fd um_cl um_AW R_Mo 43 8 16 := ⟨R_Mo, F_Mo, 58, cl_Mo, by decide, Or.inl wf_Mo_43⟩
set_option maxRecDepth 100000 in
theorem wf_Mo_46 : Cond.fieldLink R_Mo 46 (F_Mo 17).1 (F_Mo 17).2.1 (F_Mo 17).2.2.1 ∈ um_AW := um_in 777 (by decide +kernel) rfl
theorem f_Mo_46 : um_Fd um_cl um_AW R_Mo 46 8 17 := ⟨R_Mo, F_Mo, 58, cl_Mo, by decide, Or.inl wf_Mo_46⟩
set_option maxRecDepth 100000 in
theorem wf_Mo_49 : Cond.fieldLink R_Mo 49 (F_Mo 18).1 (F_Mo 18).2.1 (F_Mo 18).2.2.1 ∈ um_AW := um_in 778 (by decide +kernel) rfl
theorem f_Mo_49 : um_Fd um_cl um_AW R_Mo 49 8 18 := ⟨R_Mo, F_Mo, 58, cl_Mo, by decide, Or.inl wf_Mo_49⟩
set_option maxRecDepth 100000 in
theorem wf_Mo_52 : Cond.fieldLink R_Mo 52 (F_Mo 19).1 (F_Mo 19).2.1 (F_Mo 19).2.2.1 ∈ um_AW := um_in 779 (by decide +kernel) rfl
theorem f_Mo_52 : um_Fd um_cl um_AW R_Mo 52 8 19 := ⟨R_Mo, F_Mo, 58, cl_Mo, by decide, Or.inl wf_Mo_52⟩
set_option maxRecDepth 100000 in
theorem wf_Mo_55 : Cond.fieldLink R_Mo 55 (F_Mo 22).1 (F_Mo 22).2.1 (F_Mo 22).2.2.1 ∈ um_AW := um_in 782 (by decide +kernel) rfl
theorem f_Mo_55 : um_Fd um_cl um_AW R_Mo 55 8 22 := ⟨R_Mo, F_Mo, 58, cl_Mo, by decide, Or.inl wf_Mo_55⟩
set_option maxRecDepth 100000 in
theorem wf_Mo_58 : Cond.fieldLink R_Mo 58 (F_Mo 24).1 (F_Mo 24).2.1 (F_Mo 24).2.2.1 ∈ um_AW := um_in 784 (by decide +kernel) rfl
theorem f_Mo_58 : um_Fd um_cl um_AW R_Mo 58 8 24 := ⟨R_Mo, F_Mo, 58, cl_Mo, by decide, Or.inl wf_Mo_58⟩
set_option maxRecDepth 100000 in
theorem wf_Mo_61 : Cond.fieldLink R_Mo 61 (F_Mo 25).1 (F_Mo 25).2.1 (F_Mo 25).2.2.1 ∈ um_AW := um_in 785 (by decide +kernel) rfl
theorem f_Mo_61 : um_Fd um_cl um_AW R_Mo 61 8 25 := ⟨R_Mo, F_Mo, 58, cl_Mo, by decide, Or.inl wf_Mo_61⟩
set_option maxRecDepth 100000 in
theorem wf_Mo_64 : Cond.fieldLink R_Mo 64 (F_Mo 26).1 (F_Mo 26).2.1 (F_Mo 26).2.2.1 ∈ um_AW := um_in 786 (by decide +kernel) rfl
theorem f_Mo_64 : um_Fd um_cl um_AW R_Mo 64 8 26 := ⟨R_Mo, F_Mo, 58, cl_Mo, by decide, Or.inl wf_Mo_64⟩
set_option maxRecDepth 100000 in
theorem wf_Mo_67 : Cond.fieldLink R_Mo 67 (F_Mo 27).1 (F_Mo 27).2.1 (F_Mo 27).2.2.1 ∈ um_AW := um_in 787 (by decide +kernel) rfl
theorem f_Mo_67 : um_Fd um_cl um_AW R_Mo 67 8 27 := ⟨R_Mo, F_Mo, 58, cl_Mo, by decide, Or.inl wf_Mo_67⟩
set_option maxRecDepth 100000 in
theorem wf_Mo_70 : Cond.fieldLink R_Mo 70 (F_Mo 28).1 (F_Mo 28).2.1 (F_Mo 28).2.2.1 ∈ um_AW := um_in 788 (by decide +kernel) rfl
theorem f_Mo_70 : um_Fd um_cl um_AW R_Mo 70 8 28 := ⟨R_Mo, F_Mo, 58, cl_Mo, by decide, Or.inl wf_Mo_70⟩
set_option maxRecDepth 100000 in
theorem wf_Mo_73 : Cond.fieldLink R_Mo 73 (F_Mo 29).1 (F_Mo 29).2.1 (F_Mo 29).2.2.1 ∈ um_AW := um_in 789 (by decide +kernel) rfl
theorem f_Mo_73 : um_Fd um_cl um_AW R_Mo 73 8 29 := ⟨R_Mo, F_Mo, 58, cl_Mo, by decide, Or.inl wf_Mo_73⟩
set_option maxRecDepth 100000 in
theorem wf_Mo_76 : Cond.fieldLink R_Mo 76 (F_Mo 31).1 (F_Mo 31).2.1 (F_Mo 31).2.2.1 ∈ um_AW := um_in 791 (by decide +kernel) rfl
theorem f_Mo_76 : um_Fd um_cl um_AW R_Mo 76 8 31 := ⟨R_Mo, F_Mo, 58, cl_Mo, by decide, Or.inl wf_Mo_76⟩
set_option maxRecDepth 100000 in
theorem wf_Mo_79 : Cond.fieldLink R_Mo 79 (F_Mo 33).1 (F_Mo 33).2.1 (F_Mo 33).2.2.1 ∈ um_AW := um_in 793 (by decide +kernel) rfl
theorem f_Mo_79 : um_Fd um_cl um_AW R_Mo 79 8 33 := ⟨R_Mo, F_Mo, 58, cl_Mo, by decide, Or.inl wf_Mo_79⟩
set_option maxRecDepth 100000 in
theorem wf_Mo_82 : Cond.fieldLink R_Mo 82 (F_Mo 38).1 (F_Mo 38).2.1 (F_Mo 38).2.2.1 ∈ um_AW := um_in 798 (by decide +kernel) rfl
theorem f_Mo_82 : um_Fd um_cl um_AW R_Mo 82 8 38 := ⟨R_Mo, F_Mo, 58, cl_Mo, by decide, Or.inl wf_Mo_82⟩
set_option maxRecDepth 100000 in
theorem wf_Mo_85 : Cond.fieldLink R_Mo 85 (F_Mo 39).1 (F_Mo 39).2.1 (F_Mo 39).2.2.1 ∈ um_AW := um_in 799 (by decide +kernel) rfl
theorem f_Mo_85 : um_Fd um_cl um_AW R_Mo 85 8 39 := ⟨R_Mo, F_Mo, 58, cl_Mo, by decide, Or.inl wf_Mo_85⟩
set_option maxRecDepth 100000 in
theorem wf_Mo_88 : Cond.fieldLink R_Mo 88 (F_Mo 40).1 (F_Mo 40).2.1 (F_Mo 40).2.2.1 ∈ um_AW := um_in 800 (by decide +kernel) rfl
theorem f_Mo_88 : um_Fd um_cl um_AW R_Mo 88 8 40 := ⟨R_Mo, F_Mo, 58, cl_Mo, by decide, Or.inl wf_Mo_88⟩
set_option maxRecDepth 100000 in
theorem wf_Mo_91 : Cond.fieldLink R_Mo 91 (F_Mo 41).1 (F_Mo 41).2.1 (F_Mo 41).2.2.1 ∈ um_AW := um_in 801 (by decide +kernel) rfl
theorem f_Mo_91 : um_Fd um_cl um_AW R_Mo 91 8 41 := ⟨R_Mo, F_Mo, 58, cl_Mo, by decide, Or.inl wf_Mo_91⟩
set_option maxRecDepth 100000 in
theorem wf_Mo_94 : Cond.fieldLink R_Mo 94 (F_Mo 42).1 (F_Mo 42).2.1 (F_Mo 42).2.2.1 ∈ um_AW := um_in 802 (by decide +kernel) rfl
theorem f_Mo_94 : um_Fd um_cl um_AW R_Mo 94 8 42 := ⟨R_Mo, F_Mo, 58, cl_Mo, by decide, Or.inl wf_Mo_94⟩
set_option maxRecDepth 100000 in
theorem wf_Mo_97 : Cond.fieldLink R_Mo 97 (F_Mo 43).1 (F_Mo 43).2.1 (F_Mo 43).2.2.1 ∈ um_AW := um_in 803 (by decide +kernel) rfl
theorem f_Mo_97 : um_Fd um_cl um_AW R_Mo 97 8 43 := ⟨R_Mo, F_Mo, 58, cl_Mo, by decide, Or.inl wf_Mo_97⟩
set_option maxRecDepth 100000 in
theorem wf_Mo_100 : Cond.fieldLink R_Mo 100 (F_Mo 44).1 (F_Mo 44).2.1 (F_Mo 44).2.2.1 ∈ um_AW := um_in 804 (by decide +kernel) rfl
theorem f_Mo_100 : um_Fd um_cl um_AW R_Mo 100 8 44 := ⟨R_Mo, F_Mo, 58, cl_Mo, by decide, Or.inl wf_Mo_100⟩
set_option maxRecDepth 100000 in
theorem wf_Mo_103 : Cond.fieldLink R_Mo 103 (F_Mo 45).1 (F_Mo 45).2.1 (F_Mo 45).2.2.1 ∈ um_AW := um_in 805 (by decide +kernel) rfl
theorem f_Mo_103 : um_Fd um_cl um_AW R_Mo 103 8 45 := ⟨R_Mo, F_Mo, 58, cl_Mo, by decide, Or.inl wf_Mo_103⟩
set_option maxRecDepth 100000 in
theorem wf_Mo_106 : Cond.fieldLink R_Mo 106 (F_Mo 46).1 (F_Mo 46).2.1 (F_Mo 46).2.2.1 ∈ um_AW := um_in 806 (by decide +kernel) rfl
theorem f_Mo_106 : um_Fd um_cl um_AW R_Mo 106 8 46 := ⟨R_Mo, F_Mo, 58, cl_Mo, by decide, Or.inl wf_Mo_106⟩
theorem fw_Mo_106 : um_Fw um_cl um_AW R_Mo 106 8 46 .int := ⟨R_Mo, F_Mo, 58, cl_Mo, by decide, Or.inl wf_Mo_106, rfl, by decide +kernel⟩
set_option maxRecDepth 100000 in
theorem wf_Mo_110 : Cond.fieldLink R_Mo 110 (F_Mo 50).1 (F_Mo 50).2.1 (F_Mo 50).2.2.1 ∈ um_AW := um_in 810 (by decide +kernel) rfl
theorem f_Mo_110 : um_Fd um_cl um_AW R_Mo 110 8 50 := ⟨R_Mo, F_Mo, 58, cl_Mo, by decide, Or.inl wf_Mo_110⟩
set_option maxRecDepth 100000 in
theorem wf_Mo_113 : Cond.fieldLink R_Mo 113 (F_Mo 54).1 (F_Mo 54).2.1 (F_Mo 54).2.2.1 ∈ um_AW := um_in 814 (by decide +kernel) rfl
theorem f_Mo_113 : um_Fd um_cl um_AW R_Mo 113 8 54 := ⟨R_Mo, F_Mo, 58, cl_Mo, by decide, Or.inl wf_Mo_113⟩
set_option maxRecDepth 100000 in
theorem wf_Mo_116 : Cond.fieldLink R_Mo 116 (F_Mo 55).1 (F_Mo 55).2.1 (F_Mo 55).2.2.1 ∈ um_AW := um_in 815 (by decide +kernel) rfl
theorem f_Mo_116 : um_Fd um_cl um_AW R_Mo 116 8 55 := ⟨R_Mo, F_Mo, 58, cl_Mo, by decide, Or.inl wf_Mo_116⟩
set_option maxRecDepth 100000 in
theorem wf_Mo_119 : Cond.fieldLink R_Mo 119 (F_Mo 56).1 (F_Mo 56).2.1 (F_Mo 56).2.2.1 ∈ um_AW := um_in 816 (by decide +kernel) rfl
theorem f_Mo_119 : um_Fd um_cl um_AW R_Mo 119 8 56 := ⟨R_Mo, F_Mo, 58, cl_Mo, by decide, Or.inl wf_Mo_119⟩
set_option maxRecDepth 100000 in
theorem wf_Mo_122 : Cond.fieldLink R_Mo 122 (F_Mo 57).1 (F_Mo 57).2.1 (F_Mo 57).2.2.1 ∈ um_AW := um_in 817 (by decide +kernel) rfl
theorem f_Mo_122 : um_Fd um_cl um_AW R_Mo 122 8 57 := ⟨R_Mo, F_Mo, 58, cl_Mo, by decide, Or.inl wf_Mo_122⟩
set_option maxRecDepth 100000 in
theorem wf_Mo_125 : Cond.fieldLink R_Mo 125 (F_Mo 0).1 (F_Mo 0).2.1 (F_Mo 0).2.2.1 ∈ um_AW := um_in 760 (by decide +kernel) rfl
theorem f_Mo_125 : um_Fd um_cl um_AW R_Mo 125 8 0 := ⟨R_Mo, F_Mo, 58, cl_Mo, by decide, Or.inl wf_Mo_125⟩
theorem fw_Mo_125 : um_Fw um_cl um_AW R_Mo 125 8 0 .int := ⟨R_Mo, F_Mo, 58, cl_Mo, by decide, Or.inl wf_Mo_125, rfl, by decide +kernel⟩
set_option maxRecDepth 100000 in
theorem wf_Mo_128 : Cond.fieldLink R_Mo 128 (F_Mo 1).1 (F_Mo 1).2.1 (F_Mo 1).2.2.1 ∈ um_AW := um_in 761 (by decide +kernel) rfl
theorem f_Mo_128 : um_Fd um_cl um_AW R_Mo 128 8 1 := ⟨R_Mo, F_Mo, 58, cl_Mo, by decide, Or.inl wf_Mo_128⟩
theorem fw_Mo_128 : um_Fw um_cl um_AW R_Mo 128 8 1 .int := ⟨R_Mo, F_Mo, 58, cl_Mo, by decide, Or.inl wf_Mo_128, rfl, by decide +kernel⟩
set_option maxRecDepth 100000 in
theorem wl_Mo_131 : Cond.methodLink R_Mo 131 M_Mo_isThere.1 ∈ um_AW := um_in 954 (by decide +kernel) rfl
set_option maxRecDepth 100000 in
theorem wn_Mo_isThere : Cond.instanceMethod M_Mo_isThere.1 ∈ um_AW := um_in 956 (by decide +kernel) rfl
set_option maxRecDepth 100000 in
theorem wv_Mo_isThere : Cond.selects R_Mo M_Mo_isThere.1 M_Mo_isThere.1 ∈ um_AW := um_in 37 (by decide +kernel) rfl
theorem g_Mo_131 : um_Iv um_cl um_AW R_Mo 131 8 M_Mo_isThere 3 := ⟨⟨um_gd, wc_Mo_isThere, wi_Mo, ⟨by decide, by decide, by decide +kernel⟩, Or.inl wl_Mo_131⟩, (R_Mo, F_Mo, 58), rfl, wn_Mo_isThere, wv_Mo_isThere⟩
set_option maxRecDepth 100000 in
theorem wl_Mo_135 : Cond.methodLink R_Mo 135 M_Mo_isVariable.1 ∈ um_AW := um_in 947 (by decide +kernel) rfl
set_option maxRecDepth 100000 in
theorem ws_Mo_isVariable : Cond.static M_Mo_isVariable.1 ∈ um_AW := um_in 948 (by decide +kernel) rfl
theorem g_Mo_135 : um_Is um_AW R_Mo 135 M_Mo_isVariable 1 := ⟨⟨um_gd, wc_Mo_isVariable, wi_Mo, ⟨by decide, by decide, by decide +kernel⟩, Or.inl wl_Mo_135⟩, ws_Mo_isVariable⟩
set_option maxRecDepth 100000 in
theorem wl_Mo_139 : Cond.methodLink R_Mo 139 M_Mo_isExpression.1 ∈ um_AW := um_in 950 (by decide +kernel) rfl
set_option maxRecDepth 100000 in
theorem wn_Mo_isExpression : Cond.instanceMethod M_Mo_isExpression.1 ∈ um_AW := um_in 952 (by decide +kernel) rfl
set_option maxRecDepth 100000 in
theorem wv_Mo_isExpression : Cond.selects R_Mo M_Mo_isExpression.1 M_Mo_isExpression.1 ∈ um_AW := um_in 36 (by decide +kernel) rfl
theorem g_Mo_139 : um_Iv um_cl um_AW R_Mo 139 8 M_Mo_isExpression 1 := ⟨⟨um_gd, wc_Mo_isExpression, wi_Mo, ⟨by decide, by decide, by decide +kernel⟩, Or.inl wl_Mo_139⟩, (R_Mo, F_Mo, 58), rfl, wn_Mo_isExpression, wv_Mo_isExpression⟩
set_option maxRecDepth 100000 in
theorem wl_Mo_142 : Cond.methodLink R_Mo 142 M_Mo_isStatement.1 ∈ um_AW := um_in 958 (by decide +kernel) rfl
set_option maxRecDepth 100000 in
theorem wn_Mo_isStatement : Cond.instanceMethod M_Mo_isStatement.1 ∈ um_AW := um_in 960 (by decide +kernel) rfl
set_option maxRecDepth 100000 in
theorem wv_Mo_isStatement : Cond.selects R_Mo M_Mo_isStatement.1 M_Mo_isStatement.1 ∈ um_AW := um_in 38 (by decide +kernel) rfl
theorem g_Mo_142 : um_Iv um_cl um_AW R_Mo 142 8 M_Mo_isStatement 1 := ⟨⟨um_gd, wc_Mo_isStatement, wi_Mo, ⟨by decide, by decide, by decide +kernel⟩, Or.inl wl_Mo_142⟩, (R_Mo, F_Mo, 58), rfl, wn_Mo_isStatement, wv_Mo_isStatement⟩
set_option maxRecDepth 100000 in
theorem wl_Mo_145 : Cond.methodLink R_Mo 145 M_Mo_isCatch.1 ∈ um_AW := um_in 962 (by decide +kernel) rfl
set_option maxRecDepth 100000 in
theorem wn_Mo_isCatch : Cond.instanceMethod M_Mo_isCatch.1 ∈ um_AW := um_in 964 (by decide +kernel) rfl
set_option maxRecDepth 100000 in
theorem wv_Mo_isCatch : Cond.selects R_Mo M_Mo_isCatch.1 M_Mo_isCatch.1 ∈ um_AW := um_in 39 (by decide +kernel) rfl
theorem g_Mo_145 : um_Iv um_cl um_AW R_Mo 145 8 M_Mo_isCatch 1 := ⟨⟨um_gd, wc_Mo_isCatch, wi_Mo, ⟨by decide, by decide, by decide +kernel⟩, Or.inl wl_Mo_145⟩, (R_Mo, F_Mo, 58), rfl, wn_Mo_isCatch, wv_Mo_isCatch⟩
set_option maxRecDepth 100000 in
theorem wl_Mo_148 : Cond.methodLink R_Mo 148 M_Mo_can.1 ∈ um_AW := um_in 943 (by decide +kernel) rfl
set_option maxRecDepth 100000 in
theorem wn_Mo_can : Cond.instanceMethod M_Mo_can.1 ∈ um_AW := um_in 945 (by decide +kernel) rfl
set_option maxRecDepth 100000 in
theorem wv_Mo_can : Cond.selects R_Mo M_Mo_can.1 M_Mo_can.1 ∈ um_AW := um_in 35 (by decide +kernel) rfl
theorem g_Mo_148 : um_Iv um_cl um_AW R_Mo 148 8 M_Mo_can 5 := ⟨⟨um_gd, wc_Mo_can, wi_Mo, ⟨by decide, by decide, by decide +kernel⟩, Or.inl wl_Mo_148⟩, (R_Mo, F_Mo, 58), rfl, wn_Mo_can, wv_Mo_can⟩
set_option maxRecDepth 100000 in
theorem wl_Mo_152 : Cond.methodLink R_Mo 152 M_Mo_adds.1 ∈ um_AW := um_in 966 (by decide +kernel) rfl
set_option maxRecDepth 100000 in
theorem wn_Mo_adds : Cond.instanceMethod M_Mo_adds.1 ∈ um_AW := um_in 968 (by decide +kernel) rfl
set_option maxRecDepth 100000 in
theorem wv_Mo_adds : Cond.selects R_Mo M_Mo_adds.1 M_Mo_adds.1 ∈ um_AW := um_in 40 (by decide +kernel) rfl
theorem g_Mo_152 : um_Iv um_cl um_AW R_Mo 152 8 M_Mo_adds 5 := ⟨⟨um_gd, wc_Mo_adds, wi_Mo, ⟨by decide, by decide, by decide +kernel⟩, Or.inl wl_Mo_152⟩, (R_Mo, F_Mo, 58), rfl, wn_Mo_adds, wv_Mo_adds⟩
set_option maxRecDepth 100000 in
theorem wf_Mo_156 : Cond.fieldLink R_Mo 156 (F_Mo 34).1 (F_Mo 34).2.1 (F_Mo 34).2.2.1 ∈ um_AW := um_in 794 (by decide +kernel) rfl
theorem f_Mo_156 : um_Fd um_cl um_AW R_Mo 156 8 34 := ⟨R_Mo, F_Mo, 58, cl_Mo, by decide, Or.inl wf_Mo_156⟩
theorem fw_Mo_156 : um_Fw um_cl um_AW R_Mo 156 8 34 .boolean := ⟨R_Mo, F_Mo, 58, cl_Mo, by decide, Or.inl wf_Mo_156, rfl, by decide +kernel⟩
set_option maxRecDepth 100000 in
theorem wl_Mo_160 : Cond.methodLink R_Mo 160 M_Mo_catches.1 ∈ um_AW := um_in 1010 (by decide +kernel) rfl
set_option maxRecDepth 100000 in
theorem wn_Mo_catches : Cond.instanceMethod M_Mo_catches.1 ∈ um_AW := um_in 1012 (by decide +kernel) rfl
set_option maxRecDepth 100000 in
theorem wv_Mo_catches : Cond.selects R_Mo M_Mo_catches.1 M_Mo_catches.1 ∈ um_AW := um_in 48 (by decide +kernel) rfl
theorem g_Mo_160 : um_Iv um_cl um_AW R_Mo 160 8 M_Mo_catches 1 := ⟨⟨um_gd, wc_Mo_catches, wi_Mo, ⟨by decide, by decide, by decide +kernel⟩, Or.inl wl_Mo_160⟩, (R_Mo, F_Mo, 58), rfl, wn_Mo_catches, wv_Mo_catches⟩
set_option maxRecDepth 100000 in
theorem wf_Mo_164 : Cond.fieldLink R_Mo 164 (F_Mo 10).1 (F_Mo 10).2.1 (F_Mo 10).2.2.1 ∈ um_AW := um_in 770 (by decide +kernel) rfl
theorem f_Mo_164 : um_Fd um_cl um_AW R_Mo 164 8 10 := ⟨R_Mo, F_Mo, 58, cl_Mo, by decide, Or.inl wf_Mo_164⟩
theorem fw_Mo_164 : um_Fw um_cl um_AW R_Mo 164 8 10 .int := ⟨R_Mo, F_Mo, 58, cl_Mo, by decide, Or.inl wf_Mo_164, rfl, by decide +kernel⟩
set_option maxRecDepth 100000 in
theorem wf_Mo_167 : Cond.fieldLink R_Mo 167 (F_Mo 35).1 (F_Mo 35).2.1 (F_Mo 35).2.2.1 ∈ um_AW := um_in 795 (by decide +kernel) rfl
theorem f_Mo_167 : um_Fd um_cl um_AW R_Mo 167 8 35 := ⟨R_Mo, F_Mo, 58, cl_Mo, by decide, Or.inl wf_Mo_167⟩
theorem fw_Mo_167 : um_Fw um_cl um_AW R_Mo 167 8 35 .boolean := ⟨R_Mo, F_Mo, 58, cl_Mo, by decide, Or.inl wf_Mo_167, rfl, by decide +kernel⟩
set_option maxRecDepth 100000 in
theorem wf_Mo_170 : Cond.fieldLink R_Mo 170 (F_Mo 20).1 (F_Mo 20).2.1 (F_Mo 20).2.2.1 ∈ um_AW := um_in 780 (by decide +kernel) rfl
theorem f_Mo_170 : um_Fd um_cl um_AW R_Mo 170 8 20 := ⟨R_Mo, F_Mo, 58, cl_Mo, by decide, Or.inl wf_Mo_170⟩
theorem fw_Mo_170 : um_Fw um_cl um_AW R_Mo 170 8 20 .int := ⟨R_Mo, F_Mo, 58, cl_Mo, by decide, Or.inl wf_Mo_170, rfl, by decide +kernel⟩
set_option maxRecDepth 100000 in
theorem wf_Mo_173 : Cond.fieldLink R_Mo 173 (F_Mo 37).1 (F_Mo 37).2.1 (F_Mo 37).2.2.1 ∈ um_AW := um_in 797 (by decide +kernel) rfl
theorem f_Mo_173 : um_Fd um_cl um_AW R_Mo 173 8 37 := ⟨R_Mo, F_Mo, 58, cl_Mo, by decide, Or.inl wf_Mo_173⟩
theorem fw_Mo_173 : um_Fw um_cl um_AW R_Mo 173 8 37 .int := ⟨R_Mo, F_Mo, 58, cl_Mo, by decide, Or.inl wf_Mo_173, rfl, by decide +kernel⟩
set_option maxRecDepth 100000 in
theorem wl_Mo_176 : Cond.methodLink R_Mo 176 M_Mo_begin.1 ∈ um_AW := um_in 986 (by decide +kernel) rfl
set_option maxRecDepth 100000 in
theorem wn_Mo_begin : Cond.instanceMethod M_Mo_begin.1 ∈ um_AW := um_in 988 (by decide +kernel) rfl
set_option maxRecDepth 100000 in
theorem wv_Mo_begin : Cond.selects R_Mo M_Mo_begin.1 M_Mo_begin.1 ∈ um_AW := um_in 42 (by decide +kernel) rfl
theorem g_Mo_176 : um_Iv um_cl um_AW R_Mo 176 8 M_Mo_begin 4 := ⟨⟨um_gd, wc_Mo_begin, wi_Mo, ⟨by decide, by decide, by decide +kernel⟩, Or.inl wl_Mo_176⟩, (R_Mo, F_Mo, 58), rfl, wn_Mo_begin, wv_Mo_begin⟩
set_option maxRecDepth 100000 in
theorem wf_Mo_180 : Cond.fieldLink R_Mo 180 (F_Mo 23).1 (F_Mo 23).2.1 (F_Mo 23).2.2.1 ∈ um_AW := um_in 783 (by decide +kernel) rfl
theorem f_Mo_180 : um_Fd um_cl um_AW R_Mo 180 8 23 := ⟨R_Mo, F_Mo, 58, cl_Mo, by decide, Or.inl wf_Mo_180⟩
theorem fw_Mo_180 : um_Fw um_cl um_AW R_Mo 180 8 23 .int := ⟨R_Mo, F_Mo, 58, cl_Mo, by decide, Or.inl wf_Mo_180, rfl, by decide +kernel⟩
set_option maxRecDepth 100000 in
theorem wl_Mo_183 : Cond.methodLink R_Mo 183 M_Mo_expression.1 ∈ um_AW := um_in 994 (by decide +kernel) rfl
set_option maxRecDepth 100000 in
theorem wn_Mo_expression : Cond.instanceMethod M_Mo_expression.1 ∈ um_AW := um_in 996 (by decide +kernel) rfl
set_option maxRecDepth 100000 in
theorem wv_Mo_expression : Cond.selects R_Mo M_Mo_expression.1 M_Mo_expression.1 ∈ um_AW := um_in 44 (by decide +kernel) rfl
theorem g_Mo_183 : um_Iv um_cl um_AW R_Mo 183 8 M_Mo_expression 2 := ⟨⟨um_gd, wc_Mo_expression, wi_Mo, ⟨by decide, by decide, by decide +kernel⟩, Or.inl wl_Mo_183⟩, (R_Mo, F_Mo, 58), rfl, wn_Mo_expression, wv_Mo_expression⟩
set_option maxRecDepth 100000 in
theorem wl_Mo_187 : Cond.methodLink R_Mo 187 M_Mo_apart.1 ∈ um_AW := um_in 1006 (by decide +kernel) rfl
set_option maxRecDepth 100000 in
theorem wn_Mo_apart : Cond.instanceMethod M_Mo_apart.1 ∈ um_AW := um_in 1008 (by decide +kernel) rfl
set_option maxRecDepth 100000 in
theorem wv_Mo_apart : Cond.selects R_Mo M_Mo_apart.1 M_Mo_apart.1 ∈ um_AW := um_in 47 (by decide +kernel) rfl
theorem g_Mo_187 : um_Iv um_cl um_AW R_Mo 187 8 M_Mo_apart 1 := ⟨⟨um_gd, wc_Mo_apart, wi_Mo, ⟨by decide, by decide, by decide +kernel⟩, Or.inl wl_Mo_187⟩, (R_Mo, F_Mo, 58), rfl, wn_Mo_apart, wv_Mo_apart⟩
set_option maxRecDepth 100000 in
theorem wl_Mo_191 : Cond.methodLink R_Mo 191 M_Mo_tries.1 ∈ um_AW := um_in 1026 (by decide +kernel) rfl
set_option maxRecDepth 100000 in
theorem wn_Mo_tries : Cond.instanceMethod M_Mo_tries.1 ∈ um_AW := um_in 1028 (by decide +kernel) rfl
set_option maxRecDepth 100000 in
theorem wv_Mo_tries : Cond.selects R_Mo M_Mo_tries.1 M_Mo_tries.1 ∈ um_AW := um_in 52 (by decide +kernel) rfl
theorem g_Mo_191 : um_Iv um_cl um_AW R_Mo 191 8 M_Mo_tries 1 := ⟨⟨um_gd, wc_Mo_tries, wi_Mo, ⟨by decide, by decide, by decide +kernel⟩, Or.inl wl_Mo_191⟩, (R_Mo, F_Mo, 58), rfl, wn_Mo_tries, wv_Mo_tries⟩
set_option maxRecDepth 100000 in
theorem wl_Mo_194 : Cond.methodLink R_Mo 194 M_Mo_leaves.1 ∈ um_AW := um_in 1038 (by decide +kernel) rfl
set_option maxRecDepth 100000 in
theorem wn_Mo_leaves : Cond.instanceMethod M_Mo_leaves.1 ∈ um_AW := um_in 1040 (by decide +kernel) rfl
set_option maxRecDepth 100000 in
theorem wv_Mo_leaves : Cond.selects R_Mo M_Mo_leaves.1 M_Mo_leaves.1 ∈ um_AW := um_in 55 (by decide +kernel) rfl
theorem g_Mo_194 : um_Iv um_cl um_AW R_Mo 194 8 M_Mo_leaves 2 := ⟨⟨um_gd, wc_Mo_leaves, wi_Mo, ⟨by decide, by decide, by decide +kernel⟩, Or.inl wl_Mo_194⟩, (R_Mo, F_Mo, 58), rfl, wn_Mo_leaves, wv_Mo_leaves⟩
set_option maxRecDepth 100000 in
theorem wl_Mo_197 : Cond.methodLink R_Mo 197 M_Mo_statement.1 ∈ um_AW := um_in 1046 (by decide +kernel) rfl
set_option maxRecDepth 100000 in
theorem wn_Mo_statement : Cond.instanceMethod M_Mo_statement.1 ∈ um_AW := um_in 1048 (by decide +kernel) rfl
set_option maxRecDepth 100000 in
theorem wv_Mo_statement : Cond.selects R_Mo M_Mo_statement.1 M_Mo_statement.1 ∈ um_AW := um_in 57 (by decide +kernel) rfl
theorem g_Mo_197 : um_Iv um_cl um_AW R_Mo 197 8 M_Mo_statement 2 := ⟨⟨um_gd, wc_Mo_statement, wi_Mo, ⟨by decide, by decide, by decide +kernel⟩, Or.inl wl_Mo_197⟩, (R_Mo, F_Mo, 58), rfl, wn_Mo_statement, wv_Mo_statement⟩
set_option maxRecDepth 100000 in
theorem wl_Mo_200 : Cond.methodLink R_Mo 200 M_Mo_put.1 ∈ um_AW := um_in 998 (by decide +kernel) rfl
set_option maxRecDepth 100000 in
theorem wn_Mo_put : Cond.instanceMethod M_Mo_put.1 ∈ um_AW := um_in 1000 (by decide +kernel) rfl
set_option maxRecDepth 100000 in
theorem wv_Mo_put : Cond.selects R_Mo M_Mo_put.1 M_Mo_put.1 ∈ um_AW := um_in 45 (by decide +kernel) rfl
theorem g_Mo_200 : um_Iv um_cl um_AW R_Mo 200 8 M_Mo_put 3 := ⟨⟨um_gd, wc_Mo_put, wi_Mo, ⟨by decide, by decide, by decide +kernel⟩, Or.inl wl_Mo_200⟩, (R_Mo, F_Mo, 58), rfl, wn_Mo_put, wv_Mo_put⟩
set_option maxRecDepth 100000 in
theorem wl_Mo_204 : Cond.methodLink R_Mo 204 M_Mo_part.1 ∈ um_AW := um_in 1002 (by decide +kernel) rfl
set_option maxRecDepth 100000 in
theorem wn_Mo_part : Cond.instanceMethod M_Mo_part.1 ∈ um_AW := um_in 1004 (by decide +kernel) rfl
set_option maxRecDepth 100000 in
theorem wv_Mo_part : Cond.selects R_Mo M_Mo_part.1 M_Mo_part.1 ∈ um_AW := um_in 46 (by decide +kernel) rfl
theorem g_Mo_204 : um_Iv um_cl um_AW R_Mo 204 8 M_Mo_part 2 := ⟨⟨um_gd, wc_Mo_part, wi_Mo, ⟨by decide, by decide, by decide +kernel⟩, Or.inl wl_Mo_204⟩, (R_Mo, F_Mo, 58), rfl, wn_Mo_part, wv_Mo_part⟩
set_option maxRecDepth 100000 in
theorem wl_Mo_207 : Cond.methodLink R_Mo 207 M_Mo_decides.1 ∈ um_AW := um_in 1050 (by decide +kernel) rfl
set_option maxRecDepth 100000 in
theorem wn_Mo_decides : Cond.instanceMethod M_Mo_decides.1 ∈ um_AW := um_in 1052 (by decide +kernel) rfl
set_option maxRecDepth 100000 in
theorem wv_Mo_decides : Cond.selects R_Mo M_Mo_decides.1 M_Mo_decides.1 ∈ um_AW := um_in 58 (by decide +kernel) rfl
theorem g_Mo_207 : um_Iv um_cl um_AW R_Mo 207 8 M_Mo_decides 2 := ⟨⟨um_gd, wc_Mo_decides, wi_Mo, ⟨by decide, by decide, by decide +kernel⟩, Or.inl wl_Mo_207⟩, (R_Mo, F_Mo, 58), rfl, wn_Mo_decides, wv_Mo_decides⟩
set_option maxRecDepth 100000 in
theorem wl_Mo_210 : Cond.methodLink R_Mo 210 M_Mo_repeats.1 ∈ um_AW := um_in 1054 (by decide +kernel) rfl
set_option maxRecDepth 100000 in
theorem wn_Mo_repeats : Cond.instanceMethod M_Mo_repeats.1 ∈ um_AW := um_in 1056 (by decide +kernel) rfl
set_option maxRecDepth 100000 in
theorem wv_Mo_repeats : Cond.selects R_Mo M_Mo_repeats.1 M_Mo_repeats.1 ∈ um_AW := um_in 59 (by decide +kernel) rfl
theorem g_Mo_210 : um_Iv um_cl um_AW R_Mo 210 8 M_Mo_repeats 2 := ⟨⟨um_gd, wc_Mo_repeats, wi_Mo, ⟨by decide, by decide, by decide +kernel⟩, Or.inl wl_Mo_210⟩, (R_Mo, F_Mo, 58), rfl, wn_Mo_repeats, wv_Mo_repeats⟩
set_option maxRecDepth 100000 in
theorem wl_Mo_213 : Cond.methodLink R_Mo 213 M_Mo_item.1 ∈ um_AW := um_in 1030 (by decide +kernel) rfl
set_option maxRecDepth 100000 in
theorem wn_Mo_item : Cond.instanceMethod M_Mo_item.1 ∈ um_AW := um_in 1032 (by decide +kernel) rfl
set_option maxRecDepth 100000 in
theorem wv_Mo_item : Cond.selects R_Mo M_Mo_item.1 M_Mo_item.1 ∈ um_AW := um_in 53 (by decide +kernel) rfl
theorem g_Mo_213 : um_Iv um_cl um_AW R_Mo 213 8 M_Mo_item 1 := ⟨⟨um_gd, wc_Mo_item, wi_Mo, ⟨by decide, by decide, by decide +kernel⟩, Or.inl wl_Mo_213⟩, (R_Mo, F_Mo, 58), rfl, wn_Mo_item, wv_Mo_item⟩
set_option maxRecDepth 100000 in
theorem wl_Mo_216 : Cond.methodLink R_Mo 216 M_Mo_ends.1 ∈ um_AW := um_in 1034 (by decide +kernel) rfl
set_option maxRecDepth 100000 in
theorem wn_Mo_ends : Cond.instanceMethod M_Mo_ends.1 ∈ um_AW := um_in 1036 (by decide +kernel) rfl
set_option maxRecDepth 100000 in
theorem wv_Mo_ends : Cond.selects R_Mo M_Mo_ends.1 M_Mo_ends.1 ∈ um_AW := um_in 54 (by decide +kernel) rfl
theorem g_Mo_216 : um_Iv um_cl um_AW R_Mo 216 8 M_Mo_ends 1 := ⟨⟨um_gd, wc_Mo_ends, wi_Mo, ⟨by decide, by decide, by decide +kernel⟩, Or.inl wl_Mo_216⟩, (R_Mo, F_Mo, 58), rfl, wn_Mo_ends, wv_Mo_ends⟩
set_option maxRecDepth 100000 in
theorem wl_Mo_219 : Cond.methodLink R_Mo 219 M_Mo_loop.1 ∈ um_AW := um_in 1042 (by decide +kernel) rfl
set_option maxRecDepth 100000 in
theorem wn_Mo_loop : Cond.instanceMethod M_Mo_loop.1 ∈ um_AW := um_in 1044 (by decide +kernel) rfl
set_option maxRecDepth 100000 in
theorem wv_Mo_loop : Cond.selects R_Mo M_Mo_loop.1 M_Mo_loop.1 ∈ um_AW := um_in 56 (by decide +kernel) rfl
theorem g_Mo_219 : um_Iv um_cl um_AW R_Mo 219 8 M_Mo_loop 1 := ⟨⟨um_gd, wc_Mo_loop, wi_Mo, ⟨by decide, by decide, by decide +kernel⟩, Or.inl wl_Mo_219⟩, (R_Mo, F_Mo, 58), rfl, wn_Mo_loop, wv_Mo_loop⟩
set_option maxRecDepth 100000 in
theorem wf_Mo_222 : Cond.fieldLink R_Mo 222 (F_Mo 36).1 (F_Mo 36).2.1 (F_Mo 36).2.2.1 ∈ um_AW := um_in 796 (by decide +kernel) rfl
theorem f_Mo_222 : um_Fd um_cl um_AW R_Mo 222 8 36 := ⟨R_Mo, F_Mo, 58, cl_Mo, by decide, Or.inl wf_Mo_222⟩
theorem fw_Mo_222 : um_Fw um_cl um_AW R_Mo 222 8 36 .boolean := ⟨R_Mo, F_Mo, 58, cl_Mo, by decide, Or.inl wf_Mo_222, rfl, by decide +kernel⟩
set_option maxRecDepth 100000 in
theorem wl_Mo_225 : Cond.methodLink R_Mo 225 M_Mo_hasFinally.1 ∈ um_AW := um_in 1018 (by decide +kernel) rfl
set_option maxRecDepth 100000 in
theorem wn_Mo_hasFinally : Cond.instanceMethod M_Mo_hasFinally.1 ∈ um_AW := um_in 1020 (by decide +kernel) rfl
set_option maxRecDepth 100000 in
theorem wv_Mo_hasFinally : Cond.selects R_Mo M_Mo_hasFinally.1 M_Mo_hasFinally.1 ∈ um_AW := um_in 50 (by decide +kernel) rfl
theorem g_Mo_225 : um_Iv um_cl um_AW R_Mo 225 8 M_Mo_hasFinally 1 := ⟨⟨um_gd, wc_Mo_hasFinally, wi_Mo, ⟨by decide, by decide, by decide +kernel⟩, Or.inl wl_Mo_225⟩, (R_Mo, F_Mo, 58), rfl, wn_Mo_hasFinally, wv_Mo_hasFinally⟩
set_option maxRecDepth 100000 in
theorem wl_Mo_228 : Cond.methodLink R_Mo 228 M_Mo_last.1 ∈ um_AW := um_in 1022 (by decide +kernel) rfl
set_option maxRecDepth 100000 in
theorem wn_Mo_last : Cond.instanceMethod M_Mo_last.1 ∈ um_AW := um_in 1024 (by decide +kernel) rfl
set_option maxRecDepth 100000 in
theorem wv_Mo_last : Cond.selects R_Mo M_Mo_last.1 M_Mo_last.1 ∈ um_AW := um_in 51 (by decide +kernel) rfl
theorem g_Mo_228 : um_Iv um_cl um_AW R_Mo 228 8 M_Mo_last 1 := ⟨⟨um_gd, wc_Mo_last, wi_Mo, ⟨by decide, by decide, by decide +kernel⟩, Or.inl wl_Mo_228⟩, (R_Mo, F_Mo, 58), rfl, wn_Mo_last, wv_Mo_last⟩
set_option maxRecDepth 100000 in
theorem wf_Mo_231 : Cond.fieldLink R_Mo 231 (F_Mo 32).1 (F_Mo 32).2.1 (F_Mo 32).2.2.1 ∈ um_AW := um_in 792 (by decide +kernel) rfl
theorem f_Mo_231 : um_Fd um_cl um_AW R_Mo 231 8 32 := ⟨R_Mo, F_Mo, 58, cl_Mo, by decide, Or.inl wf_Mo_231⟩
theorem fw_Mo_231 : um_Fw um_cl um_AW R_Mo 231 8 32 .int := ⟨R_Mo, F_Mo, 58, cl_Mo, by decide, Or.inl wf_Mo_231, rfl, by decide +kernel⟩
set_option maxRecDepth 100000 in
theorem wl_Mo_234 : Cond.methodLink R_Mo 234 M_Mo_catchAt.1 ∈ um_AW := um_in 1014 (by decide +kernel) rfl
set_option maxRecDepth 100000 in
theorem wn_Mo_catchAt : Cond.instanceMethod M_Mo_catchAt.1 ∈ um_AW := um_in 1016 (by decide +kernel) rfl
set_option maxRecDepth 100000 in
theorem wv_Mo_catchAt : Cond.selects R_Mo M_Mo_catchAt.1 M_Mo_catchAt.1 ∈ um_AW := um_in 49 (by decide +kernel) rfl
theorem g_Mo_234 : um_Iv um_cl um_AW R_Mo 234 8 M_Mo_catchAt 2 := ⟨⟨um_gd, wc_Mo_catchAt, wi_Mo, ⟨by decide, by decide, by decide +kernel⟩, Or.inl wl_Mo_234⟩, (R_Mo, F_Mo, 58), rfl, wn_Mo_catchAt, wv_Mo_catchAt⟩
set_option maxRecDepth 100000 in
theorem wf_Mo_238 : Cond.fieldLink R_Mo 238 (F_Mo 30).1 (F_Mo 30).2.1 (F_Mo 30).2.2.1 ∈ um_AW := um_in 790 (by decide +kernel) rfl
theorem f_Mo_238 : um_Fd um_cl um_AW R_Mo 238 8 30 := ⟨R_Mo, F_Mo, 58, cl_Mo, by decide, Or.inl wf_Mo_238⟩
theorem fw_Mo_238 : um_Fw um_cl um_AW R_Mo 238 8 30 .int := ⟨R_Mo, F_Mo, 58, cl_Mo, by decide, Or.inl wf_Mo_238, rfl, by decide +kernel⟩
set_option maxRecDepth 100000 in
theorem wf_Mo_241 : Cond.fieldLink R_Mo 241 (F_Mo 21).1 (F_Mo 21).2.1 (F_Mo 21).2.2.1 ∈ um_AW := um_in 781 (by decide +kernel) rfl
theorem f_Mo_241 : um_Fd um_cl um_AW R_Mo 241 8 21 := ⟨R_Mo, F_Mo, 58, cl_Mo, by decide, Or.inl wf_Mo_241⟩
theorem fw_Mo_241 : um_Fw um_cl um_AW R_Mo 241 8 21 .int := ⟨R_Mo, F_Mo, 58, cl_Mo, by decide, Or.inl wf_Mo_241, rfl, by decide +kernel⟩
set_option maxRecDepth 100000 in
theorem wf_Mo_244 : Cond.fieldLink R_Mo 244 (F_Mo 14).1 (F_Mo 14).2.1 (F_Mo 14).2.2.1 ∈ um_AW := um_in 774 (by decide +kernel) rfl
theorem f_Mo_244 : um_Fd um_cl um_AW R_Mo 244 8 14 := ⟨R_Mo, F_Mo, 58, cl_Mo, by decide, Or.inl wf_Mo_244⟩
theorem fw_Mo_244 : um_Fw um_cl um_AW R_Mo 244 8 14 .int := ⟨R_Mo, F_Mo, 58, cl_Mo, by decide, Or.inl wf_Mo_244, rfl, by decide +kernel⟩
set_option maxRecDepth 100000 in
theorem wl_Mo_247 : Cond.methodLink R_Mo 247 M_Mo_isAround.1 ∈ um_AW := um_in 1070 (by decide +kernel) rfl
set_option maxRecDepth 100000 in
theorem wn_Mo_isAround : Cond.instanceMethod M_Mo_isAround.1 ∈ um_AW := um_in 1072 (by decide +kernel) rfl
set_option maxRecDepth 100000 in
theorem wv_Mo_isAround : Cond.selects R_Mo M_Mo_isAround.1 M_Mo_isAround.1 ∈ um_AW := um_in 63 (by decide +kernel) rfl
theorem g_Mo_247 : um_Iv um_cl um_AW R_Mo 247 8 M_Mo_isAround 2 := ⟨⟨um_gd, wc_Mo_isAround, wi_Mo, ⟨by decide, by decide, by decide +kernel⟩, Or.inl wl_Mo_247⟩, (R_Mo, F_Mo, 58), rfl, wn_Mo_isAround, wv_Mo_isAround⟩
set_option maxRecDepth 100000 in
theorem wl_Mo_250 : Cond.methodLink R_Mo 250 M_Mo_row_IIIII.1 ∈ um_AW := um_in 1074 (by decide +kernel) rfl
set_option maxRecDepth 100000 in
theorem wn_Mo_row_IIIII : Cond.instanceMethod M_Mo_row_IIIII.1 ∈ um_AW := um_in 1076 (by decide +kernel) rfl
set_option maxRecDepth 100000 in
theorem wv_Mo_row_IIIII : Cond.selects R_Mo M_Mo_row_IIIII.1 M_Mo_row_IIIII.1 ∈ um_AW := um_in 64 (by decide +kernel) rfl
theorem g_Mo_250 : um_Iv um_cl um_AW R_Mo 250 8 M_Mo_row_IIIII 5 := ⟨⟨um_gd, wc_Mo_row_IIIII, wi_Mo, ⟨by decide, by decide, by decide +kernel⟩, Or.inl wl_Mo_250⟩, (R_Mo, F_Mo, 58), rfl, wn_Mo_row_IIIII, wv_Mo_row_IIIII⟩
set_option maxRecDepth 100000 in
theorem wl_Mo_254 : Cond.methodLink R_Mo 254 M_Mo_stretches.1 ∈ um_AW := um_in 1066 (by decide +kernel) rfl
set_option maxRecDepth 100000 in
theorem wn_Mo_stretches : Cond.instanceMethod M_Mo_stretches.1 ∈ um_AW := um_in 1068 (by decide +kernel) rfl
set_option maxRecDepth 100000 in
theorem wv_Mo_stretches : Cond.selects R_Mo M_Mo_stretches.1 M_Mo_stretches.1 ∈ um_AW := um_in 62 (by decide +kernel) rfl
theorem g_Mo_254 : um_Iv um_cl um_AW R_Mo 254 8 M_Mo_stretches 5 := ⟨⟨um_gd, wc_Mo_stretches, wi_Mo, ⟨by decide, by decide, by decide +kernel⟩, Or.inl wl_Mo_254⟩, (R_Mo, F_Mo, 58), rfl, wn_Mo_stretches, wv_Mo_stretches⟩
set_option maxRecDepth 100000 in
theorem k_Mo_258 : Cond.constant R_Mo 258 (-2147483648) ∈ um_AW := um_in 1078 (by decide +kernel) rfl
set_option maxRecDepth 100000 in
theorem k_Mo_259 : Cond.constant R_Mo 259 2147483647 ∈ um_AW := um_in 1079 (by decide +kernel) rfl
set_option maxRecDepth 100000 in
theorem wl_Mo_260 : Cond.methodLink R_Mo 260 M_Mo_goesOn.1 ∈ um_AW := um_in 990 (by decide +kernel) rfl
set_option maxRecDepth 100000 in
theorem wn_Mo_goesOn : Cond.instanceMethod M_Mo_goesOn.1 ∈ um_AW := um_in 992 (by decide +kernel) rfl
set_option maxRecDepth 100000 in
theorem wv_Mo_goesOn : Cond.selects R_Mo M_Mo_goesOn.1 M_Mo_goesOn.1 ∈ um_AW := um_in 43 (by decide +kernel) rfl
theorem g_Mo_260 : um_Iv um_cl um_AW R_Mo 260 8 M_Mo_goesOn 0 := ⟨⟨um_gd, wc_Mo_goesOn, wi_Mo, ⟨by decide, by decide, by decide +kernel⟩, Or.inl wl_Mo_260⟩, (R_Mo, F_Mo, 58), rfl, wn_Mo_goesOn, wv_Mo_goesOn⟩
set_option maxRecDepth 100000 in
theorem wl_Mo_263 : Cond.methodLink R_Mo 263 M_Mo_separates.1 ∈ um_AW := um_in 1058 (by decide +kernel) rfl
set_option maxRecDepth 100000 in
theorem wn_Mo_separates : Cond.instanceMethod M_Mo_separates.1 ∈ um_AW := um_in 1060 (by decide +kernel) rfl
set_option maxRecDepth 100000 in
theorem wv_Mo_separates : Cond.selects R_Mo M_Mo_separates.1 M_Mo_separates.1 ∈ um_AW := um_in 60 (by decide +kernel) rfl
theorem g_Mo_263 : um_Iv um_cl um_AW R_Mo 263 8 M_Mo_separates 1 := ⟨⟨um_gd, wc_Mo_separates, wi_Mo, ⟨by decide, by decide, by decide +kernel⟩, Or.inl wl_Mo_263⟩, (R_Mo, F_Mo, 58), rfl, wn_Mo_separates, wv_Mo_separates⟩
set_option maxRecDepth 100000 in
theorem wf_Mo_266 : Cond.fieldLink R_Mo 266 (F_Mo 9).1 (F_Mo 9).2.1 (F_Mo 9).2.2.1 ∈ um_AW := um_in 769 (by decide +kernel) rfl
theorem f_Mo_266 : um_Fd um_cl um_AW R_Mo 266 8 9 := ⟨R_Mo, F_Mo, 58, cl_Mo, by decide, Or.inl wf_Mo_266⟩
theorem fw_Mo_266 : um_Fw um_cl um_AW R_Mo 266 8 9 .boolean := ⟨R_Mo, F_Mo, 58, cl_Mo, by decide, Or.inl wf_Mo_266, rfl, by decide +kernel⟩
set_option maxRecDepth 100000 in
theorem wl_Mo_269 : Cond.methodLink R_Mo 269 M_Mo_laysAll.1 ∈ um_AW := um_in 982 (by decide +kernel) rfl
set_option maxRecDepth 100000 in
theorem wn_Mo_laysAll : Cond.instanceMethod M_Mo_laysAll.1 ∈ um_AW := um_in 984 (by decide +kernel) rfl
set_option maxRecDepth 100000 in
theorem wv_Mo_laysAll : Cond.selects R_Mo M_Mo_laysAll.1 M_Mo_laysAll.1 ∈ um_AW := um_in 41 (by decide +kernel) rfl
theorem g_Mo_269 : um_Iv um_cl um_AW R_Mo 269 8 M_Mo_laysAll 0 := ⟨⟨um_gd, wc_Mo_laysAll, wi_Mo, ⟨by decide, by decide, by decide +kernel⟩, Or.inl wl_Mo_269⟩, (R_Mo, F_Mo, 58), rfl, wn_Mo_laysAll, wv_Mo_laysAll⟩
set_option maxRecDepth 100000 in
theorem wl_Mo_272 : Cond.methodLink R_Mo 272 M_Mo_table.1 ∈ um_AW := um_in 1062 (by decide +kernel) rfl
set_option maxRecDepth 100000 in
theorem wn_Mo_table : Cond.instanceMethod M_Mo_table.1 ∈ um_AW := um_in 1064 (by decide +kernel) rfl
set_option maxRecDepth 100000 in
theorem wv_Mo_table : Cond.selects R_Mo M_Mo_table.1 M_Mo_table.1 ∈ um_AW := um_in 61 (by decide +kernel) rfl
theorem g_Mo_272 : um_Iv um_cl um_AW R_Mo 272 8 M_Mo_table 1 := ⟨⟨um_gd, wc_Mo_table, wi_Mo, ⟨by decide, by decide, by decide +kernel⟩, Or.inl wl_Mo_272⟩, (R_Mo, F_Mo, 58), rfl, wn_Mo_table, wv_Mo_table⟩
set_option maxRecDepth 100000 in
theorem wf_Mo_275 : Cond.fieldLink R_Mo 275 (F_Mo 53).1 (F_Mo 53).2.1 (F_Mo 53).2.2.1 ∈ um_AW := um_in 813 (by decide +kernel) rfl
theorem f_Mo_275 : um_Fd um_cl um_AW R_Mo 275 8 53 := ⟨R_Mo, F_Mo, 58, cl_Mo, by decide, Or.inl wf_Mo_275⟩
theorem fw_Mo_275 : um_Fw um_cl um_AW R_Mo 275 8 53 .int := ⟨R_Mo, F_Mo, 58, cl_Mo, by decide, Or.inl wf_Mo_275, rfl, by decide +kernel⟩
set_option maxRecDepth 100000 in
theorem wf_Mo_278 : Cond.fieldLink R_Mo 278 (F_Mo 51).1 (F_Mo 51).2.1 (F_Mo 51).2.2.1 ∈ um_AW := um_in 811 (by decide +kernel) rfl
theorem f_Mo_278 : um_Fd um_cl um_AW R_Mo 278 8 51 := ⟨R_Mo, F_Mo, 58, cl_Mo, by decide, Or.inl wf_Mo_278⟩
theorem fw_Mo_278 : um_Fw um_cl um_AW R_Mo 278 8 51 .int := ⟨R_Mo, F_Mo, 58, cl_Mo, by decide, Or.inl wf_Mo_278, rfl, by decide +kernel⟩
set_option maxRecDepth 100000 in
theorem wl_Mo_281 : Cond.methodLink R_Mo 281 M_Mo_push.1 ∈ um_AW := um_in 1104 (by decide +kernel) rfl
set_option maxRecDepth 100000 in
theorem wn_Mo_push : Cond.instanceMethod M_Mo_push.1 ∈ um_AW := um_in 1106 (by decide +kernel) rfl
set_option maxRecDepth 100000 in
theorem wv_Mo_push : Cond.selects R_Mo M_Mo_push.1 M_Mo_push.1 ∈ um_AW := um_in 66 (by decide +kernel) rfl
theorem g_Mo_281 : um_Iv um_cl um_AW R_Mo 281 8 M_Mo_push 1 := ⟨⟨um_gd, wc_Mo_push, wi_Mo, ⟨by decide, by decide, by decide +kernel⟩, Or.inl wl_Mo_281⟩, (R_Mo, F_Mo, 58), rfl, wn_Mo_push, wv_Mo_push⟩
set_option maxRecDepth 100000 in
theorem wf_Mo_284 : Cond.fieldLink R_Mo 284 (F_Mo 47).1 (F_Mo 47).2.1 (F_Mo 47).2.2.1 ∈ um_AW := um_in 807 (by decide +kernel) rfl
theorem f_Mo_284 : um_Fd um_cl um_AW R_Mo 284 8 47 := ⟨R_Mo, F_Mo, 58, cl_Mo, by decide, Or.inl wf_Mo_284⟩
theorem fw_Mo_284 : um_Fw um_cl um_AW R_Mo 284 8 47 .int := ⟨R_Mo, F_Mo, 58, cl_Mo, by decide, Or.inl wf_Mo_284, rfl, by decide +kernel⟩
set_option maxRecDepth 100000 in
theorem wl_Mo_287 : Cond.methodLink R_Mo 287 M_Mo_pop.1 ∈ um_AW := um_in 1108 (by decide +kernel) rfl
set_option maxRecDepth 100000 in
theorem wn_Mo_pop : Cond.instanceMethod M_Mo_pop.1 ∈ um_AW := um_in 1110 (by decide +kernel) rfl
set_option maxRecDepth 100000 in
theorem wv_Mo_pop : Cond.selects R_Mo M_Mo_pop.1 M_Mo_pop.1 ∈ um_AW := um_in 67 (by decide +kernel) rfl
theorem g_Mo_287 : um_Iv um_cl um_AW R_Mo 287 8 M_Mo_pop 0 := ⟨⟨um_gd, wc_Mo_pop, wi_Mo, ⟨by decide, by decide, by decide +kernel⟩, Or.inl wl_Mo_287⟩, (R_Mo, F_Mo, 58), rfl, wn_Mo_pop, wv_Mo_pop⟩
set_option maxRecDepth 100000 in
theorem wl_Mo_291 : Cond.methodLink R_Mo 291 M_Mo_throwing.1 ∈ um_AW := um_in 1112 (by decide +kernel) rfl
set_option maxRecDepth 100000 in
theorem wn_Mo_throwing : Cond.instanceMethod M_Mo_throwing.1 ∈ um_AW := um_in 1114 (by decide +kernel) rfl
set_option maxRecDepth 100000 in
theorem wv_Mo_throwing : Cond.selects R_Mo M_Mo_throwing.1 M_Mo_throwing.1 ∈ um_AW := um_in 68 (by decide +kernel) rfl
theorem g_Mo_291 : um_Iv um_cl um_AW R_Mo 291 8 M_Mo_throwing 1 := ⟨⟨um_gd, wc_Mo_throwing, wi_Mo, ⟨by decide, by decide, by decide +kernel⟩, Or.inl wl_Mo_291⟩, (R_Mo, F_Mo, 58), rfl, wn_Mo_throwing, wv_Mo_throwing⟩
set_option maxRecDepth 100000 in
theorem wl_Mo_294 : Cond.methodLink R_Mo 294 M_Mo_worked.1 ∈ um_AW := um_in 1128 (by decide +kernel) rfl
set_option maxRecDepth 100000 in
theorem ws_Mo_worked : Cond.static M_Mo_worked.1 ∈ um_AW := um_in 1129 (by decide +kernel) rfl
theorem g_Mo_294 : um_Is um_AW R_Mo 294 M_Mo_worked 3 := ⟨⟨um_gd, wc_Mo_worked, wi_Mo, ⟨by decide, by decide, by decide +kernel⟩, Or.inl wl_Mo_294⟩, ws_Mo_worked⟩
set_option maxRecDepth 100000 in
theorem wf_Mo_298 : Cond.fieldLink R_Mo 298 (F_Mo 52).1 (F_Mo 52).2.1 (F_Mo 52).2.2.1 ∈ um_AW := um_in 812 (by decide +kernel) rfl
theorem f_Mo_298 : um_Fd um_cl um_AW R_Mo 298 8 52 := ⟨R_Mo, F_Mo, 58, cl_Mo, by decide, Or.inl wf_Mo_298⟩
theorem fw_Mo_298 : um_Fw um_cl um_AW R_Mo 298 8 52 .int := ⟨R_Mo, F_Mo, 58, cl_Mo, by decide, Or.inl wf_Mo_298, rfl, by decide +kernel⟩
set_option maxRecDepth 100000 in
theorem wf_Mo_301 : Cond.fieldLink R_Mo 301 (F_Mo 49).1 (F_Mo 49).2.1 (F_Mo 49).2.2.1 ∈ um_AW := um_in 809 (by decide +kernel) rfl
theorem f_Mo_301 : um_Fd um_cl um_AW R_Mo 301 8 49 := ⟨R_Mo, F_Mo, 58, cl_Mo, by decide, Or.inl wf_Mo_301⟩
theorem fw_Mo_301 : um_Fw um_cl um_AW R_Mo 301 8 49 .int := ⟨R_Mo, F_Mo, 58, cl_Mo, by decide, Or.inl wf_Mo_301, rfl, by decide +kernel⟩
set_option maxRecDepth 100000 in
theorem wl_Mo_304 : Cond.methodLink R_Mo 304 M_Mo_calls.1 ∈ um_AW := um_in 1116 (by decide +kernel) rfl
set_option maxRecDepth 100000 in
theorem wn_Mo_calls : Cond.instanceMethod M_Mo_calls.1 ∈ um_AW := um_in 1118 (by decide +kernel) rfl
set_option maxRecDepth 100000 in
theorem wv_Mo_calls : Cond.selects R_Mo M_Mo_calls.1 M_Mo_calls.1 ∈ um_AW := um_in 69 (by decide +kernel) rfl
theorem g_Mo_304 : um_Iv um_cl um_AW R_Mo 304 8 M_Mo_calls 1 := ⟨⟨um_gd, wc_Mo_calls, wi_Mo, ⟨by decide, by decide, by decide +kernel⟩, Or.inl wl_Mo_304⟩, (R_Mo, F_Mo, 58), rfl, wn_Mo_calls, wv_Mo_calls⟩
set_option maxRecDepth 100000 in
theorem wl_Mo_307 : Cond.methodLink R_Mo 307 M_Mo_returns.1 ∈ um_AW := um_in 1120 (by decide +kernel) rfl
set_option maxRecDepth 100000 in
theorem wn_Mo_returns : Cond.instanceMethod M_Mo_returns.1 ∈ um_AW := um_in 1122 (by decide +kernel) rfl
set_option maxRecDepth 100000 in
theorem wv_Mo_returns : Cond.selects R_Mo M_Mo_returns.1 M_Mo_returns.1 ∈ um_AW := um_in 70 (by decide +kernel) rfl
theorem g_Mo_307 : um_Iv um_cl um_AW R_Mo 307 8 M_Mo_returns 0 := ⟨⟨um_gd, wc_Mo_returns, wi_Mo, ⟨by decide, by decide, by decide +kernel⟩, Or.inl wl_Mo_307⟩, (R_Mo, F_Mo, 58), rfl, wn_Mo_returns, wv_Mo_returns⟩
set_option maxRecDepth 100000 in
theorem wl_Mo_310 : Cond.methodLink R_Mo 310 M_Mo_works.1 ∈ um_AW := um_in 1124 (by decide +kernel) rfl
set_option maxRecDepth 100000 in
theorem wn_Mo_works : Cond.instanceMethod M_Mo_works.1 ∈ um_AW := um_in 1126 (by decide +kernel) rfl
set_option maxRecDepth 100000 in
theorem wv_Mo_works : Cond.selects R_Mo M_Mo_works.1 M_Mo_works.1 ∈ um_AW := um_in 71 (by decide +kernel) rfl
theorem g_Mo_310 : um_Iv um_cl um_AW R_Mo 310 8 M_Mo_works 1 := ⟨⟨um_gd, wc_Mo_works, wi_Mo, ⟨by decide, by decide, by decide +kernel⟩, Or.inl wl_Mo_310⟩, (R_Mo, F_Mo, 58), rfl, wn_Mo_works, wv_Mo_works⟩
set_option maxRecDepth 100000 in
theorem wf_Mo_313 : Cond.fieldLink R_Mo 313 (F_Mo 48).1 (F_Mo 48).2.1 (F_Mo 48).2.2.1 ∈ um_AW := um_in 808 (by decide +kernel) rfl
theorem f_Mo_313 : um_Fd um_cl um_AW R_Mo 313 8 48 := ⟨R_Mo, F_Mo, 58, cl_Mo, by decide, Or.inl wf_Mo_313⟩
theorem fw_Mo_313 : um_Fw um_cl um_AW R_Mo 313 8 48 .int := ⟨R_Mo, F_Mo, 58, cl_Mo, by decide, Or.inl wf_Mo_313, rfl, by decide +kernel⟩
set_option maxRecDepth 100000 in
theorem wl_Mo_316 : Cond.methodLink R_Mo 316 M_Mo_step.1 ∈ um_AW := um_in 1100 (by decide +kernel) rfl
set_option maxRecDepth 100000 in
theorem wn_Mo_step : Cond.instanceMethod M_Mo_step.1 ∈ um_AW := um_in 1102 (by decide +kernel) rfl
set_option maxRecDepth 100000 in
theorem wv_Mo_step : Cond.selects R_Mo M_Mo_step.1 M_Mo_step.1 ∈ um_AW := um_in 65 (by decide +kernel) rfl
theorem g_Mo_316 : um_Iv um_cl um_AW R_Mo 316 8 M_Mo_step 0 := ⟨⟨um_gd, wc_Mo_step, wi_Mo, ⟨by decide, by decide, by decide +kernel⟩, Or.inl wl_Mo_316⟩, (R_Mo, F_Mo, 58), rfl, wn_Mo_step, wv_Mo_step⟩
set_option maxRecDepth 100000 in
theorem wf_Sc_11 : Cond.fieldLink R_Sc 11 (F_Sc 0).1 (F_Sc 0).2.1 (F_Sc 0).2.2.1 ∈ um_AW := um_in 188 (by decide +kernel) rfl
theorem f_Sc_11 : um_Fd um_cl um_AW R_Sc 11 5 0 := ⟨R_Sc, F_Sc, 10, cl_Sc, by decide, Or.inl wf_Sc_11⟩
set_option maxRecDepth 100000 in
theorem wf_Sc_15 : Cond.fieldLink R_Sc 15 (F_Sc 1).1 (F_Sc 1).2.1 (F_Sc 1).2.2.1 ∈ um_AW := um_in 190 (by decide +kernel) rfl
theorem f_Sc_15 : um_Fd um_cl um_AW R_Sc 15 5 1 := ⟨R_Sc, F_Sc, 10, cl_Sc, by decide, Or.inl wf_Sc_15⟩
set_option maxRecDepth 100000 in
theorem wf_Sc_18 : Cond.fieldLink R_Sc 18 (F_Sc 2).1 (F_Sc 2).2.1 (F_Sc 2).2.2.1 ∈ um_AW := um_in 192 (by decide +kernel) rfl
theorem f_Sc_18 : um_Fd um_cl um_AW R_Sc 18 5 2 := ⟨R_Sc, F_Sc, 10, cl_Sc, by decide, Or.inl wf_Sc_18⟩
set_option maxRecDepth 100000 in
theorem wf_Sc_21 : Cond.fieldLink R_Sc 21 (F_Sc 3).1 (F_Sc 3).2.1 (F_Sc 3).2.2.1 ∈ um_AW := um_in 194 (by decide +kernel) rfl
theorem f_Sc_21 : um_Fd um_cl um_AW R_Sc 21 5 3 := ⟨R_Sc, F_Sc, 10, cl_Sc, by decide, Or.inl wf_Sc_21⟩
set_option maxRecDepth 100000 in
theorem wf_Sc_24 : Cond.fieldLink R_Sc 24 (F_Sc 4).1 (F_Sc 4).2.1 (F_Sc 4).2.2.1 ∈ um_AW := um_in 196 (by decide +kernel) rfl
theorem f_Sc_24 : um_Fd um_cl um_AW R_Sc 24 5 4 := ⟨R_Sc, F_Sc, 10, cl_Sc, by decide, Or.inl wf_Sc_24⟩
set_option maxRecDepth 100000 in
theorem wf_Sc_27 : Cond.fieldLink R_Sc 27 (F_Sc 5).1 (F_Sc 5).2.1 (F_Sc 5).2.2.1 ∈ um_AW := um_in 198 (by decide +kernel) rfl
theorem f_Sc_27 : um_Fd um_cl um_AW R_Sc 27 5 5 := ⟨R_Sc, F_Sc, 10, cl_Sc, by decide, Or.inl wf_Sc_27⟩
set_option maxRecDepth 100000 in
theorem wf_Sc_33 : Cond.fieldLink R_Sc 33 (F_Sc 7).1 (F_Sc 7).2.1 (F_Sc 7).2.2.1 ∈ um_AW := um_in 202 (by decide +kernel) rfl
theorem f_Sc_33 : um_Fd um_cl um_AW R_Sc 33 5 7 := ⟨R_Sc, F_Sc, 10, cl_Sc, by decide, Or.inl wf_Sc_33⟩
set_option maxRecDepth 100000 in
theorem wf_Sc_36 : Cond.fieldLink R_Sc 36 (F_Sc 8).1 (F_Sc 8).2.1 (F_Sc 8).2.2.1 ∈ um_AW := um_in 203 (by decide +kernel) rfl
theorem f_Sc_36 : um_Fd um_cl um_AW R_Sc 36 5 8 := ⟨R_Sc, F_Sc, 10, cl_Sc, by decide, Or.inl wf_Sc_36⟩
theorem fw_Sc_36 : um_Fw um_cl um_AW R_Sc 36 5 8 .int := ⟨R_Sc, F_Sc, 10, cl_Sc, by decide, Or.inl wf_Sc_36, rfl, by decide +kernel⟩
set_option maxRecDepth 100000 in
theorem wf_Sc_40 : Cond.fieldLink R_Sc 40 (F_Sc 9).1 (F_Sc 9).2.1 (F_Sc 9).2.2.1 ∈ um_AW := um_in 204 (by decide +kernel) rfl
theorem f_Sc_40 : um_Fd um_cl um_AW R_Sc 40 5 9 := ⟨R_Sc, F_Sc, 10, cl_Sc, by decide, Or.inl wf_Sc_40⟩
theorem fw_Sc_40 : um_Fw um_cl um_AW R_Sc 40 5 9 .int := ⟨R_Sc, F_Sc, 10, cl_Sc, by decide, Or.inl wf_Sc_40, rfl, by decide +kernel⟩
set_option maxRecDepth 100000 in
theorem wl_Sc_43 : Cond.methodLink R_Sc 43 M_Sc_open.1 ∈ um_AW := um_in 459 (by decide +kernel) rfl
set_option maxRecDepth 100000 in
theorem wn_Sc_open : Cond.instanceMethod M_Sc_open.1 ∈ um_AW := um_in 461 (by decide +kernel) rfl
set_option maxRecDepth 100000 in
theorem wv_Sc_open : Cond.selects R_Sc M_Sc_open.1 M_Sc_open.1 ∈ um_AW := um_in 8 (by decide +kernel) rfl
theorem g_Sc_43 : um_Iv um_cl um_AW R_Sc 43 5 M_Sc_open 1 := ⟨⟨um_gd, wc_Sc_open, wi_Sc, ⟨by decide, by decide, by decide +kernel⟩, Or.inl wl_Sc_43⟩, (R_Sc, F_Sc, 10), rfl, wn_Sc_open, wv_Sc_open⟩
set_option maxRecDepth 100000 in
theorem wl_Sc_47 : Cond.methodLink R_Sc 47 M_Sc_scopeOf.1 ∈ um_AW := um_in 463 (by decide +kernel) rfl
theorem g_Sc_47 : um_Is um_AW R_Sc 47 M_Sc_scopeOf 1 := ⟨⟨um_gd, wc_Sc_scopeOf, wi_Sc, ⟨by decide, by decide, by decide +kernel⟩, Or.inl wl_Sc_47⟩, ws_Sc_scopeOf⟩
set_option maxRecDepth 100000 in
theorem wl_Sc_50 : Cond.methodLink R_Sc 50 M_Sc_partOf.1 ∈ um_AW := um_in 485 (by decide +kernel) rfl
set_option maxRecDepth 100000 in
theorem ws_Sc_partOf : Cond.static M_Sc_partOf.1 ∈ um_AW := um_in 486 (by decide +kernel) rfl
theorem g_Sc_50 : um_Is um_AW R_Sc 50 M_Sc_partOf 1 := ⟨⟨um_gd, wc_Sc_partOf, wi_Sc, ⟨by decide, by decide, by decide +kernel⟩, Or.inl wl_Sc_50⟩, ws_Sc_partOf⟩
set_option maxRecDepth 100000 in
theorem wl_Sc_53 : Cond.methodLink R_Sc 53 M_Sc_partLookedAt.1 ∈ um_AW := um_in 555 (by decide +kernel) rfl
theorem g_Sc_53 : um_Iv um_cl um_AW R_Sc 53 5 M_Sc_partLookedAt 1 := ⟨⟨um_gd, wc_Sc_partLookedAt, wi_Sc, ⟨by decide, by decide, by decide +kernel⟩, Or.inl wl_Sc_53⟩, (R_Sc, F_Sc, 10), rfl, wn_Sc_partLookedAt, wv_Sc_partLookedAt⟩
set_option maxRecDepth 100000 in
theorem wf_Tr_9 : Cond.fieldLink R_Tr 9 (F_Tr 0).1 (F_Tr 0).2.1 (F_Tr 0).2.2.1 ∈ um_AW := um_in 106 (by decide +kernel) rfl
theorem f_Tr_9 : um_Fd um_cl um_AW R_Tr 9 1 0 := ⟨R_Tr, F_Tr, 4, cl_Tr, by decide, Or.inl wf_Tr_9⟩
set_option maxRecDepth 100000 in
theorem wf_Tr_15 : Cond.fieldLink R_Tr 15 (F_Tr 1).1 (F_Tr 1).2.1 (F_Tr 1).2.2.1 ∈ um_AW := um_in 107 (by decide +kernel) rfl
theorem f_Tr_15 : um_Fd um_cl um_AW R_Tr 15 1 1 := ⟨R_Tr, F_Tr, 4, cl_Tr, by decide, Or.inl wf_Tr_15⟩
set_option maxRecDepth 100000 in
theorem wf_Tr_18 : Cond.fieldLink R_Tr 18 (F_Tr 2).1 (F_Tr 2).2.1 (F_Tr 2).2.2.1 ∈ um_AW := um_in 108 (by decide +kernel) rfl
theorem f_Tr_18 : um_Fd um_cl um_AW R_Tr 18 1 2 := ⟨R_Tr, F_Tr, 4, cl_Tr, by decide, Or.inl wf_Tr_18⟩
set_option maxRecDepth 100000 in
theorem wf_Tr_29 : Cond.fieldLink R_Tr 29 (F_Tr 3).1 (F_Tr 3).2.1 (F_Tr 3).2.2.1 ∈ um_AW := um_in 110 (by decide +kernel) rfl
theorem f_Tr_29 : um_Fd um_cl um_AW R_Tr 29 1 3 := ⟨R_Tr, F_Tr, 4, cl_Tr, by decide, Or.inl wf_Tr_29⟩
theorem fw_Tr_29 : um_Fw um_cl um_AW R_Tr 29 1 3 .int := ⟨R_Tr, F_Tr, 4, cl_Tr, by decide, Or.inl wf_Tr_29, rfl, by decide +kernel⟩
set_option maxRecDepth 100000 in
theorem s_Tr_33 : Cond.fieldLink R_Tr 33 "UnwindMill$Tree" "SORTS" "[I" ∈ um_AW := um_in 369 (by decide +kernel) rfl
set_option maxRecDepth 100000 in
theorem wl_Tr_36 : Cond.methodLink R_Tr 36 M_Tr_fits.1 ∈ um_AW := um_in 371 (by decide +kernel) rfl
set_option maxRecDepth 100000 in
theorem wn_Tr_fits : Cond.instanceMethod M_Tr_fits.1 ∈ um_AW := um_in 373 (by decide +kernel) rfl
set_option maxRecDepth 100000 in
theorem wv_Tr_fits : Cond.selects R_Tr M_Tr_fits.1 M_Tr_fits.1 ∈ um_AW := um_in 0 (by decide +kernel) rfl
theorem g_Tr_36 : um_Iv um_cl um_AW R_Tr 36 1 M_Tr_fits 2 := ⟨⟨um_gd, wc_Tr_fits, wi_Tr, ⟨by decide, by decide, by decide +kernel⟩, Or.inl wl_Tr_36⟩, (R_Tr, F_Tr, 4), rfl, wn_Tr_fits, wv_Tr_fits⟩
set_option maxRecDepth 100000 in
theorem ws_UM_isFunction : Cond.static M_UM_isFunction.1 ∈ um_AW := um_in 383 (by decide +kernel) rfl
theorem g_Tr_40 : um_Is um_AW R_Tr 40 M_UM_isFunction 1 := ⟨⟨um_gd, wc_UM_isFunction, wi_UM, ⟨by decide, by decide, by decide +kernel⟩, Or.inr ⟨"UnwindMill", by decide +kernel⟩⟩, ws_UM_isFunction⟩
set_option maxRecDepth 100000 in
theorem wl_Tr_44 : Cond.methodLink R_Tr 44 M_Tr_part.1 ∈ um_AW := um_in 524 (by decide +kernel) rfl
theorem g_Tr_44 : um_Iv um_cl um_AW R_Tr 44 1 M_Tr_part 2 := ⟨⟨um_gd, wc_Tr_part, wi_Tr, ⟨by decide, by decide, by decide +kernel⟩, Or.inl wl_Tr_44⟩, (R_Tr, F_Tr, 4), rfl, wn_Tr_part, wv_Tr_part⟩
set_option maxRecDepth 100000 in
theorem wl_Tr_48 : Cond.methodLink R_Tr 48 M_Tr_kindOf.1 ∈ um_AW := um_in 375 (by decide +kernel) rfl
theorem g_Tr_48 : um_Iv um_cl um_AW R_Tr 48 1 M_Tr_kindOf 1 := ⟨⟨um_gd, wc_Tr_kindOf, wi_Tr, ⟨by decide, by decide, by decide +kernel⟩, Or.inl wl_Tr_48⟩, (R_Tr, F_Tr, 4), rfl, wn_Tr_kindOf, wv_Tr_kindOf⟩
set_option maxRecDepth 100000 in
theorem ws_UM_isVariable : Cond.static M_UM_isVariable.1 ∈ um_AW := um_in 380 (by decide +kernel) rfl
theorem g_Tr_52 : um_Is um_AW R_Tr 52 M_UM_isVariable 1 := ⟨⟨um_gd, wc_UM_isVariable, wi_UM, ⟨by decide, by decide, by decide +kernel⟩, Or.inr ⟨"UnwindMill", by decide +kernel⟩⟩, ws_UM_isVariable⟩
set_option maxRecDepth 100000 in
theorem wf_UM_10 : Cond.fieldLink R_UM 10 (F_UM 0).1 (F_UM 0).2.1 (F_UM 0).2.2.1 ∈ um_AW := um_in 348 (by decide +kernel) rfl
theorem f_UM_10 : um_Fd um_cl um_AW R_UM 10 0 0 := ⟨R_UM, F_UM, 4, cl_UM, by decide, Or.inl wf_UM_10⟩
set_option maxRecDepth 100000 in
theorem wf_UM_19 : Cond.fieldLink R_UM 19 (F_UM 1).1 (F_UM 1).2.1 (F_UM 1).2.2.1 ∈ um_AW := um_in 349 (by decide +kernel) rfl
theorem f_UM_19 : um_Fd um_cl um_AW R_UM 19 0 1 := ⟨R_UM, F_UM, 4, cl_UM, by decide, Or.inl wf_UM_19⟩
set_option maxRecDepth 100000 in
theorem wf_UM_28 : Cond.fieldLink R_UM 28 (F_UM 2).1 (F_UM 2).2.1 (F_UM 2).2.2.1 ∈ um_AW := um_in 350 (by decide +kernel) rfl
theorem f_UM_28 : um_Fd um_cl um_AW R_UM 28 0 2 := ⟨R_UM, F_UM, 4, cl_UM, by decide, Or.inl wf_UM_28⟩
set_option maxRecDepth 100000 in
theorem wf_UM_37 : Cond.fieldLink R_UM 37 (F_UM 3).1 (F_UM 3).2.1 (F_UM 3).2.2.1 ∈ um_AW := um_in 351 (by decide +kernel) rfl
theorem f_UM_37 : um_Fd um_cl um_AW R_UM 37 0 3 := ⟨R_UM, F_UM, 4, cl_UM, by decide, Or.inl wf_UM_37⟩
set_option maxRecDepth 100000 in
theorem wl_UM_41 : Cond.methodLink R_UM 41 M_Tr_add.1 ∈ um_AW := um_in 365 (by decide +kernel) rfl
set_option maxRecDepth 100000 in
theorem wn_Tr_add : Cond.instanceMethod M_Tr_add.1 ∈ um_AW := um_in 366 (by decide +kernel) rfl
set_option maxRecDepth 100000 in
theorem wv_Tr_add : Cond.selects R_Tr M_Tr_add.1 M_Tr_add.1 ∈ um_AW := um_in 367 (by decide +kernel) rfl
theorem g_UM_41 : um_Iv um_cl um_AW R_UM 41 1 M_Tr_add 6 := ⟨⟨um_gd, wc_Tr_add, wi_Tr, ⟨by decide, by decide, by decide +kernel⟩, Or.inl wl_UM_41⟩, (R_Tr, F_Tr, 4), rfl, wn_Tr_add, wv_Tr_add⟩
set_option maxRecDepth 100000 in
theorem wl_UM_47 : Cond.methodLink R_UM 47 M_Tr_setBody.1 ∈ um_AW := um_in 393 (by decide +kernel) rfl
set_option maxRecDepth 100000 in
theorem wn_Tr_setBody : Cond.instanceMethod M_Tr_setBody.1 ∈ um_AW := um_in 394 (by decide +kernel) rfl
set_option maxRecDepth 100000 in
theorem wv_Tr_setBody : Cond.selects R_Tr M_Tr_setBody.1 M_Tr_setBody.1 ∈ um_AW := um_in 395 (by decide +kernel) rfl
theorem g_UM_47 : um_Iv um_cl um_AW R_UM 47 1 M_Tr_setBody 2 := ⟨⟨um_gd, wc_Tr_setBody, wi_Tr, ⟨by decide, by decide, by decide +kernel⟩, Or.inl wl_UM_47⟩, (R_Tr, F_Tr, 4), rfl, wn_Tr_setBody, wv_Tr_setBody⟩
set_option maxRecDepth 100000 in
theorem wl_UM_51 : Cond.methodLink R_UM 51 M_La_layDown.1 ∈ um_AW := um_in 401 (by decide +kernel) rfl
set_option maxRecDepth 100000 in
theorem wn_La_layDown : Cond.instanceMethod M_La_layDown.1 ∈ um_AW := um_in 402 (by decide +kernel) rfl
set_option maxRecDepth 100000 in
theorem wv_La_layDown : Cond.selects R_La M_La_layDown.1 M_La_layDown.1 ∈ um_AW := um_in 403 (by decide +kernel) rfl
theorem g_UM_51 : um_Iv um_cl um_AW R_UM 51 3 M_La_layDown 1 := ⟨⟨um_gd, wc_La_layDown, wi_La, ⟨by decide, by decide, by decide +kernel⟩, Or.inl wl_UM_51⟩, (R_La, F_La, 9), rfl, wn_La_layDown, wv_La_layDown⟩
set_option maxRecDepth 100000 in
theorem wl_UM_55 : Cond.methodLink R_UM 55 M_Co_stands.1 ∈ um_AW := um_in 578 (by decide +kernel) rfl
set_option maxRecDepth 100000 in
theorem wn_Co_stands : Cond.instanceMethod M_Co_stands.1 ∈ um_AW := um_in 579 (by decide +kernel) rfl
set_option maxRecDepth 100000 in
theorem wv_Co_stands : Cond.selects R_Co M_Co_stands.1 M_Co_stands.1 ∈ um_AW := um_in 580 (by decide +kernel) rfl
theorem g_UM_55 : um_Iv um_cl um_AW R_UM 55 2 M_Co_stands 0 := ⟨⟨um_gd, wc_Co_stands, wi_Co, ⟨by decide, by decide, by decide +kernel⟩, Or.inl wl_UM_55⟩, (R_Co, F_Co, 9), rfl, wn_Co_stands, wv_Co_stands⟩
set_option maxRecDepth 100000 in
theorem wf_UM_59 : Cond.fieldLink R_UM 59 (F_Co 5).1 (F_Co 5).2.1 (F_Co 5).2.2.1 ∈ um_AW := um_in 147 (by decide +kernel) rfl
theorem f_UM_59 : um_Fd um_cl um_AW R_UM 59 2 5 := ⟨R_Co, F_Co, 9, cl_Co, by decide, Or.inl wf_UM_59⟩
set_option maxRecDepth 100000 in
theorem wf_UM_63 : Cond.fieldLink R_UM 63 (F_Co 6).1 (F_Co 6).2.1 (F_Co 6).2.2.1 ∈ um_AW := um_in 149 (by decide +kernel) rfl
theorem f_UM_63 : um_Fd um_cl um_AW R_UM 63 2 6 := ⟨R_Co, F_Co, 9, cl_Co, by decide, Or.inl wf_UM_63⟩
set_option maxRecDepth 100000 in
theorem wf_UM_66 : Cond.fieldLink R_UM 66 (F_Co 7).1 (F_Co 7).2.1 (F_Co 7).2.2.1 ∈ um_AW := um_in 152 (by decide +kernel) rfl
theorem f_UM_66 : um_Fd um_cl um_AW R_UM 66 2 7 := ⟨R_Co, F_Co, 9, cl_Co, by decide, Or.inl wf_UM_66⟩
set_option maxRecDepth 100000 in
theorem wf_UM_69 : Cond.fieldLink R_UM 69 (F_Co 8).1 (F_Co 8).2.1 (F_Co 8).2.2.1 ∈ um_AW := um_in 155 (by decide +kernel) rfl
theorem f_UM_69 : um_Fd um_cl um_AW R_UM 69 2 8 := ⟨R_Co, F_Co, 9, cl_Co, by decide, Or.inl wf_UM_69⟩
set_option maxRecDepth 100000 in
theorem wl_UM_91 : Cond.methodLink R_UM 91 M_UM_isFunction.1 ∈ um_AW := um_in 586 (by decide +kernel) rfl
theorem g_UM_91 : um_Is um_AW R_UM 91 M_UM_isFunction 1 := ⟨⟨um_gd, wc_UM_isFunction, wi_UM, ⟨by decide, by decide, by decide +kernel⟩, Or.inl wl_UM_91⟩, ws_UM_isFunction⟩
set_option maxRecDepth 100000 in
theorem wf_UM_95 : Cond.fieldLink R_UM 95 (F_Co 3).1 (F_Co 3).2.1 (F_Co 3).2.2.1 ∈ um_AW := um_in 140 (by decide +kernel) rfl
theorem f_UM_95 : um_Fd um_cl um_AW R_UM 95 2 3 := ⟨R_Co, F_Co, 9, cl_Co, by decide, Or.inl wf_UM_95⟩
set_option maxRecDepth 100000 in
theorem wl_UM_105 : Cond.methodLink R_UM 105 M_Ma_start.1 ∈ um_AW := um_in 591 (by decide +kernel) rfl
set_option maxRecDepth 100000 in
theorem wn_Ma_start : Cond.instanceMethod M_Ma_start.1 ∈ um_AW := um_in 592 (by decide +kernel) rfl
set_option maxRecDepth 100000 in
theorem wv_Ma_start : Cond.selects R_Ma M_Ma_start.1 M_Ma_start.1 ∈ um_AW := um_in 593 (by decide +kernel) rfl
theorem g_UM_105 : um_Iv um_cl um_AW R_UM 105 4 M_Ma_start 1 := ⟨⟨um_gd, wc_Ma_start, wi_Ma, ⟨by decide, by decide, by decide +kernel⟩, Or.inl wl_UM_105⟩, (R_Ma, F_Ma, 11), rfl, wn_Ma_start, wv_Ma_start⟩
set_option maxRecDepth 100000 in
theorem wf_UM_109 : Cond.fieldLink R_UM 109 (F_Ma 4).1 (F_Ma 4).2.1 (F_Ma 4).2.2.1 ∈ um_AW := um_in 318 (by decide +kernel) rfl
theorem f_UM_109 : um_Fd um_cl um_AW R_UM 109 4 4 := ⟨R_Ma, F_Ma, 11, cl_Ma, by decide, Or.inl wf_UM_109⟩
set_option maxRecDepth 100000 in
theorem wf_UM_113 : Cond.fieldLink R_UM 113 (F_Ma 3).1 (F_Ma 3).2.1 (F_Ma 3).2.2.1 ∈ um_AW := um_in 316 (by decide +kernel) rfl
theorem f_UM_113 : um_Fd um_cl um_AW R_UM 113 4 3 := ⟨R_Ma, F_Ma, 11, cl_Ma, by decide, Or.inl wf_UM_113⟩
set_option maxRecDepth 100000 in
theorem wf_UM_116 : Cond.fieldLink R_UM 116 (F_Ma 2).1 (F_Ma 2).2.1 (F_Ma 2).2.2.1 ∈ um_AW := um_in 314 (by decide +kernel) rfl
theorem f_UM_116 : um_Fd um_cl um_AW R_UM 116 4 2 := ⟨R_Ma, F_Ma, 11, cl_Ma, by decide, Or.inl wf_UM_116⟩
set_option maxRecDepth 100000 in
theorem wl_UM_119 : Cond.methodLink R_UM 119 M_UM_isVariable.1 ∈ um_AW := um_in 652 (by decide +kernel) rfl
theorem g_UM_119 : um_Is um_AW R_UM 119 M_UM_isVariable 1 := ⟨⟨um_gd, wc_UM_isVariable, wi_UM, ⟨by decide, by decide, by decide +kernel⟩, Or.inl wl_UM_119⟩, ws_UM_isVariable⟩
set_option maxRecDepth 100000 in
theorem wf_UM_122 : Cond.fieldLink R_UM 122 (F_Ma 1).1 (F_Ma 1).2.1 (F_Ma 1).2.2.1 ∈ um_AW := um_in 312 (by decide +kernel) rfl
theorem f_UM_122 : um_Fd um_cl um_AW R_UM 122 4 1 := ⟨R_Ma, F_Ma, 11, cl_Ma, by decide, Or.inl wf_UM_122⟩
set_option maxRecDepth 100000 in
theorem wf_Wo_11 : Cond.fieldLink R_Wo 11 (F_Wo 0).1 (F_Wo 0).2.1 (F_Wo 0).2.2.1 ∈ um_AW := um_in 232 (by decide +kernel) rfl
theorem f_Wo_11 : um_Fd um_cl um_AW R_Wo 11 6 0 := ⟨R_Wo, F_Wo, 5, cl_Wo, by decide, Or.inl wf_Wo_11⟩
set_option maxRecDepth 100000 in
theorem wf_Wo_15 : Cond.fieldLink R_Wo 15 (F_Wo 1).1 (F_Wo 1).2.1 (F_Wo 1).2.2.1 ∈ um_AW := um_in 234 (by decide +kernel) rfl
theorem f_Wo_15 : um_Fd um_cl um_AW R_Wo 15 6 1 := ⟨R_Wo, F_Wo, 5, cl_Wo, by decide, Or.inl wf_Wo_15⟩
set_option maxRecDepth 100000 in
theorem wf_Wo_18 : Cond.fieldLink R_Wo 18 (F_Wo 2).1 (F_Wo 2).2.1 (F_Wo 2).2.2.1 ∈ um_AW := um_in 236 (by decide +kernel) rfl
theorem f_Wo_18 : um_Fd um_cl um_AW R_Wo 18 6 2 := ⟨R_Wo, F_Wo, 5, cl_Wo, by decide, Or.inl wf_Wo_18⟩
set_option maxRecDepth 100000 in
theorem wf_Wo_21 : Cond.fieldLink R_Wo 21 (F_Wo 3).1 (F_Wo 3).2.1 (F_Wo 3).2.2.1 ∈ um_AW := um_in 238 (by decide +kernel) rfl
theorem f_Wo_21 : um_Fd um_cl um_AW R_Wo 21 6 3 := ⟨R_Wo, F_Wo, 5, cl_Wo, by decide, Or.inl wf_Wo_21⟩
set_option maxRecDepth 100000 in
theorem wf_Wo_24 : Cond.fieldLink R_Wo 24 (F_Wo 4).1 (F_Wo 4).2.1 (F_Wo 4).2.2.1 ∈ um_AW := um_in 240 (by decide +kernel) rfl
theorem f_Wo_24 : um_Fd um_cl um_AW R_Wo 24 6 4 := ⟨R_Wo, F_Wo, 5, cl_Wo, by decide, Or.inl wf_Wo_24⟩
theorem fw_Wo_24 : um_Fw um_cl um_AW R_Wo 24 6 4 .int := ⟨R_Wo, F_Wo, 5, cl_Wo, by decide, Or.inl wf_Wo_24, rfl, by decide +kernel⟩
