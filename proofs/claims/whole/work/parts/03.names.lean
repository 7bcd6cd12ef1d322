/-! Names of my own: classes, fields, methods, words of the tables. Printed by wip/gen/names.py out of the Statement. -/
def R_MB : String := "MockBook"
def R_Ma : String := "MockBook$Matchers"
def R_Ru : String := "MockBook$Rule"
def R_In : String := "MockBook$Interaction"
def R_AL : String := "java/util/ArrayList"
def R_MM : String := "MockBookModel"
def R_law : String := "MockBookLaw"
def R_Li : String := "java/util/AbstractList"
def R_Co : String := "java/util/AbstractCollection"
def R_Ob : String := "java/lang/Object"
def R_Os : String := "java/util/Objects"
def R_Pc : String := "jdk/internal/util/Preconditions"
def R_As : String := "jdk/internal/util/ArraysSupport"
def R_Ar : String := "java/util/Arrays"
def R_Mt : String := "java/lang/Math"
def R_Sy : String := "java/lang/System"
def F_MB : u_T := fun k => match k with
  | 0 => ("MockBook", "rules", "Ljava/util/ArrayList;", true)
  | 1 => ("MockBook", "interactions", "Ljava/util/ArrayList;", true)
  | 2 => ("MockBook", "strictMocks", "[Z", true)
  | 3 => ("MockBook", "buffer", "LMockBook$Matchers;", false)
  | _ => ("MockBook", "mark", "I", false)
def t_MB : Nat → FieldType := fun k => match k with
  | 0 => .object "java/util/ArrayList"
  | 1 => .object "java/util/ArrayList"
  | 2 => .array .boolean
  | 3 => .object "MockBook$Matchers"
  | _ => .int
theorem n_MB : ∀ a, a < 5 → ∀ b, b < 5 → a ≠ b → (F_MB a).2.1 ≠ (F_MB b).2.1 := by decide +kernel
theorem t_MB_ok : ∀ k, k < 5 → parseFieldDescriptor (F_MB k).2.2.1 = some (t_MB k) := by decide +kernel
def F_Ma : u_T := fun k => match k with
  | 0 => ("MockBook$Matchers", "kinds", "[I", true)
  | 1 => ("MockBook$Matchers", "values", "[I", true)
  | _ => ("MockBook$Matchers", "size", "I", false)
def t_Ma : Nat → FieldType := fun k => match k with
  | 0 => .array .int
  | 1 => .array .int
  | _ => .int
theorem n_Ma : ∀ a, a < 3 → ∀ b, b < 3 → a ≠ b → (F_Ma a).2.1 ≠ (F_Ma b).2.1 := by decide +kernel
theorem t_Ma_ok : ∀ k, k < 3 → parseFieldDescriptor (F_Ma k).2.2.1 = some (t_Ma k) := by decide +kernel
def F_Ru : u_T := fun k => match k with
  | 0 => ("MockBook$Rule", "mock", "I", true)
  | 1 => ("MockBook$Rule", "method", "I", true)
  | 2 => ("MockBook$Rule", "matchers", "LMockBook$Matchers;", true)
  | 3 => ("MockBook$Rule", "actionKinds", "[I", true)
  | 4 => ("MockBook$Rule", "actionValues", "[I", true)
  | 5 => ("MockBook$Rule", "actions", "I", false)
  | 6 => ("MockBook$Rule", "uses", "I", false)
  | _ => ("MockBook$Rule", "live", "Z", false)
def t_Ru : Nat → FieldType := fun k => match k with
  | 0 => .int
  | 1 => .int
  | 2 => .object "MockBook$Matchers"
  | 3 => .array .int
  | 4 => .array .int
  | 5 => .int
  | 6 => .int
  | _ => .boolean
theorem n_Ru : ∀ a, a < 8 → ∀ b, b < 8 → a ≠ b → (F_Ru a).2.1 ≠ (F_Ru b).2.1 := by decide +kernel
theorem t_Ru_ok : ∀ k, k < 8 → parseFieldDescriptor (F_Ru k).2.2.1 = some (t_Ru k) := by decide +kernel
def F_In : u_T := fun k => match k with
  | 0 => ("MockBook$Interaction", "mock", "I", true)
  | 1 => ("MockBook$Interaction", "method", "I", true)
  | 2 => ("MockBook$Interaction", "a", "I", true)
  | 3 => ("MockBook$Interaction", "b", "I", true)
  | 4 => ("MockBook$Interaction", "c", "I", true)
  | 5 => ("MockBook$Interaction", "depth", "I", true)
  | 6 => ("MockBook$Interaction", "from", "I", true)
  | 7 => ("MockBook$Interaction", "ruleNumber", "I", false)
  | 8 => ("MockBook$Interaction", "response", "J", false)
  | 9 => ("MockBook$Interaction", "verified", "Z", false)
  | _ => ("MockBook$Interaction", "live", "Z", false)
def t_In : Nat → FieldType := fun k => match k with
  | 0 => .int
  | 1 => .int
  | 2 => .int
  | 3 => .int
  | 4 => .int
  | 5 => .int
  | 6 => .int
  | 7 => .int
  | 8 => .long
  | 9 => .boolean
  | _ => .boolean
theorem n_In : ∀ a, a < 11 → ∀ b, b < 11 → a ≠ b → (F_In a).2.1 ≠ (F_In b).2.1 := by decide +kernel
theorem t_In_ok : ∀ k, k < 11 → parseFieldDescriptor (F_In k).2.2.1 = some (t_In k) := by decide +kernel
def F_AL : u_T := fun k => match k with
  | 0 => ("java/util/AbstractList", "modCount", "I", false)
  | 1 => ("java/util/ArrayList", "elementData", "[Ljava/lang/Object;", false)
  | _ => ("java/util/ArrayList", "size", "I", false)
def t_AL : Nat → FieldType := fun k => match k with
  | 0 => .int
  | 1 => .array (.object "java/lang/Object")
  | _ => .int
theorem n_AL : ∀ a, a < 3 → ∀ b, b < 3 → a ≠ b → (F_AL a).2.1 ≠ (F_AL b).2.1 := by decide +kernel
theorem t_AL_ok : ∀ k, k < 3 → parseFieldDescriptor (F_AL k).2.2.1 = some (t_AL k) := by decide +kernel
def F_MM : u_T := fun k => match k with
  | 0 => ("MockBookModel", "bufKind", "[I", true)
  | 1 => ("MockBookModel", "bufValue", "[I", true)
  | 2 => ("MockBookModel", "buffered", "I", false)
  | 3 => ("MockBookModel", "rMock", "[I", true)
  | 4 => ("MockBookModel", "rMethod", "[I", true)
  | 5 => ("MockBookModel", "rLive", "[Z", true)
  | 6 => ("MockBookModel", "mKind", "[I", true)
  | 7 => ("MockBookModel", "mValue", "[I", true)
  | 8 => ("MockBookModel", "aKind", "[I", true)
  | 9 => ("MockBookModel", "aValue", "[I", true)
  | 10 => ("MockBookModel", "actions", "[I", true)
  | 11 => ("MockBookModel", "rules", "I", false)
  | 12 => ("MockBookModel", "strict", "[Z", true)
  | 13 => ("MockBookModel", "iMock", "[I", true)
  | 14 => ("MockBookModel", "iMethod", "[I", true)
  | 15 => ("MockBookModel", "args", "[I", true)
  | 16 => ("MockBookModel", "depth", "[I", true)
  | 17 => ("MockBookModel", "from", "[I", true)
  | 18 => ("MockBookModel", "rule", "[I", true)
  | 19 => ("MockBookModel", "result", "[J", true)
  | 20 => ("MockBookModel", "iLive", "[Z", true)
  | 21 => ("MockBookModel", "verified", "[Z", true)
  | 22 => ("MockBookModel", "noted", "I", false)
  | _ => ("MockBookModel", "mark", "I", false)
def t_MM : Nat → FieldType := fun k => match k with
  | 0 => .array .int
  | 1 => .array .int
  | 2 => .int
  | 3 => .array .int
  | 4 => .array .int
  | 5 => .array .boolean
  | 6 => .array .int
  | 7 => .array .int
  | 8 => .array .int
  | 9 => .array .int
  | 10 => .array .int
  | 11 => .int
  | 12 => .array .boolean
  | 13 => .array .int
  | 14 => .array .int
  | 15 => .array .int
  | 16 => .array .int
  | 17 => .array .int
  | 18 => .array .int
  | 19 => .array .long
  | 20 => .array .boolean
  | 21 => .array .boolean
  | 22 => .int
  | _ => .int
theorem n_MM : ∀ a, a < 24 → ∀ b, b < 24 → a ≠ b → (F_MM a).2.1 ≠ (F_MM b).2.1 := by decide +kernel
theorem t_MM_ok : ∀ k, k < 24 → parseFieldDescriptor (F_MM k).2.2.1 = some (t_MM k) := by decide +kernel
abbrev classes : List vw_C := [(R_MB, F_MB, 5), (R_Ma, F_Ma, 3), (R_Ru, F_Ru, 8), (R_In, F_In, 11), (R_AL, F_AL, 3), (R_MM, F_MM, 24)]
abbrev b_MB_init : ByteArray := prog_1_method_1_code
def y_MB_init : MethodName := ⟨R_MB, "<init>", "()V"⟩
abbrev b_Ob_init : ByteArray := object_method_1_code
def y_Ob_init : MethodName := ⟨R_Ob, "<init>", "()V"⟩
abbrev b_AL_init : ByteArray := prog_14_method_2_code
def y_AL_init : MethodName := ⟨R_AL, "<init>", "()V"⟩
abbrev b_Li_init : ByteArray := prog_13_method_1_code
def y_Li_init : MethodName := ⟨R_Li, "<init>", "()V"⟩
abbrev b_Co_init : ByteArray := prog_12_method_1_code
def y_Co_init : MethodName := ⟨R_Co, "<init>", "()V"⟩
abbrev b_Ma_init : ByteArray := prog_3_method_1_code
def y_Ma_init : MethodName := ⟨R_Ma, "<init>", "()V"⟩
abbrev b_MB_matcher : ByteArray := prog_1_method_2_code
def y_MB_matcher : MethodName := ⟨R_MB, "matcher", "(II)I"⟩
abbrev b_MB_isWithin : ByteArray := prog_1_method_18_code
def y_MB_isWithin : MethodName := ⟨R_MB, "isWithin", "(III)Z"⟩
abbrev b_Ma_add : ByteArray := prog_3_method_2_code
def y_Ma_add : MethodName := ⟨R_Ma, "add", "(II)V"⟩
abbrev b_MB_drop : ByteArray := prog_1_method_3_code
def y_MB_drop : MethodName := ⟨R_MB, "drop", "()V"⟩
abbrev b_Ma_clear : ByteArray := prog_3_method_3_code
def y_Ma_clear : MethodName := ⟨R_Ma, "clear", "()V"⟩
abbrev b_MB_rule : ByteArray := prog_1_method_4_code
def y_MB_rule : MethodName := ⟨R_MB, "rule", "(II)I"⟩
abbrev b_MB_isMethod : ByteArray := prog_1_method_20_code
def y_MB_isMethod : MethodName := ⟨R_MB, "isMethod", "(II)Z"⟩
abbrev b_MB_isMock : ByteArray := prog_1_method_19_code
def y_MB_isMock : MethodName := ⟨R_MB, "isMock", "(I)Z"⟩
abbrev b_Ma_suits : ByteArray := prog_3_method_4_code
def y_Ma_suits : MethodName := ⟨R_Ma, "suits", "(I)Z"⟩
abbrev b_MB_argumentsOf : ByteArray := prog_1_method_23_code
def y_MB_argumentsOf : MethodName := ⟨R_MB, "argumentsOf", "(I)I"⟩
abbrev b_AL_size : ByteArray := prog_14_method_8_code
def y_AL_size : MethodName := ⟨R_AL, "size", "()I"⟩
abbrev b_Ru_init : ByteArray := prog_4_method_1_code
def y_Ru_init : MethodName := ⟨R_Ru, "<init>", "(IILMockBook$Matchers;)V"⟩
abbrev b_AL_add : ByteArray := prog_14_method_25_code
def y_AL_add : MethodName := ⟨R_AL, "add", "(Ljava/lang/Object;)Z"⟩
abbrev b_AL_add3 : ByteArray := prog_14_method_24_code
def y_AL_add3 : MethodName := ⟨R_AL, "add", "(Ljava/lang/Object;[Ljava/lang/Object;I)V"⟩
abbrev b_AL_grow : ByteArray := prog_14_method_7_code
def y_AL_grow : MethodName := ⟨R_AL, "grow", "()[Ljava/lang/Object;"⟩
abbrev b_AL_growI : ByteArray := prog_14_method_6_code
def y_AL_growI : MethodName := ⟨R_AL, "grow", "(I)[Ljava/lang/Object;"⟩
abbrev b_As_newLength : ByteArray := prog_21_method_27_code
def y_As_newLength : MethodName := ⟨R_As, "newLength", "(III)I"⟩
abbrev b_Mt_max : ByteArray := prog_10_method_65_code
def y_Mt_max : MethodName := ⟨R_Mt, "max", "(II)I"⟩
abbrev b_As_hugeLength : ByteArray := prog_21_method_28_code
def y_As_hugeLength : MethodName := ⟨R_As, "hugeLength", "(II)I"⟩
abbrev b_Ar_copyOf : ByteArray := prog_15_method_119_code
def y_Ar_copyOf : MethodName := ⟨R_Ar, "copyOf", "([Ljava/lang/Object;I)[Ljava/lang/Object;"⟩
abbrev b_Ar_copyOf3 : ByteArray := prog_15_method_120_code
def y_Ar_copyOf3 : MethodName := ⟨R_Ar, "copyOf", "([Ljava/lang/Object;ILjava/lang/Class;)[Ljava/lang/Object;"⟩
abbrev b_Mt_min : ByteArray := prog_10_method_69_code
def y_Mt_min : MethodName := ⟨R_Mt, "min", "(II)I"⟩
abbrev b_MB_then : ByteArray := prog_1_method_5_code
def y_MB_then : MethodName := ⟨R_MB, "then", "(III)I"⟩
abbrev b_MB_isRule : ByteArray := prog_1_method_21_code
def y_MB_isRule : MethodName := ⟨R_MB, "isRule", "(I)Z"⟩
abbrev b_AL_get : ByteArray := prog_14_method_20_code
def y_AL_get : MethodName := ⟨R_AL, "get", "(I)Ljava/lang/Object;"⟩
abbrev b_Os_checkIndex : ByteArray := prog_18_method_17_code
def y_Os_checkIndex : MethodName := ⟨R_Os, "checkIndex", "(II)I"⟩
abbrev b_Pc_checkIndex : ByteArray := prog_22_method_11_code
def y_Pc_checkIndex : MethodName := ⟨R_Pc, "checkIndex", "(IILjava/util/function/BiFunction;)I"⟩
abbrev b_AL_elementData : ByteArray := prog_14_method_18_code
def y_AL_elementData : MethodName := ⟨R_AL, "elementData", "(I)Ljava/lang/Object;"⟩
abbrev b_Ru_allows : ByteArray := prog_4_method_3_code
def y_Ru_allows : MethodName := ⟨R_Ru, "allows", "(II)Z"⟩
abbrev b_Ru_addAction : ByteArray := prog_4_method_4_code
def y_Ru_addAction : MethodName := ⟨R_Ru, "addAction", "(II)V"⟩
abbrev b_MB_strict : ByteArray := prog_1_method_6_code
def y_MB_strict : MethodName := ⟨R_MB, "strict", "(IZ)I"⟩
abbrev b_MB_asNumber : ByteArray := prog_1_method_24_code
def y_MB_asNumber : MethodName := ⟨R_MB, "asNumber", "(Z)I"⟩
abbrev b_MB_call : ByteArray := prog_1_method_7_code
def y_MB_call : MethodName := ⟨R_MB, "call", "(IIIII)J"⟩
abbrev b_MB_noteAndRespond : ByteArray := prog_1_method_25_code
def y_MB_noteAndRespond : MethodName := ⟨R_MB, "noteAndRespond", "(IIIIIII)J"⟩
abbrev b_In_init : ByteArray := prog_2_method_1_code
def y_In_init : MethodName := ⟨R_In, "<init>", "(IIIIIII)V"⟩
abbrev b_MB_ruleNumberFor : ByteArray := prog_1_method_28_code
def y_MB_ruleNumberFor : MethodName := ⟨R_MB, "ruleNumberFor", "(LMockBook$Interaction;)I"⟩
abbrev b_Ru_answersTo : ByteArray := prog_4_method_2_code
def y_Ru_answersTo : MethodName := ⟨R_Ru, "answersTo", "(LMockBook$Interaction;)Z"⟩
abbrev b_Ma_fit : ByteArray := prog_3_method_5_code
def y_Ma_fit : MethodName := ⟨R_Ma, "fit", "(LMockBook$Interaction;)Z"⟩
abbrev b_In_argument : ByteArray := prog_2_method_2_code
def y_In_argument : MethodName := ⟨R_In, "argument", "(I)I"⟩
abbrev b_Ma_fitsOne : ByteArray := prog_3_method_6_code
def y_Ma_fitsOne : MethodName := ⟨R_Ma, "fitsOne", "(III)Z"⟩
abbrev b_Mt_floorMod : ByteArray := prog_10_method_50_code
def y_Mt_floorMod : MethodName := ⟨R_Mt, "floorMod", "(II)I"⟩
abbrev b_MB_respond : ByteArray := prog_1_method_26_code
def y_MB_respond : MethodName := ⟨R_MB, "respond", "(LMockBook$Interaction;II)J"⟩
abbrev b_Ru_placeInTurn : ByteArray := prog_4_method_5_code
def y_Ru_placeInTurn : MethodName := ⟨R_Ru, "placeInTurn", "()I"⟩
abbrev b_MB_pass : ByteArray := prog_1_method_27_code
def y_MB_pass : MethodName := ⟨R_MB, "pass", "(LMockBook$Interaction;III)J"⟩
abbrev b_MB_verify : ByteArray := prog_1_method_8_code
def y_MB_verify : MethodName := ⟨R_MB, "verify", "(IIII)I"⟩
abbrev b_MB_countSought : ByteArray := prog_1_method_30_code
def y_MB_countSought : MethodName := ⟨R_MB, "countSought", "(II)I"⟩
abbrev b_MB_isSought : ByteArray := prog_1_method_29_code
def y_MB_isSought : MethodName := ⟨R_MB, "isSought", "(LMockBook$Interaction;II)Z"⟩
abbrev b_MB_isWanted : ByteArray := prog_1_method_33_code
def y_MB_isWanted : MethodName := ⟨R_MB, "isWanted", "(III)Z"⟩
abbrev b_MB_verifySought : ByteArray := prog_1_method_31_code
def y_MB_verifySought : MethodName := ⟨R_MB, "verifySought", "(II)V"⟩
abbrev b_MB_inOrder : ByteArray := prog_1_method_9_code
def y_MB_inOrder : MethodName := ⟨R_MB, "inOrder", "(II)I"⟩
abbrev b_MB_firstSoughtAfterMark : ByteArray := prog_1_method_32_code
def y_MB_firstSoughtAfterMark : MethodName := ⟨R_MB, "firstSoughtAfterMark", "(II)I"⟩
abbrev b_MB_rewind : ByteArray := prog_1_method_10_code
def y_MB_rewind : MethodName := ⟨R_MB, "rewind", "()I"⟩
abbrev b_MB_open : ByteArray := prog_1_method_11_code
def y_MB_open : MethodName := ⟨R_MB, "open", "(I)I"⟩
abbrev b_MB_unused : ByteArray := prog_1_method_12_code
def y_MB_unused : MethodName := ⟨R_MB, "unused", "()I"⟩
abbrev b_MB_reset : ByteArray := prog_1_method_13_code
def y_MB_reset : MethodName := ⟨R_MB, "reset", "(I)I"⟩
abbrev b_MB_endRules : ByteArray := prog_1_method_34_code
def y_MB_endRules : MethodName := ⟨R_MB, "endRules", "(I)V"⟩
abbrev b_MB_endInteractions : ByteArray := prog_1_method_35_code
def y_MB_endInteractions : MethodName := ⟨R_MB, "endInteractions", "(I)I"⟩
abbrev b_MB_noted : ByteArray := prog_1_method_14_code
def y_MB_noted : MethodName := ⟨R_MB, "noted", "(II)J"⟩
abbrev b_MB_isInteraction : ByteArray := prog_1_method_22_code
def y_MB_isInteraction : MethodName := ⟨R_MB, "isInteraction", "(I)Z"⟩
abbrev b_MB_answer : ByteArray := prog_1_method_15_code
def y_MB_answer : MethodName := ⟨R_MB, "answer", "(I)J"⟩
abbrev b_MB_about : ByteArray := prog_1_method_16_code
def y_MB_about : MethodName := ⟨R_MB, "about", "(II)I"⟩
abbrev b_MB_count : ByteArray := prog_1_method_17_code
def y_MB_count : MethodName := ⟨R_MB, "count", "(I)I"⟩
abbrev b_MB_countLiveInteractions : ByteArray := prog_1_method_36_code
def y_MB_countLiveInteractions : MethodName := ⟨R_MB, "countLiveInteractions", "(Z)I"⟩
abbrev b_MB_countLiveRules : ByteArray := prog_1_method_37_code
def y_MB_countLiveRules : MethodName := ⟨R_MB, "countLiveRules", "()I"⟩
abbrev b_MM_init : ByteArray := prog_6_method_1_code
def y_MM_init : MethodName := ⟨R_MM, "<init>", "()V"⟩
abbrev b_MM_matcher : ByteArray := prog_6_method_4_code
def y_MM_matcher : MethodName := ⟨R_MM, "matcher", "(II)I"⟩
abbrev b_MM_drop : ByteArray := prog_6_method_5_code
def y_MM_drop : MethodName := ⟨R_MM, "drop", "()V"⟩
abbrev b_MM_rule : ByteArray := prog_6_method_6_code
def y_MM_rule : MethodName := ⟨R_MM, "rule", "(II)I"⟩
abbrev b_MM_bad : ByteArray := prog_6_method_2_code
def y_MM_bad : MethodName := ⟨R_MM, "bad", "(II)Z"⟩
abbrev b_MM_then : ByteArray := prog_6_method_7_code
def y_MM_then : MethodName := ⟨R_MM, "then", "(III)I"⟩
abbrev b_MM_strict : ByteArray := prog_6_method_8_code
def y_MM_strict : MethodName := ⟨R_MM, "strict", "(IZ)I"⟩
abbrev b_MM_call : ByteArray := prog_6_method_14_code
def y_MM_call : MethodName := ⟨R_MM, "call", "(IIIII)J"⟩
abbrev b_MM_note : ByteArray := prog_6_method_11_code
def y_MM_note : MethodName := ⟨R_MM, "note", "(IIII)I"⟩
abbrev b_MM_action : ByteArray := prog_6_method_12_code
def y_MM_action : MethodName := ⟨R_MM, "action", "(I)I"⟩
abbrev b_MM_ruleFits : ByteArray := prog_6_method_9_code
def y_MM_ruleFits : MethodName := ⟨R_MM, "ruleFits", "(II)Z"⟩
abbrev b_MM_fits : ByteArray := prog_6_method_3_code
def y_MM_fits : MethodName := ⟨R_MM, "fits", "(III)Z"⟩
abbrev b_MM_uses : ByteArray := prog_6_method_10_code
def y_MM_uses : MethodName := ⟨R_MM, "uses", "(II)I"⟩
abbrev b_MM_plain : ByteArray := prog_6_method_13_code
def y_MM_plain : MethodName := ⟨R_MM, "plain", "(II)J"⟩
abbrev b_MM_verify : ByteArray := prog_6_method_16_code
def y_MM_verify : MethodName := ⟨R_MM, "verify", "(IIII)I"⟩
abbrev b_MM_asked : ByteArray := prog_6_method_15_code
def y_MM_asked : MethodName := ⟨R_MM, "asked", "(III)Z"⟩
abbrev b_MM_inOrder : ByteArray := prog_6_method_17_code
def y_MM_inOrder : MethodName := ⟨R_MM, "inOrder", "(II)I"⟩
abbrev b_MM_rewind : ByteArray := prog_6_method_18_code
def y_MM_rewind : MethodName := ⟨R_MM, "rewind", "()I"⟩
abbrev b_MM_open : ByteArray := prog_6_method_19_code
def y_MM_open : MethodName := ⟨R_MM, "open", "(I)I"⟩
abbrev b_MM_unused : ByteArray := prog_6_method_20_code
def y_MM_unused : MethodName := ⟨R_MM, "unused", "()I"⟩
abbrev b_MM_reset : ByteArray := prog_6_method_21_code
def y_MM_reset : MethodName := ⟨R_MM, "reset", "(I)I"⟩
abbrev b_MM_noted : ByteArray := prog_6_method_22_code
def y_MM_noted : MethodName := ⟨R_MM, "noted", "(II)J"⟩
abbrev b_MM_answer : ByteArray := prog_6_method_23_code
def y_MM_answer : MethodName := ⟨R_MM, "answer", "(I)J"⟩
abbrev b_MM_about : ByteArray := prog_6_method_24_code
def y_MM_about : MethodName := ⟨R_MM, "about", "(II)I"⟩
abbrev b_MM_count : ByteArray := prog_6_method_25_code
def y_MM_count : MethodName := ⟨R_MM, "count", "(I)I"⟩
/-- the words that stay true whatever a method does -/
def TT : List Cond := lw_tbl.filter goodWord
theorem TT_good : ∀ w ∈ TT, goodWord w = true := fun w h => (List.mem_filter.mp h).2
theorem TT_tbl : ∀ w ∈ TT, w ∈ lw_tbl := fun w h => (List.mem_filter.mp h).1
theorem TT_at {w : Cond} (i : Nat) (h : lw_tbl[i]? = some w) (g : goodWord w = true) : w ∈ TT := List.mem_filter.mpr ⟨List.mem_of_getElem? h, g⟩
def gNW : List Cond := [.methodLinkNest R_MB 25 y_Ma_init R_MB, .methodLinkNest R_Ma 22 y_MB_argumentsOf R_MB, .methodLinkNest R_Ru 49 y_MB_argumentsOf R_MB, .methodLinkNest R_Ru 53 y_MB_isWithin R_MB, .methodLinkNest R_In 28 y_MB_argumentsOf R_MB, .castable R_Ru R_Ru, .castable R_In R_In, .castable R_MB R_Ob, .castable R_Ma R_Ob, .castable R_MM R_Ob, .castable R_Ru R_Ob, .castable R_In R_Ob]
theorem k_0 : Cond.initialized R_law ∈ TT := TT_at 23 (by decide +kernel) (by decide +kernel)
theorem k_1 : Cond.initialized R_MB ∈ TT := TT_at 24 (by decide +kernel) (by decide +kernel)
theorem k_2 : Cond.initialized R_Co ∈ TT := TT_at 25 (by decide +kernel) (by decide +kernel)
theorem k_3 : Cond.initialized R_Li ∈ TT := TT_at 26 (by decide +kernel) (by decide +kernel)
theorem k_4 : Cond.initialized R_AL ∈ TT := TT_at 27 (by decide +kernel) (by decide +kernel)
theorem k_5 : Cond.initialized R_Ma ∈ TT := TT_at 28 (by decide +kernel) (by decide +kernel)
theorem k_6 : Cond.initialized R_MM ∈ TT := TT_at 29 (by decide +kernel) (by decide +kernel)
theorem k_7 : Cond.initialized R_Ru ∈ TT := TT_at 30 (by decide +kernel) (by decide +kernel)
theorem k_8 : Cond.initialized R_As ∈ TT := TT_at 31 (by decide +kernel) (by decide +kernel)
theorem k_9 : Cond.initialized R_Mt ∈ TT := TT_at 32 (by decide +kernel) (by decide +kernel)
theorem k_10 : Cond.initialized R_Ar ∈ TT := TT_at 33 (by decide +kernel) (by decide +kernel)
theorem k_11 : Cond.initialized R_Sy ∈ TT := TT_at 34 (by decide +kernel) (by decide +kernel)
theorem k_12 : Cond.initialized R_Os ∈ TT := TT_at 35 (by decide +kernel) (by decide +kernel)
theorem k_13 : Cond.initialized R_Pc ∈ TT := TT_at 36 (by decide +kernel) (by decide +kernel)
theorem k_14 : Cond.initialized R_In ∈ TT := TT_at 37 (by decide +kernel) (by decide +kernel)
theorem k_15 : Cond.classLink R_law 7 R_MB ∈ TT := TT_at 38 (by decide +kernel) (by decide +kernel)
theorem k_16 : Cond.instantiable R_MB 5 ∈ TT := TT_at 39 (by decide +kernel) (by decide +kernel)
theorem k_17 : Cond.methodLink R_law 9 y_MB_init ∈ TT := TT_at 40 (by decide +kernel) (by decide +kernel)
theorem k_18 : Cond.instanceMethod y_MB_init ∈ TT := TT_at 41 (by decide +kernel) (by decide +kernel)
set_option maxRecDepth 20000 in
theorem k_19 : Cond.code y_MB_init b_MB_init 1 none ∈ TT := TT_at 42 rfl rfl
theorem k_20 : Cond.methodLink R_MB 1 y_Ob_init ∈ TT := TT_at 43 (by decide +kernel) (by decide +kernel)
theorem k_21 : Cond.instanceMethod y_Ob_init ∈ TT := TT_at 44 (by decide +kernel) (by decide +kernel)
set_option maxRecDepth 20000 in
theorem k_22 : Cond.code y_Ob_init b_Ob_init 1 none ∈ TT := TT_at 45 rfl rfl
theorem k_23 : Cond.classLink R_MB 7 R_AL ∈ TT := TT_at 46 (by decide +kernel) (by decide +kernel)
theorem k_24 : Cond.instantiable R_AL 3 ∈ TT := TT_at 47 (by decide +kernel) (by decide +kernel)
theorem k_25 : Cond.methodLink R_MB 9 y_AL_init ∈ TT := TT_at 48 (by decide +kernel) (by decide +kernel)
theorem k_26 : Cond.instanceMethod y_AL_init ∈ TT := TT_at 49 (by decide +kernel) (by decide +kernel)
set_option maxRecDepth 20000 in
theorem k_27 : Cond.code y_AL_init b_AL_init 1 none ∈ TT := TT_at 50 rfl rfl
theorem k_28 : Cond.methodLink R_AL 1 y_Li_init ∈ TT := TT_at 51 (by decide +kernel) (by decide +kernel)
theorem k_29 : Cond.instanceMethod y_Li_init ∈ TT := TT_at 52 (by decide +kernel) (by decide +kernel)
set_option maxRecDepth 20000 in
theorem k_30 : Cond.code y_Li_init b_Li_init 1 none ∈ TT := TT_at 53 rfl rfl
theorem k_31 : Cond.methodLink R_Li 1 y_Co_init ∈ TT := TT_at 54 (by decide +kernel) (by decide +kernel)
theorem k_32 : Cond.instanceMethod y_Co_init ∈ TT := TT_at 55 (by decide +kernel) (by decide +kernel)
set_option maxRecDepth 20000 in
theorem k_33 : Cond.code y_Co_init b_Co_init 1 none ∈ TT := TT_at 56 rfl rfl
theorem k_34 : Cond.methodLink R_Co 1 y_Ob_init ∈ TT := TT_at 57 (by decide +kernel) (by decide +kernel)
theorem k_35 : Cond.fieldLink R_AL 39 "java/util/ArrayList" "DEFAULTCAPACITY_EMPTY_ELEMENTDATA" "[Ljava/lang/Object;" ∈ TT := TT_at 58 (by decide +kernel) (by decide +kernel)
theorem k_37 : Cond.fieldLink R_AL 9 "java/util/ArrayList" "elementData" "[Ljava/lang/Object;" ∈ TT := TT_at 60 (by decide +kernel) (by decide +kernel)
theorem k_38 : Cond.fieldLink R_AL 48 "java/util/ArrayList" "size" "I" ∈ TT := TT_at 61 (by decide +kernel) (by decide +kernel)
theorem k_39 : Cond.fieldLink R_Li 7 "java/util/AbstractList" "modCount" "I" ∈ TT := TT_at 62 (by decide +kernel) (by decide +kernel)
theorem k_40 : Cond.fieldLink R_AL 63 "java/util/ArrayList" "modCount" "I" ∈ TT := TT_at 63 (by decide +kernel) (by decide +kernel)
theorem k_41 : Cond.sameField "java/util/ArrayList" "java/util/AbstractList" "modCount" "I" ∈ TT := TT_at 64 (by decide +kernel) (by decide +kernel)
theorem k_49 : Cond.classLink R_MB 23 R_Ma ∈ TT := TT_at 72 (by decide +kernel) (by decide +kernel)
theorem k_50 : Cond.instantiable R_Ma 3 ∈ TT := TT_at 73 (by decide +kernel) (by decide +kernel)
theorem k_52 : Cond.instanceMethod y_Ma_init ∈ TT := TT_at 75 (by decide +kernel) (by decide +kernel)
set_option maxRecDepth 20000 in
theorem k_53 : Cond.code y_Ma_init b_Ma_init 1 none ∈ TT := TT_at 76 rfl rfl
theorem k_54 : Cond.methodLink R_Ma 3 y_Ob_init ∈ TT := TT_at 77 (by decide +kernel) (by decide +kernel)
theorem k_55 : Cond.fieldLink R_Ma 9 "MockBook$Matchers" "kinds" "[I" ∈ TT := TT_at 78 (by decide +kernel) (by decide +kernel)
theorem k_56 : Cond.fieldLink R_Ma 15 "MockBook$Matchers" "values" "[I" ∈ TT := TT_at 79 (by decide +kernel) (by decide +kernel)
theorem k_57 : Cond.fieldLink R_Ma 18 "MockBook$Matchers" "size" "I" ∈ TT := TT_at 80 (by decide +kernel) (by decide +kernel)
theorem k_58 : Cond.fieldLink R_MB 38 "MockBook$Matchers" "size" "I" ∈ TT := TT_at 81 (by decide +kernel) (by decide +kernel)
theorem k_66 : Cond.arrayClass .boolean ∈ TT := TT_at 89 (by decide +kernel) (by decide +kernel)
theorem k_67 : Cond.arrayClass .int ∈ TT := TT_at 90 (by decide +kernel) (by decide +kernel)
theorem k_68 : Cond.fieldLink R_MB 10 "MockBook" "rules" "Ljava/util/ArrayList;" ∈ TT := TT_at 91 (by decide +kernel) (by decide +kernel)
theorem k_69 : Cond.fieldLink R_MB 16 "MockBook" "interactions" "Ljava/util/ArrayList;" ∈ TT := TT_at 92 (by decide +kernel) (by decide +kernel)
theorem k_70 : Cond.fieldLink R_MB 19 "MockBook" "strictMocks" "[Z" ∈ TT := TT_at 93 (by decide +kernel) (by decide +kernel)
theorem k_71 : Cond.fieldLink R_MB 26 "MockBook" "buffer" "LMockBook$Matchers;" ∈ TT := TT_at 94 (by decide +kernel) (by decide +kernel)
theorem k_72 : Cond.fieldLink R_MB 30 "MockBook" "mark" "I" ∈ TT := TT_at 95 (by decide +kernel) (by decide +kernel)
theorem k_84 : Cond.methodLink R_law 13 y_MB_matcher ∈ TT := TT_at 107 (by decide +kernel) (by decide +kernel)
theorem k_85 : Cond.instanceMethod y_MB_matcher ∈ TT := TT_at 108 (by decide +kernel) (by decide +kernel)
theorem k_86 : Cond.selects R_MB y_MB_matcher y_MB_matcher ∈ TT := TT_at 109 (by decide +kernel) (by decide +kernel)
set_option maxRecDepth 20000 in
theorem k_87 : Cond.code y_MB_matcher b_MB_matcher 3 (some .int) ∈ TT := TT_at 110 rfl rfl
theorem k_88 : Cond.methodLink R_MB 34 y_MB_isWithin ∈ TT := TT_at 111 (by decide +kernel) (by decide +kernel)
theorem k_89 : Cond.static y_MB_isWithin ∈ TT := TT_at 112 (by decide +kernel) (by decide +kernel)
set_option maxRecDepth 20000 in
theorem k_90 : Cond.code y_MB_isWithin b_MB_isWithin 3 (some .boolean) ∈ TT := TT_at 113 rfl rfl
theorem k_91 : Cond.methodLink R_MB 41 y_Ma_add ∈ TT := TT_at 114 (by decide +kernel) (by decide +kernel)
theorem k_92 : Cond.instanceMethod y_Ma_add ∈ TT := TT_at 115 (by decide +kernel) (by decide +kernel)
theorem k_93 : Cond.selects R_Ma y_Ma_add y_Ma_add ∈ TT := TT_at 116 (by decide +kernel) (by decide +kernel)
set_option maxRecDepth 20000 in
theorem k_94 : Cond.code y_Ma_add b_Ma_add 3 none ∈ TT := TT_at 117 rfl rfl
theorem k_95 : Cond.methodLink R_law 18 y_MB_drop ∈ TT := TT_at 118 (by decide +kernel) (by decide +kernel)
theorem k_96 : Cond.instanceMethod y_MB_drop ∈ TT := TT_at 119 (by decide +kernel) (by decide +kernel)
theorem k_97 : Cond.selects R_MB y_MB_drop y_MB_drop ∈ TT := TT_at 120 (by decide +kernel) (by decide +kernel)
set_option maxRecDepth 20000 in
theorem k_98 : Cond.code y_MB_drop b_MB_drop 1 none ∈ TT := TT_at 121 rfl rfl
theorem k_99 : Cond.methodLink R_MB 45 y_Ma_clear ∈ TT := TT_at 122 (by decide +kernel) (by decide +kernel)
theorem k_100 : Cond.instanceMethod y_Ma_clear ∈ TT := TT_at 123 (by decide +kernel) (by decide +kernel)
theorem k_101 : Cond.selects R_Ma y_Ma_clear y_Ma_clear ∈ TT := TT_at 124 (by decide +kernel) (by decide +kernel)
set_option maxRecDepth 20000 in
theorem k_102 : Cond.code y_Ma_clear b_Ma_clear 1 none ∈ TT := TT_at 125 rfl rfl
theorem k_103 : Cond.methodLink R_law 22 y_MB_rule ∈ TT := TT_at 126 (by decide +kernel) (by decide +kernel)
theorem k_104 : Cond.instanceMethod y_MB_rule ∈ TT := TT_at 127 (by decide +kernel) (by decide +kernel)
theorem k_105 : Cond.selects R_MB y_MB_rule y_MB_rule ∈ TT := TT_at 128 (by decide +kernel) (by decide +kernel)
set_option maxRecDepth 20000 in
theorem k_106 : Cond.code y_MB_rule b_MB_rule 3 (some .int) ∈ TT := TT_at 129 rfl rfl
theorem k_107 : Cond.methodLink R_MB 48 y_MB_isMethod ∈ TT := TT_at 130 (by decide +kernel) (by decide +kernel)
theorem k_108 : Cond.static y_MB_isMethod ∈ TT := TT_at 131 (by decide +kernel) (by decide +kernel)
set_option maxRecDepth 20000 in
theorem k_109 : Cond.code y_MB_isMethod b_MB_isMethod 2 (some .boolean) ∈ TT := TT_at 132 rfl rfl
theorem k_110 : Cond.methodLink R_MB 87 y_MB_isMock ∈ TT := TT_at 133 (by decide +kernel) (by decide +kernel)
theorem k_111 : Cond.static y_MB_isMock ∈ TT := TT_at 134 (by decide +kernel) (by decide +kernel)
set_option maxRecDepth 20000 in
theorem k_112 : Cond.code y_MB_isMock b_MB_isMock 1 (some .boolean) ∈ TT := TT_at 135 rfl rfl
theorem k_113 : Cond.methodLink R_MB 52 y_Ma_suits ∈ TT := TT_at 136 (by decide +kernel) (by decide +kernel)
theorem k_114 : Cond.instanceMethod y_Ma_suits ∈ TT := TT_at 137 (by decide +kernel) (by decide +kernel)
theorem k_115 : Cond.selects R_Ma y_Ma_suits y_Ma_suits ∈ TT := TT_at 138 (by decide +kernel) (by decide +kernel)
set_option maxRecDepth 20000 in
theorem k_116 : Cond.code y_Ma_suits b_Ma_suits 2 (some .boolean) ∈ TT := TT_at 139 rfl rfl
theorem k_118 : Cond.static y_MB_argumentsOf ∈ TT := TT_at 141 (by decide +kernel) (by decide +kernel)
set_option maxRecDepth 20000 in
theorem k_119 : Cond.code y_MB_argumentsOf b_MB_argumentsOf 1 (some .int) ∈ TT := TT_at 142 rfl rfl
theorem k_120 : Cond.methodLink R_MB 56 y_AL_size ∈ TT := TT_at 143 (by decide +kernel) (by decide +kernel)
theorem k_121 : Cond.instanceMethod y_AL_size ∈ TT := TT_at 144 (by decide +kernel) (by decide +kernel)
theorem k_122 : Cond.selects R_AL y_AL_size y_AL_size ∈ TT := TT_at 145 (by decide +kernel) (by decide +kernel)
set_option maxRecDepth 20000 in
theorem k_123 : Cond.code y_AL_size b_AL_size 1 (some .int) ∈ TT := TT_at 146 rfl rfl
theorem k_124 : Cond.classLink R_MB 59 R_Ru ∈ TT := TT_at 147 (by decide +kernel) (by decide +kernel)
theorem k_125 : Cond.instantiable R_Ru 8 ∈ TT := TT_at 148 (by decide +kernel) (by decide +kernel)
theorem k_126 : Cond.methodLink R_MB 61 y_Ru_init ∈ TT := TT_at 149 (by decide +kernel) (by decide +kernel)
theorem k_127 : Cond.instanceMethod y_Ru_init ∈ TT := TT_at 150 (by decide +kernel) (by decide +kernel)
set_option maxRecDepth 20000 in
theorem k_128 : Cond.code y_Ru_init b_Ru_init 4 none ∈ TT := TT_at 151 rfl rfl
theorem k_129 : Cond.methodLink R_Ru 3 y_Ob_init ∈ TT := TT_at 152 (by decide +kernel) (by decide +kernel)
theorem k_130 : Cond.fieldLink R_Ru 29 "MockBook$Rule" "mock" "I" ∈ TT := TT_at 153 (by decide +kernel) (by decide +kernel)
theorem k_131 : Cond.fieldLink R_MB 212 "MockBook$Rule" "mock" "I" ∈ TT := TT_at 154 (by decide +kernel) (by decide +kernel)
theorem k_132 : Cond.fieldLink R_Ru 32 "MockBook$Rule" "method" "I" ∈ TT := TT_at 155 (by decide +kernel) (by decide +kernel)
theorem k_133 : Cond.fieldLink R_Ru 35 "MockBook$Rule" "matchers" "LMockBook$Matchers;" ∈ TT := TT_at 156 (by decide +kernel) (by decide +kernel)
theorem k_134 : Cond.fieldLink R_Ru 9 "MockBook$Rule" "actionKinds" "[I" ∈ TT := TT_at 157 (by decide +kernel) (by decide +kernel)
theorem k_135 : Cond.fieldLink R_MB 189 "MockBook$Rule" "actionKinds" "[I" ∈ TT := TT_at 158 (by decide +kernel) (by decide +kernel)
theorem k_136 : Cond.fieldLink R_Ru 15 "MockBook$Rule" "actionValues" "[I" ∈ TT := TT_at 159 (by decide +kernel) (by decide +kernel)
theorem k_137 : Cond.fieldLink R_MB 185 "MockBook$Rule" "actionValues" "[I" ∈ TT := TT_at 160 (by decide +kernel) (by decide +kernel)
theorem k_138 : Cond.fieldLink R_Ru 18 "MockBook$Rule" "actions" "I" ∈ TT := TT_at 161 (by decide +kernel) (by decide +kernel)
theorem k_139 : Cond.fieldLink R_MB 81 "MockBook$Rule" "actions" "I" ∈ TT := TT_at 162 (by decide +kernel) (by decide +kernel)
theorem k_140 : Cond.fieldLink R_Ru 22 "MockBook$Rule" "uses" "I" ∈ TT := TT_at 163 (by decide +kernel) (by decide +kernel)
theorem k_141 : Cond.fieldLink R_MB 122 "MockBook$Rule" "uses" "I" ∈ TT := TT_at 164 (by decide +kernel) (by decide +kernel)
theorem k_142 : Cond.fieldLink R_Ru 25 "MockBook$Rule" "live" "Z" ∈ TT := TT_at 165 (by decide +kernel) (by decide +kernel)
theorem k_143 : Cond.fieldLink R_MB 74 "MockBook$Rule" "live" "Z" ∈ TT := TT_at 166 (by decide +kernel) (by decide +kernel)
theorem k_161 : Cond.methodLink R_MB 64 y_AL_add ∈ TT := TT_at 184 (by decide +kernel) (by decide +kernel)
theorem k_162 : Cond.instanceMethod y_AL_add ∈ TT := TT_at 185 (by decide +kernel) (by decide +kernel)
theorem k_163 : Cond.selects R_AL y_AL_add y_AL_add ∈ TT := TT_at 186 (by decide +kernel) (by decide +kernel)
set_option maxRecDepth 20000 in
theorem k_164 : Cond.code y_AL_add b_AL_add 2 (some .boolean) ∈ TT := TT_at 187 rfl rfl
theorem k_165 : Cond.methodLink R_AL 131 y_AL_add3 ∈ TT := TT_at 188 (by decide +kernel) (by decide +kernel)
theorem k_167 : Cond.instanceMethod y_AL_add3 ∈ TT := TT_at 190 (by decide +kernel) (by decide +kernel)
set_option maxRecDepth 20000 in
theorem k_168 : Cond.code y_AL_add3 b_AL_add3 4 none ∈ TT := TT_at 191 rfl rfl
theorem k_169 : Cond.methodLink R_AL 129 y_AL_grow ∈ TT := TT_at 192 (by decide +kernel) (by decide +kernel)
theorem k_171 : Cond.instanceMethod y_AL_grow ∈ TT := TT_at 194 (by decide +kernel) (by decide +kernel)
set_option maxRecDepth 20000 in
theorem k_172 : Cond.code y_AL_grow b_AL_grow 1 (some (.array (.object "java/lang/Object"))) ∈ TT := TT_at 195 rfl rfl
theorem k_173 : Cond.methodLink R_AL 69 y_AL_growI ∈ TT := TT_at 196 (by decide +kernel) (by decide +kernel)
theorem k_175 : Cond.instanceMethod y_AL_growI ∈ TT := TT_at 198 (by decide +kernel) (by decide +kernel)
set_option maxRecDepth 20000 in
theorem k_176 : Cond.code y_AL_growI b_AL_growI 4 (some (.array (.object "java/lang/Object"))) ∈ TT := TT_at 199 rfl rfl
theorem k_177 : Cond.methodLink R_AL 73 y_As_newLength ∈ TT := TT_at 200 (by decide +kernel) (by decide +kernel)
theorem k_178 : Cond.static y_As_newLength ∈ TT := TT_at 201 (by decide +kernel) (by decide +kernel)
set_option maxRecDepth 20000 in
theorem k_179 : Cond.code y_As_newLength b_As_newLength 4 (some .int) ∈ TT := TT_at 202 rfl rfl
theorem k_180 : Cond.methodLink R_As 194 y_Mt_max ∈ TT := TT_at 203 (by decide +kernel) (by decide +kernel)
theorem k_181 : Cond.static y_Mt_max ∈ TT := TT_at 204 (by decide +kernel) (by decide +kernel)
set_option maxRecDepth 20000 in
theorem k_182 : Cond.code y_Mt_max b_Mt_max 2 (some .int) ∈ TT := TT_at 205 rfl rfl
theorem k_183 : Cond.constant R_As 200 2147483639 ∈ TT := TT_at 206 (by decide +kernel) (by decide +kernel)
theorem k_184 : Cond.methodLink R_As 201 y_As_hugeLength ∈ TT := TT_at 207 (by decide +kernel) (by decide +kernel)
theorem k_185 : Cond.static y_As_hugeLength ∈ TT := TT_at 208 (by decide +kernel) (by decide +kernel)
set_option maxRecDepth 20000 in
theorem k_186 : Cond.code y_As_hugeLength b_As_hugeLength 3 (some .int) ∈ TT := TT_at 209 rfl rfl
theorem k_187 : Cond.methodLink R_AL 66 y_Ar_copyOf ∈ TT := TT_at 210 (by decide +kernel) (by decide +kernel)
theorem k_188 : Cond.static y_Ar_copyOf ∈ TT := TT_at 211 (by decide +kernel) (by decide +kernel)
set_option maxRecDepth 20000 in
theorem k_189 : Cond.code y_Ar_copyOf b_Ar_copyOf 2 (some (.array (.object "java/lang/Object"))) ∈ TT := TT_at 212 rfl rfl
theorem k_190 : Cond.methodLink R_Ar 86 ⟨"java/lang/Object", "getClass", "()Ljava/lang/Class;"⟩ ∈ TT := TT_at 213 (by decide +kernel) (by decide +kernel)
theorem k_191 : Cond.instanceMethod ⟨"java/lang/Object", "getClass", "()Ljava/lang/Class;"⟩ ∈ TT := TT_at 214 (by decide +kernel) (by decide +kernel)
theorem k_199 : Cond.native ⟨"java/lang/Object", "getClass", "()Ljava/lang/Class;"⟩ ∈ TT := TT_at 222 (by decide +kernel) (by decide +kernel)
theorem k_200 : Cond.methodLink R_Ar 300 y_Ar_copyOf3 ∈ TT := TT_at 223 (by decide +kernel) (by decide +kernel)
theorem k_201 : Cond.static y_Ar_copyOf3 ∈ TT := TT_at 224 (by decide +kernel) (by decide +kernel)
set_option maxRecDepth 20000 in
theorem k_202 : Cond.code y_Ar_copyOf3 b_Ar_copyOf3 4 (some (.array (.object "java/lang/Object"))) ∈ TT := TT_at 225 rfl rfl
theorem k_203 : Cond.classLink R_Ar 110 "[Ljava/lang/Object;" ∈ TT := TT_at 226 (by decide +kernel) (by decide +kernel)
theorem k_205 : Cond.classLink R_Ar 2 R_Ob ∈ TT := TT_at 228 (by decide +kernel) (by decide +kernel)
theorem k_206 : Cond.methodLink R_Ar 304 y_Mt_min ∈ TT := TT_at 229 (by decide +kernel) (by decide +kernel)
theorem k_207 : Cond.static y_Mt_min ∈ TT := TT_at 230 (by decide +kernel) (by decide +kernel)
set_option maxRecDepth 20000 in
theorem k_208 : Cond.code y_Mt_min b_Mt_min 2 (some .int) ∈ TT := TT_at 231 rfl rfl
theorem k_209 : Cond.methodLink R_Ar 150 ⟨"java/lang/System", "arraycopy", "(Ljava/lang/Object;ILjava/lang/Object;II)V"⟩ ∈ TT := TT_at 232 (by decide +kernel) (by decide +kernel)
theorem k_210 : Cond.static ⟨"java/lang/System", "arraycopy", "(Ljava/lang/Object;ILjava/lang/Object;II)V"⟩ ∈ TT := TT_at 233 (by decide +kernel) (by decide +kernel)
theorem k_211 : Cond.native ⟨"java/lang/System", "arraycopy", "(Ljava/lang/Object;ILjava/lang/Object;II)V"⟩ ∈ TT := TT_at 234 (by decide +kernel) (by decide +kernel)
theorem k_212 : Cond.methodLink R_AL 79 y_Mt_max ∈ TT := TT_at 235 (by decide +kernel) (by decide +kernel)
theorem k_213 : Cond.classLink R_AL 7 R_Ob ∈ TT := TT_at 236 (by decide +kernel) (by decide +kernel)
theorem k_214 : Cond.methodLink R_law 26 y_MB_then ∈ TT := TT_at 237 (by decide +kernel) (by decide +kernel)
theorem k_215 : Cond.instanceMethod y_MB_then ∈ TT := TT_at 238 (by decide +kernel) (by decide +kernel)
theorem k_216 : Cond.selects R_MB y_MB_then y_MB_then ∈ TT := TT_at 239 (by decide +kernel) (by decide +kernel)
set_option maxRecDepth 20000 in
theorem k_217 : Cond.code y_MB_then b_MB_then 5 (some .int) ∈ TT := TT_at 240 rfl rfl
theorem k_218 : Cond.methodLink R_MB 67 y_MB_isRule ∈ TT := TT_at 241 (by decide +kernel) (by decide +kernel)
theorem k_220 : Cond.instanceMethod y_MB_isRule ∈ TT := TT_at 243 (by decide +kernel) (by decide +kernel)
set_option maxRecDepth 20000 in
theorem k_221 : Cond.code y_MB_isRule b_MB_isRule 2 (some .boolean) ∈ TT := TT_at 244 rfl rfl
theorem k_222 : Cond.methodLink R_MB 70 y_AL_get ∈ TT := TT_at 245 (by decide +kernel) (by decide +kernel)
theorem k_223 : Cond.instanceMethod y_AL_get ∈ TT := TT_at 246 (by decide +kernel) (by decide +kernel)
theorem k_224 : Cond.selects R_AL y_AL_get y_AL_get ∈ TT := TT_at 247 (by decide +kernel) (by decide +kernel)
set_option maxRecDepth 20000 in
theorem k_225 : Cond.code y_AL_get b_AL_get 2 (some (.object "java/lang/Object")) ∈ TT := TT_at 248 rfl rfl
theorem k_226 : Cond.methodLink R_AL 118 y_Os_checkIndex ∈ TT := TT_at 249 (by decide +kernel) (by decide +kernel)
theorem k_227 : Cond.static y_Os_checkIndex ∈ TT := TT_at 250 (by decide +kernel) (by decide +kernel)
set_option maxRecDepth 20000 in
theorem k_228 : Cond.code y_Os_checkIndex b_Os_checkIndex 2 (some .int) ∈ TT := TT_at 251 rfl rfl
theorem k_229 : Cond.methodLink R_Os 105 y_Pc_checkIndex ∈ TT := TT_at 252 (by decide +kernel) (by decide +kernel)
theorem k_230 : Cond.static y_Pc_checkIndex ∈ TT := TT_at 253 (by decide +kernel) (by decide +kernel)
set_option maxRecDepth 20000 in
theorem k_231 : Cond.code y_Pc_checkIndex b_Pc_checkIndex 3 (some .int) ∈ TT := TT_at 254 rfl rfl
theorem k_232 : Cond.methodLink R_AL 123 y_AL_elementData ∈ TT := TT_at 255 (by decide +kernel) (by decide +kernel)
theorem k_233 : Cond.instanceMethod y_AL_elementData ∈ TT := TT_at 256 (by decide +kernel) (by decide +kernel)
theorem k_234 : Cond.selects R_AL y_AL_elementData y_AL_elementData ∈ TT := TT_at 257 (by decide +kernel) (by decide +kernel)
set_option maxRecDepth 20000 in
theorem k_235 : Cond.code y_AL_elementData b_AL_elementData 2 (some (.object "java/lang/Object")) ∈ TT := TT_at 258 rfl rfl
theorem k_236 : Cond.methodLink R_MB 78 y_Ru_allows ∈ TT := TT_at 259 (by decide +kernel) (by decide +kernel)
theorem k_237 : Cond.instanceMethod y_Ru_allows ∈ TT := TT_at 260 (by decide +kernel) (by decide +kernel)
theorem k_238 : Cond.selects R_Ru y_Ru_allows y_Ru_allows ∈ TT := TT_at 261 (by decide +kernel) (by decide +kernel)
set_option maxRecDepth 20000 in
theorem k_239 : Cond.code y_Ru_allows b_Ru_allows 3 (some .boolean) ∈ TT := TT_at 262 rfl rfl
theorem k_242 : Cond.methodLink R_MB 84 y_Ru_addAction ∈ TT := TT_at 265 (by decide +kernel) (by decide +kernel)
theorem k_243 : Cond.instanceMethod y_Ru_addAction ∈ TT := TT_at 266 (by decide +kernel) (by decide +kernel)
theorem k_244 : Cond.selects R_Ru y_Ru_addAction y_Ru_addAction ∈ TT := TT_at 267 (by decide +kernel) (by decide +kernel)
set_option maxRecDepth 20000 in
theorem k_245 : Cond.code y_Ru_addAction b_Ru_addAction 3 none ∈ TT := TT_at 268 rfl rfl
theorem k_246 : Cond.methodLink R_law 31 y_MB_strict ∈ TT := TT_at 269 (by decide +kernel) (by decide +kernel)
theorem k_247 : Cond.instanceMethod y_MB_strict ∈ TT := TT_at 270 (by decide +kernel) (by decide +kernel)
theorem k_248 : Cond.selects R_MB y_MB_strict y_MB_strict ∈ TT := TT_at 271 (by decide +kernel) (by decide +kernel)
set_option maxRecDepth 20000 in
theorem k_249 : Cond.code y_MB_strict b_MB_strict 4 (some .int) ∈ TT := TT_at 272 rfl rfl
theorem k_250 : Cond.methodLink R_MB 90 y_MB_asNumber ∈ TT := TT_at 273 (by decide +kernel) (by decide +kernel)
theorem k_251 : Cond.static y_MB_asNumber ∈ TT := TT_at 274 (by decide +kernel) (by decide +kernel)
set_option maxRecDepth 20000 in
theorem k_252 : Cond.code y_MB_asNumber b_MB_asNumber 1 (some .int) ∈ TT := TT_at 275 rfl rfl
theorem k_253 : Cond.methodLink R_law 36 y_MB_call ∈ TT := TT_at 276 (by decide +kernel) (by decide +kernel)
theorem k_254 : Cond.instanceMethod y_MB_call ∈ TT := TT_at 277 (by decide +kernel) (by decide +kernel)
theorem k_255 : Cond.selects R_MB y_MB_call y_MB_call ∈ TT := TT_at 278 (by decide +kernel) (by decide +kernel)
set_option maxRecDepth 20000 in
theorem k_256 : Cond.code y_MB_call b_MB_call 6 (some .long) ∈ TT := TT_at 279 rfl rfl
theorem k_257 : Cond.constantLong R_MB 94 60000000000 ∈ TT := TT_at 280 (by decide +kernel) (by decide +kernel)
theorem k_258 : Cond.methodLink R_MB 96 y_MB_noteAndRespond ∈ TT := TT_at 281 (by decide +kernel) (by decide +kernel)
theorem k_260 : Cond.instanceMethod y_MB_noteAndRespond ∈ TT := TT_at 283 (by decide +kernel) (by decide +kernel)
set_option maxRecDepth 20000 in
theorem k_261 : Cond.code y_MB_noteAndRespond b_MB_noteAndRespond 10 (some .long) ∈ TT := TT_at 284 rfl rfl
theorem k_262 : Cond.constantLong R_MB 167 20000000001 ∈ TT := TT_at 285 (by decide +kernel) (by decide +kernel)
theorem k_263 : Cond.classLink R_MB 113 R_In ∈ TT := TT_at 286 (by decide +kernel) (by decide +kernel)
theorem k_264 : Cond.instantiable R_In 11 ∈ TT := TT_at 287 (by decide +kernel) (by decide +kernel)
theorem k_265 : Cond.methodLink R_MB 169 y_In_init ∈ TT := TT_at 288 (by decide +kernel) (by decide +kernel)
theorem k_266 : Cond.instanceMethod y_In_init ∈ TT := TT_at 289 (by decide +kernel) (by decide +kernel)
set_option maxRecDepth 20000 in
theorem k_267 : Cond.code y_In_init b_In_init 9 none ∈ TT := TT_at 290 rfl rfl
theorem k_268 : Cond.methodLink R_In 3 y_Ob_init ∈ TT := TT_at 291 (by decide +kernel) (by decide +kernel)
theorem k_269 : Cond.constantLong R_In 15 60000000000 ∈ TT := TT_at 292 (by decide +kernel) (by decide +kernel)
theorem k_271 : Cond.fieldLink R_In 32 "MockBook$Interaction" "mock" "I" ∈ TT := TT_at 294 (by decide +kernel) (by decide +kernel)
theorem k_272 : Cond.fieldLink R_Ru 39 "MockBook$Interaction" "mock" "I" ∈ TT := TT_at 295 (by decide +kernel) (by decide +kernel)
theorem k_273 : Cond.fieldLink R_MB 119 "MockBook$Interaction" "mock" "I" ∈ TT := TT_at 296 (by decide +kernel) (by decide +kernel)
theorem k_274 : Cond.fieldLink R_In 35 "MockBook$Interaction" "method" "I" ∈ TT := TT_at 297 (by decide +kernel) (by decide +kernel)
theorem k_275 : Cond.fieldLink R_Ru 42 "MockBook$Interaction" "method" "I" ∈ TT := TT_at 298 (by decide +kernel) (by decide +kernel)
theorem k_276 : Cond.fieldLink R_MB 136 "MockBook$Interaction" "method" "I" ∈ TT := TT_at 299 (by decide +kernel) (by decide +kernel)
theorem k_277 : Cond.fieldLink R_In 38 "MockBook$Interaction" "a" "I" ∈ TT := TT_at 300 (by decide +kernel) (by decide +kernel)
theorem k_278 : Cond.fieldLink R_MB 139 "MockBook$Interaction" "a" "I" ∈ TT := TT_at 301 (by decide +kernel) (by decide +kernel)
theorem k_279 : Cond.fieldLink R_In 41 "MockBook$Interaction" "b" "I" ∈ TT := TT_at 302 (by decide +kernel) (by decide +kernel)
theorem k_280 : Cond.fieldLink R_MB 142 "MockBook$Interaction" "b" "I" ∈ TT := TT_at 303 (by decide +kernel) (by decide +kernel)
theorem k_281 : Cond.fieldLink R_In 44 "MockBook$Interaction" "c" "I" ∈ TT := TT_at 304 (by decide +kernel) (by decide +kernel)
theorem k_282 : Cond.fieldLink R_MB 145 "MockBook$Interaction" "c" "I" ∈ TT := TT_at 305 (by decide +kernel) (by decide +kernel)
theorem k_283 : Cond.fieldLink R_In 47 "MockBook$Interaction" "depth" "I" ∈ TT := TT_at 306 (by decide +kernel) (by decide +kernel)
theorem k_284 : Cond.fieldLink R_MB 148 "MockBook$Interaction" "depth" "I" ∈ TT := TT_at 307 (by decide +kernel) (by decide +kernel)
theorem k_285 : Cond.fieldLink R_In 50 "MockBook$Interaction" "from" "I" ∈ TT := TT_at 308 (by decide +kernel) (by decide +kernel)
theorem k_286 : Cond.fieldLink R_MB 151 "MockBook$Interaction" "from" "I" ∈ TT := TT_at 309 (by decide +kernel) (by decide +kernel)
theorem k_287 : Cond.fieldLink R_In 9 "MockBook$Interaction" "ruleNumber" "I" ∈ TT := TT_at 310 (by decide +kernel) (by decide +kernel)
theorem k_288 : Cond.fieldLink R_MB 154 "MockBook$Interaction" "ruleNumber" "I" ∈ TT := TT_at 311 (by decide +kernel) (by decide +kernel)
theorem k_289 : Cond.fieldLink R_In 17 "MockBook$Interaction" "response" "J" ∈ TT := TT_at 312 (by decide +kernel) (by decide +kernel)
theorem k_290 : Cond.fieldLink R_MB 157 "MockBook$Interaction" "response" "J" ∈ TT := TT_at 313 (by decide +kernel) (by decide +kernel)
theorem k_291 : Cond.fieldLink R_In 21 "MockBook$Interaction" "verified" "Z" ∈ TT := TT_at 314 (by decide +kernel) (by decide +kernel)
theorem k_292 : Cond.fieldLink R_MB 115 "MockBook$Interaction" "verified" "Z" ∈ TT := TT_at 315 (by decide +kernel) (by decide +kernel)
theorem k_293 : Cond.fieldLink R_In 25 "MockBook$Interaction" "live" "Z" ∈ TT := TT_at 316 (by decide +kernel) (by decide +kernel)
theorem k_294 : Cond.fieldLink R_MB 118 "MockBook$Interaction" "live" "Z" ∈ TT := TT_at 317 (by decide +kernel) (by decide +kernel)
theorem k_318 : Cond.methodLink R_MB 172 y_MB_ruleNumberFor ∈ TT := TT_at 341 (by decide +kernel) (by decide +kernel)
theorem k_320 : Cond.instanceMethod y_MB_ruleNumberFor ∈ TT := TT_at 343 (by decide +kernel) (by decide +kernel)
set_option maxRecDepth 20000 in
theorem k_321 : Cond.code y_MB_ruleNumberFor b_MB_ruleNumberFor 3 (some .int) ∈ TT := TT_at 344 rfl rfl
theorem k_322 : Cond.methodLink R_MB 201 y_Ru_answersTo ∈ TT := TT_at 345 (by decide +kernel) (by decide +kernel)
theorem k_323 : Cond.instanceMethod y_Ru_answersTo ∈ TT := TT_at 346 (by decide +kernel) (by decide +kernel)
theorem k_324 : Cond.selects R_Ru y_Ru_answersTo y_Ru_answersTo ∈ TT := TT_at 347 (by decide +kernel) (by decide +kernel)
set_option maxRecDepth 20000 in
theorem k_325 : Cond.code y_Ru_answersTo b_Ru_answersTo 2 (some .boolean) ∈ TT := TT_at 348 rfl rfl
theorem k_326 : Cond.methodLink R_Ru 43 y_Ma_fit ∈ TT := TT_at 349 (by decide +kernel) (by decide +kernel)
theorem k_327 : Cond.instanceMethod y_Ma_fit ∈ TT := TT_at 350 (by decide +kernel) (by decide +kernel)
theorem k_328 : Cond.selects R_Ma y_Ma_fit y_Ma_fit ∈ TT := TT_at 351 (by decide +kernel) (by decide +kernel)
set_option maxRecDepth 20000 in
theorem k_329 : Cond.code y_Ma_fit b_Ma_fit 3 (some .boolean) ∈ TT := TT_at 352 rfl rfl
theorem k_330 : Cond.methodLink R_Ma 26 y_In_argument ∈ TT := TT_at 353 (by decide +kernel) (by decide +kernel)
theorem k_331 : Cond.instanceMethod y_In_argument ∈ TT := TT_at 354 (by decide +kernel) (by decide +kernel)
theorem k_332 : Cond.selects R_In y_In_argument y_In_argument ∈ TT := TT_at 355 (by decide +kernel) (by decide +kernel)
set_option maxRecDepth 20000 in
theorem k_333 : Cond.code y_In_argument b_In_argument 2 (some .int) ∈ TT := TT_at 356 rfl rfl
theorem k_334 : Cond.methodLink R_Ma 31 y_Ma_fitsOne ∈ TT := TT_at 357 (by decide +kernel) (by decide +kernel)
theorem k_335 : Cond.static y_Ma_fitsOne ∈ TT := TT_at 358 (by decide +kernel) (by decide +kernel)
set_option maxRecDepth 20000 in
theorem k_336 : Cond.code y_Ma_fitsOne b_Ma_fitsOne 3 (some .boolean) ∈ TT := TT_at 359 rfl rfl
theorem k_337 : Cond.methodLink R_Ma 35 y_Mt_floorMod ∈ TT := TT_at 360 (by decide +kernel) (by decide +kernel)
theorem k_338 : Cond.static y_Mt_floorMod ∈ TT := TT_at 361 (by decide +kernel) (by decide +kernel)
set_option maxRecDepth 20000 in
theorem k_339 : Cond.code y_Mt_floorMod b_Mt_floorMod 3 (some .int) ∈ TT := TT_at 362 rfl rfl
theorem k_340 : Cond.methodLink R_MB 176 y_MB_respond ∈ TT := TT_at 363 (by decide +kernel) (by decide +kernel)
theorem k_342 : Cond.instanceMethod y_MB_respond ∈ TT := TT_at 365 (by decide +kernel) (by decide +kernel)
set_option maxRecDepth 20000 in
theorem k_343 : Cond.code y_MB_respond b_MB_respond 8 (some .long) ∈ TT := TT_at 366 rfl rfl
theorem k_344 : Cond.constantLong R_MB 180 20000000000 ∈ TT := TT_at 367 (by decide +kernel) (by decide +kernel)
theorem k_345 : Cond.methodLink R_MB 182 y_Ru_placeInTurn ∈ TT := TT_at 368 (by decide +kernel) (by decide +kernel)
theorem k_346 : Cond.instanceMethod y_Ru_placeInTurn ∈ TT := TT_at 369 (by decide +kernel) (by decide +kernel)
theorem k_347 : Cond.selects R_Ru y_Ru_placeInTurn y_Ru_placeInTurn ∈ TT := TT_at 370 (by decide +kernel) (by decide +kernel)
set_option maxRecDepth 20000 in
theorem k_348 : Cond.code y_Ru_placeInTurn b_Ru_placeInTurn 1 (some .int) ∈ TT := TT_at 371 rfl rfl
theorem k_349 : Cond.methodLink R_Ru 57 y_Mt_min ∈ TT := TT_at 372 (by decide +kernel) (by decide +kernel)
theorem k_350 : Cond.methodLink R_Ru 63 y_Mt_max ∈ TT := TT_at 373 (by decide +kernel) (by decide +kernel)
theorem k_351 : Cond.methodLink R_MB 192 y_In_argument ∈ TT := TT_at 374 (by decide +kernel) (by decide +kernel)
theorem k_352 : Cond.constantLong R_MB 195 40000000000 ∈ TT := TT_at 375 (by decide +kernel) (by decide +kernel)
theorem k_353 : Cond.methodLink R_MB 197 y_MB_pass ∈ TT := TT_at 376 (by decide +kernel) (by decide +kernel)
theorem k_355 : Cond.instanceMethod y_MB_pass ∈ TT := TT_at 378 (by decide +kernel) (by decide +kernel)
set_option maxRecDepth 20000 in
theorem k_356 : Cond.code y_MB_pass b_MB_pass 7 (some .long) ∈ TT := TT_at 379 rfl rfl
theorem k_357 : Cond.methodLink R_law 41 y_MB_verify ∈ TT := TT_at 380 (by decide +kernel) (by decide +kernel)
theorem k_358 : Cond.instanceMethod y_MB_verify ∈ TT := TT_at 381 (by decide +kernel) (by decide +kernel)
theorem k_359 : Cond.selects R_MB y_MB_verify y_MB_verify ∈ TT := TT_at 382 (by decide +kernel) (by decide +kernel)
set_option maxRecDepth 20000 in
theorem k_360 : Cond.code y_MB_verify b_MB_verify 7 (some .int) ∈ TT := TT_at 383 rfl rfl
theorem k_361 : Cond.methodLink R_MB 100 y_MB_countSought ∈ TT := TT_at 384 (by decide +kernel) (by decide +kernel)
theorem k_363 : Cond.instanceMethod y_MB_countSought ∈ TT := TT_at 386 (by decide +kernel) (by decide +kernel)
set_option maxRecDepth 20000 in
theorem k_364 : Cond.code y_MB_countSought b_MB_countSought 5 (some .int) ∈ TT := TT_at 387 rfl rfl
theorem k_365 : Cond.methodLink R_MB 208 y_MB_isSought ∈ TT := TT_at 388 (by decide +kernel) (by decide +kernel)
theorem k_367 : Cond.instanceMethod y_MB_isSought ∈ TT := TT_at 390 (by decide +kernel) (by decide +kernel)
set_option maxRecDepth 20000 in
theorem k_368 : Cond.code y_MB_isSought b_MB_isSought 4 (some .boolean) ∈ TT := TT_at 391 rfl rfl
theorem k_369 : Cond.methodLink R_MB 205 y_Ma_fit ∈ TT := TT_at 392 (by decide +kernel) (by decide +kernel)
theorem k_370 : Cond.methodLink R_MB 104 y_MB_isWanted ∈ TT := TT_at 393 (by decide +kernel) (by decide +kernel)
theorem k_371 : Cond.static y_MB_isWanted ∈ TT := TT_at 394 (by decide +kernel) (by decide +kernel)
set_option maxRecDepth 20000 in
theorem k_372 : Cond.code y_MB_isWanted b_MB_isWanted 3 (some .boolean) ∈ TT := TT_at 395 rfl rfl
theorem k_373 : Cond.methodLink R_MB 107 y_MB_verifySought ∈ TT := TT_at 396 (by decide +kernel) (by decide +kernel)
theorem k_375 : Cond.instanceMethod y_MB_verifySought ∈ TT := TT_at 398 (by decide +kernel) (by decide +kernel)
set_option maxRecDepth 20000 in
theorem k_376 : Cond.code y_MB_verifySought b_MB_verifySought 5 none ∈ TT := TT_at 399 rfl rfl
theorem k_377 : Cond.methodLink R_law 46 y_MB_inOrder ∈ TT := TT_at 400 (by decide +kernel) (by decide +kernel)
theorem k_378 : Cond.instanceMethod y_MB_inOrder ∈ TT := TT_at 401 (by decide +kernel) (by decide +kernel)
theorem k_379 : Cond.selects R_MB y_MB_inOrder y_MB_inOrder ∈ TT := TT_at 402 (by decide +kernel) (by decide +kernel)
set_option maxRecDepth 20000 in
theorem k_380 : Cond.code y_MB_inOrder b_MB_inOrder 4 (some .int) ∈ TT := TT_at 403 rfl rfl
theorem k_381 : Cond.methodLink R_MB 110 y_MB_firstSoughtAfterMark ∈ TT := TT_at 404 (by decide +kernel) (by decide +kernel)
theorem k_383 : Cond.instanceMethod y_MB_firstSoughtAfterMark ∈ TT := TT_at 406 (by decide +kernel) (by decide +kernel)
set_option maxRecDepth 20000 in
theorem k_384 : Cond.code y_MB_firstSoughtAfterMark b_MB_firstSoughtAfterMark 4 (some .int) ∈ TT := TT_at 407 rfl rfl
theorem k_385 : Cond.methodLink R_law 50 y_MB_rewind ∈ TT := TT_at 408 (by decide +kernel) (by decide +kernel)
theorem k_386 : Cond.instanceMethod y_MB_rewind ∈ TT := TT_at 409 (by decide +kernel) (by decide +kernel)
theorem k_387 : Cond.selects R_MB y_MB_rewind y_MB_rewind ∈ TT := TT_at 410 (by decide +kernel) (by decide +kernel)
set_option maxRecDepth 20000 in
theorem k_388 : Cond.code y_MB_rewind b_MB_rewind 2 (some .int) ∈ TT := TT_at 411 rfl rfl
theorem k_389 : Cond.methodLink R_law 55 y_MB_open ∈ TT := TT_at 412 (by decide +kernel) (by decide +kernel)
theorem k_390 : Cond.instanceMethod y_MB_open ∈ TT := TT_at 413 (by decide +kernel) (by decide +kernel)
theorem k_391 : Cond.selects R_MB y_MB_open y_MB_open ∈ TT := TT_at 414 (by decide +kernel) (by decide +kernel)
set_option maxRecDepth 20000 in
theorem k_392 : Cond.code y_MB_open b_MB_open 4 (some .int) ∈ TT := TT_at 415 rfl rfl
theorem k_393 : Cond.methodLink R_law 60 y_MB_unused ∈ TT := TT_at 416 (by decide +kernel) (by decide +kernel)
theorem k_394 : Cond.instanceMethod y_MB_unused ∈ TT := TT_at 417 (by decide +kernel) (by decide +kernel)
theorem k_395 : Cond.selects R_MB y_MB_unused y_MB_unused ∈ TT := TT_at 418 (by decide +kernel) (by decide +kernel)
set_option maxRecDepth 20000 in
theorem k_396 : Cond.code y_MB_unused b_MB_unused 3 (some .int) ∈ TT := TT_at 419 rfl rfl
theorem k_397 : Cond.methodLink R_law 64 y_MB_reset ∈ TT := TT_at 420 (by decide +kernel) (by decide +kernel)
theorem k_398 : Cond.instanceMethod y_MB_reset ∈ TT := TT_at 421 (by decide +kernel) (by decide +kernel)
theorem k_399 : Cond.selects R_MB y_MB_reset y_MB_reset ∈ TT := TT_at 422 (by decide +kernel) (by decide +kernel)
set_option maxRecDepth 20000 in
theorem k_400 : Cond.code y_MB_reset b_MB_reset 2 (some .int) ∈ TT := TT_at 423 rfl rfl
theorem k_401 : Cond.methodLink R_MB 125 y_MB_endRules ∈ TT := TT_at 424 (by decide +kernel) (by decide +kernel)
theorem k_403 : Cond.instanceMethod y_MB_endRules ∈ TT := TT_at 426 (by decide +kernel) (by decide +kernel)
set_option maxRecDepth 20000 in
theorem k_404 : Cond.code y_MB_endRules b_MB_endRules 4 none ∈ TT := TT_at 427 rfl rfl
theorem k_405 : Cond.methodLink R_MB 129 y_MB_endInteractions ∈ TT := TT_at 428 (by decide +kernel) (by decide +kernel)
theorem k_407 : Cond.instanceMethod y_MB_endInteractions ∈ TT := TT_at 430 (by decide +kernel) (by decide +kernel)
set_option maxRecDepth 20000 in
theorem k_408 : Cond.code y_MB_endInteractions b_MB_endInteractions 5 (some .int) ∈ TT := TT_at 431 rfl rfl
theorem k_409 : Cond.methodLink R_law 68 y_MB_noted ∈ TT := TT_at 432 (by decide +kernel) (by decide +kernel)
theorem k_410 : Cond.instanceMethod y_MB_noted ∈ TT := TT_at 433 (by decide +kernel) (by decide +kernel)
theorem k_411 : Cond.selects R_MB y_MB_noted y_MB_noted ∈ TT := TT_at 434 (by decide +kernel) (by decide +kernel)
set_option maxRecDepth 20000 in
theorem k_412 : Cond.code y_MB_noted b_MB_noted 4 (some .long) ∈ TT := TT_at 435 rfl rfl
theorem k_413 : Cond.methodLink R_MB 133 y_MB_isInteraction ∈ TT := TT_at 436 (by decide +kernel) (by decide +kernel)
theorem k_415 : Cond.instanceMethod y_MB_isInteraction ∈ TT := TT_at 438 (by decide +kernel) (by decide +kernel)
set_option maxRecDepth 20000 in
theorem k_416 : Cond.code y_MB_isInteraction b_MB_isInteraction 2 (some .boolean) ∈ TT := TT_at 439 rfl rfl
theorem k_417 : Cond.methodLink R_law 73 y_MB_answer ∈ TT := TT_at 440 (by decide +kernel) (by decide +kernel)
theorem k_418 : Cond.instanceMethod y_MB_answer ∈ TT := TT_at 441 (by decide +kernel) (by decide +kernel)
theorem k_419 : Cond.selects R_MB y_MB_answer y_MB_answer ∈ TT := TT_at 442 (by decide +kernel) (by decide +kernel)
set_option maxRecDepth 20000 in
theorem k_420 : Cond.code y_MB_answer b_MB_answer 2 (some .long) ∈ TT := TT_at 443 rfl rfl
theorem k_421 : Cond.methodLink R_law 78 y_MB_about ∈ TT := TT_at 444 (by decide +kernel) (by decide +kernel)
theorem k_422 : Cond.instanceMethod y_MB_about ∈ TT := TT_at 445 (by decide +kernel) (by decide +kernel)
theorem k_423 : Cond.selects R_MB y_MB_about y_MB_about ∈ TT := TT_at 446 (by decide +kernel) (by decide +kernel)
set_option maxRecDepth 20000 in
theorem k_424 : Cond.code y_MB_about b_MB_about 4 (some .int) ∈ TT := TT_at 447 rfl rfl
theorem k_425 : Cond.methodLink R_law 82 y_MB_count ∈ TT := TT_at 448 (by decide +kernel) (by decide +kernel)
theorem k_426 : Cond.instanceMethod y_MB_count ∈ TT := TT_at 449 (by decide +kernel) (by decide +kernel)
theorem k_427 : Cond.selects R_MB y_MB_count y_MB_count ∈ TT := TT_at 450 (by decide +kernel) (by decide +kernel)
set_option maxRecDepth 20000 in
theorem k_428 : Cond.code y_MB_count b_MB_count 2 (some .int) ∈ TT := TT_at 451 rfl rfl
theorem k_429 : Cond.methodLink R_MB 161 y_MB_countLiveInteractions ∈ TT := TT_at 452 (by decide +kernel) (by decide +kernel)
theorem k_431 : Cond.instanceMethod y_MB_countLiveInteractions ∈ TT := TT_at 454 (by decide +kernel) (by decide +kernel)
set_option maxRecDepth 20000 in
theorem k_432 : Cond.code y_MB_countLiveInteractions b_MB_countLiveInteractions 5 (some .int) ∈ TT := TT_at 455 rfl rfl
theorem k_433 : Cond.methodLink R_MB 164 y_MB_countLiveRules ∈ TT := TT_at 456 (by decide +kernel) (by decide +kernel)
theorem k_435 : Cond.instanceMethod y_MB_countLiveRules ∈ TT := TT_at 458 (by decide +kernel) (by decide +kernel)
set_option maxRecDepth 20000 in
theorem k_436 : Cond.code y_MB_countLiveRules b_MB_countLiveRules 3 (some .int) ∈ TT := TT_at 459 rfl rfl
theorem k_437 : Cond.classLink R_law 10 R_MM ∈ TT := TT_at 460 (by decide +kernel) (by decide +kernel)
theorem k_438 : Cond.instantiable R_MM 24 ∈ TT := TT_at 461 (by decide +kernel) (by decide +kernel)
theorem k_439 : Cond.methodLink R_law 12 y_MM_init ∈ TT := TT_at 462 (by decide +kernel) (by decide +kernel)
theorem k_440 : Cond.instanceMethod y_MM_init ∈ TT := TT_at 463 (by decide +kernel) (by decide +kernel)
set_option maxRecDepth 20000 in
theorem k_441 : Cond.code y_MM_init b_MM_init 1 none ∈ TT := TT_at 464 rfl rfl
theorem k_442 : Cond.methodLink R_MM 1 y_Ob_init ∈ TT := TT_at 465 (by decide +kernel) (by decide +kernel)
theorem k_443 : Cond.fieldLink R_MM 7 "MockBookModel" "bufKind" "[I" ∈ TT := TT_at 466 (by decide +kernel) (by decide +kernel)
theorem k_444 : Cond.fieldLink R_MM 13 "MockBookModel" "bufValue" "[I" ∈ TT := TT_at 467 (by decide +kernel) (by decide +kernel)
theorem k_445 : Cond.fieldLink R_MM 76 "MockBookModel" "buffered" "I" ∈ TT := TT_at 468 (by decide +kernel) (by decide +kernel)
theorem k_446 : Cond.fieldLink R_MM 16 "MockBookModel" "rMock" "[I" ∈ TT := TT_at 469 (by decide +kernel) (by decide +kernel)
theorem k_447 : Cond.fieldLink R_MM 19 "MockBookModel" "rMethod" "[I" ∈ TT := TT_at 470 (by decide +kernel) (by decide +kernel)
theorem k_448 : Cond.fieldLink R_MM 22 "MockBookModel" "rLive" "[Z" ∈ TT := TT_at 471 (by decide +kernel) (by decide +kernel)
theorem k_449 : Cond.fieldLink R_MM 26 "MockBookModel" "mKind" "[I" ∈ TT := TT_at 472 (by decide +kernel) (by decide +kernel)
theorem k_450 : Cond.fieldLink R_MM 29 "MockBookModel" "mValue" "[I" ∈ TT := TT_at 473 (by decide +kernel) (by decide +kernel)
theorem k_451 : Cond.fieldLink R_MM 32 "MockBookModel" "aKind" "[I" ∈ TT := TT_at 474 (by decide +kernel) (by decide +kernel)
theorem k_452 : Cond.fieldLink R_MM 35 "MockBookModel" "aValue" "[I" ∈ TT := TT_at 475 (by decide +kernel) (by decide +kernel)
theorem k_453 : Cond.fieldLink R_MM 38 "MockBookModel" "actions" "[I" ∈ TT := TT_at 476 (by decide +kernel) (by decide +kernel)
theorem k_454 : Cond.fieldLink R_MM 83 "MockBookModel" "rules" "I" ∈ TT := TT_at 477 (by decide +kernel) (by decide +kernel)
theorem k_455 : Cond.fieldLink R_MM 41 "MockBookModel" "strict" "[Z" ∈ TT := TT_at 478 (by decide +kernel) (by decide +kernel)
theorem k_456 : Cond.fieldLink R_MM 44 "MockBookModel" "iMock" "[I" ∈ TT := TT_at 479 (by decide +kernel) (by decide +kernel)
theorem k_457 : Cond.fieldLink R_MM 47 "MockBookModel" "iMethod" "[I" ∈ TT := TT_at 480 (by decide +kernel) (by decide +kernel)
theorem k_458 : Cond.fieldLink R_MM 50 "MockBookModel" "args" "[I" ∈ TT := TT_at 481 (by decide +kernel) (by decide +kernel)
theorem k_459 : Cond.fieldLink R_MM 53 "MockBookModel" "depth" "[I" ∈ TT := TT_at 482 (by decide +kernel) (by decide +kernel)
theorem k_460 : Cond.fieldLink R_MM 56 "MockBookModel" "from" "[I" ∈ TT := TT_at 483 (by decide +kernel) (by decide +kernel)
theorem k_461 : Cond.fieldLink R_MM 59 "MockBookModel" "rule" "[I" ∈ TT := TT_at 484 (by decide +kernel) (by decide +kernel)
theorem k_462 : Cond.fieldLink R_MM 62 "MockBookModel" "result" "[J" ∈ TT := TT_at 485 (by decide +kernel) (by decide +kernel)
theorem k_463 : Cond.fieldLink R_MM 66 "MockBookModel" "iLive" "[Z" ∈ TT := TT_at 486 (by decide +kernel) (by decide +kernel)
theorem k_464 : Cond.fieldLink R_MM 69 "MockBookModel" "verified" "[Z" ∈ TT := TT_at 487 (by decide +kernel) (by decide +kernel)
theorem k_465 : Cond.fieldLink R_MM 90 "MockBookModel" "noted" "I" ∈ TT := TT_at 488 (by decide +kernel) (by decide +kernel)
theorem k_466 : Cond.fieldLink R_MM 72 "MockBookModel" "mark" "I" ∈ TT := TT_at 489 (by decide +kernel) (by decide +kernel)
theorem k_516 : Cond.arrayClass .long ∈ TT := TT_at 539 (by decide +kernel) (by decide +kernel)
theorem k_517 : Cond.methodLink R_law 17 y_MM_matcher ∈ TT := TT_at 540 (by decide +kernel) (by decide +kernel)
theorem k_518 : Cond.instanceMethod y_MM_matcher ∈ TT := TT_at 541 (by decide +kernel) (by decide +kernel)
theorem k_519 : Cond.selects R_MM y_MM_matcher y_MM_matcher ∈ TT := TT_at 542 (by decide +kernel) (by decide +kernel)
set_option maxRecDepth 20000 in
theorem k_520 : Cond.code y_MM_matcher b_MM_matcher 3 (some .int) ∈ TT := TT_at 543 rfl rfl
theorem k_521 : Cond.methodLink R_law 21 y_MM_drop ∈ TT := TT_at 544 (by decide +kernel) (by decide +kernel)
theorem k_522 : Cond.instanceMethod y_MM_drop ∈ TT := TT_at 545 (by decide +kernel) (by decide +kernel)
theorem k_523 : Cond.selects R_MM y_MM_drop y_MM_drop ∈ TT := TT_at 546 (by decide +kernel) (by decide +kernel)
set_option maxRecDepth 20000 in
theorem k_524 : Cond.code y_MM_drop b_MM_drop 1 none ∈ TT := TT_at 547 rfl rfl
theorem k_525 : Cond.methodLink R_law 25 y_MM_rule ∈ TT := TT_at 548 (by decide +kernel) (by decide +kernel)
theorem k_526 : Cond.instanceMethod y_MM_rule ∈ TT := TT_at 549 (by decide +kernel) (by decide +kernel)
theorem k_527 : Cond.selects R_MM y_MM_rule y_MM_rule ∈ TT := TT_at 550 (by decide +kernel) (by decide +kernel)
set_option maxRecDepth 20000 in
theorem k_528 : Cond.code y_MM_rule b_MM_rule 4 (some .int) ∈ TT := TT_at 551 rfl rfl
theorem k_529 : Cond.methodLink R_MM 79 y_MM_bad ∈ TT := TT_at 552 (by decide +kernel) (by decide +kernel)
theorem k_530 : Cond.static y_MM_bad ∈ TT := TT_at 553 (by decide +kernel) (by decide +kernel)
set_option maxRecDepth 20000 in
theorem k_531 : Cond.code y_MM_bad b_MM_bad 2 (some .boolean) ∈ TT := TT_at 554 rfl rfl
theorem k_532 : Cond.methodLink R_law 30 y_MM_then ∈ TT := TT_at 555 (by decide +kernel) (by decide +kernel)
theorem k_533 : Cond.instanceMethod y_MM_then ∈ TT := TT_at 556 (by decide +kernel) (by decide +kernel)
theorem k_534 : Cond.selects R_MM y_MM_then y_MM_then ∈ TT := TT_at 557 (by decide +kernel) (by decide +kernel)
set_option maxRecDepth 20000 in
theorem k_535 : Cond.code y_MM_then b_MM_then 5 (some .int) ∈ TT := TT_at 558 rfl rfl
theorem k_536 : Cond.methodLink R_law 35 y_MM_strict ∈ TT := TT_at 559 (by decide +kernel) (by decide +kernel)
theorem k_537 : Cond.instanceMethod y_MM_strict ∈ TT := TT_at 560 (by decide +kernel) (by decide +kernel)
theorem k_538 : Cond.selects R_MM y_MM_strict y_MM_strict ∈ TT := TT_at 561 (by decide +kernel) (by decide +kernel)
set_option maxRecDepth 20000 in
theorem k_539 : Cond.code y_MM_strict b_MM_strict 4 (some .int) ∈ TT := TT_at 562 rfl rfl
theorem k_540 : Cond.methodLink R_law 40 y_MM_call ∈ TT := TT_at 563 (by decide +kernel) (by decide +kernel)
theorem k_541 : Cond.instanceMethod y_MM_call ∈ TT := TT_at 564 (by decide +kernel) (by decide +kernel)
theorem k_542 : Cond.selects R_MM y_MM_call y_MM_call ∈ TT := TT_at 565 (by decide +kernel) (by decide +kernel)
set_option maxRecDepth 20000 in
theorem k_543 : Cond.code y_MM_call b_MM_call 11 (some .long) ∈ TT := TT_at 566 rfl rfl
theorem k_544 : Cond.constantLong R_MM 106 60000000000 ∈ TT := TT_at 567 (by decide +kernel) (by decide +kernel)
theorem k_545 : Cond.methodLink R_MM 108 y_MM_note ∈ TT := TT_at 568 (by decide +kernel) (by decide +kernel)
theorem k_547 : Cond.instanceMethod y_MM_note ∈ TT := TT_at 570 (by decide +kernel) (by decide +kernel)
set_option maxRecDepth 20000 in
theorem k_548 : Cond.code y_MM_note b_MM_note 6 (some .int) ∈ TT := TT_at 571 rfl rfl
theorem k_549 : Cond.methodLink R_MM 112 y_MM_action ∈ TT := TT_at 572 (by decide +kernel) (by decide +kernel)
theorem k_551 : Cond.instanceMethod y_MM_action ∈ TT := TT_at 574 (by decide +kernel) (by decide +kernel)
set_option maxRecDepth 20000 in
theorem k_552 : Cond.code y_MM_action b_MM_action 4 (some .int) ∈ TT := TT_at 575 rfl rfl
theorem k_553 : Cond.methodLink R_MM 93 y_MM_ruleFits ∈ TT := TT_at 576 (by decide +kernel) (by decide +kernel)
theorem k_555 : Cond.instanceMethod y_MM_ruleFits ∈ TT := TT_at 578 (by decide +kernel) (by decide +kernel)
set_option maxRecDepth 20000 in
theorem k_556 : Cond.code y_MM_ruleFits b_MM_ruleFits 4 (some .boolean) ∈ TT := TT_at 579 rfl rfl
theorem k_557 : Cond.methodLink R_MM 86 y_MM_fits ∈ TT := TT_at 580 (by decide +kernel) (by decide +kernel)
theorem k_558 : Cond.static y_MM_fits ∈ TT := TT_at 581 (by decide +kernel) (by decide +kernel)
set_option maxRecDepth 20000 in
theorem k_559 : Cond.code y_MM_fits b_MM_fits 3 (some .boolean) ∈ TT := TT_at 582 rfl rfl
theorem k_560 : Cond.methodLink R_MM 96 y_MM_uses ∈ TT := TT_at 583 (by decide +kernel) (by decide +kernel)
theorem k_562 : Cond.instanceMethod y_MM_uses ∈ TT := TT_at 585 (by decide +kernel) (by decide +kernel)
set_option maxRecDepth 20000 in
theorem k_563 : Cond.code y_MM_uses b_MM_uses 5 (some .int) ∈ TT := TT_at 586 rfl rfl
theorem k_564 : Cond.methodLink R_MM 116 y_MM_plain ∈ TT := TT_at 587 (by decide +kernel) (by decide +kernel)
theorem k_566 : Cond.instanceMethod y_MM_plain ∈ TT := TT_at 589 (by decide +kernel) (by decide +kernel)
set_option maxRecDepth 20000 in
theorem k_567 : Cond.code y_MM_plain b_MM_plain 3 (some .long) ∈ TT := TT_at 590 rfl rfl
theorem k_568 : Cond.constantLong R_MM 100 20000000000 ∈ TT := TT_at 591 (by decide +kernel) (by decide +kernel)
theorem k_569 : Cond.constantLong R_MM 102 40000000000 ∈ TT := TT_at 592 (by decide +kernel) (by decide +kernel)
theorem k_570 : Cond.constantLong R_MM 104 20000000001 ∈ TT := TT_at 593 (by decide +kernel) (by decide +kernel)
theorem k_571 : Cond.methodLink R_law 45 y_MM_verify ∈ TT := TT_at 594 (by decide +kernel) (by decide +kernel)
theorem k_572 : Cond.instanceMethod y_MM_verify ∈ TT := TT_at 595 (by decide +kernel) (by decide +kernel)
theorem k_573 : Cond.selects R_MM y_MM_verify y_MM_verify ∈ TT := TT_at 596 (by decide +kernel) (by decide +kernel)
set_option maxRecDepth 20000 in
theorem k_574 : Cond.code y_MM_verify b_MM_verify 8 (some .int) ∈ TT := TT_at 597 rfl rfl
theorem k_575 : Cond.methodLink R_MM 120 y_MM_asked ∈ TT := TT_at 598 (by decide +kernel) (by decide +kernel)
theorem k_577 : Cond.instanceMethod y_MM_asked ∈ TT := TT_at 600 (by decide +kernel) (by decide +kernel)
set_option maxRecDepth 20000 in
theorem k_578 : Cond.code y_MM_asked b_MM_asked 5 (some .boolean) ∈ TT := TT_at 601 rfl rfl
theorem k_579 : Cond.methodLink R_law 49 y_MM_inOrder ∈ TT := TT_at 602 (by decide +kernel) (by decide +kernel)
theorem k_580 : Cond.instanceMethod y_MM_inOrder ∈ TT := TT_at 603 (by decide +kernel) (by decide +kernel)
theorem k_581 : Cond.selects R_MM y_MM_inOrder y_MM_inOrder ∈ TT := TT_at 604 (by decide +kernel) (by decide +kernel)
set_option maxRecDepth 20000 in
theorem k_582 : Cond.code y_MM_inOrder b_MM_inOrder 5 (some .int) ∈ TT := TT_at 605 rfl rfl
theorem k_583 : Cond.methodLink R_law 54 y_MM_rewind ∈ TT := TT_at 606 (by decide +kernel) (by decide +kernel)
theorem k_584 : Cond.instanceMethod y_MM_rewind ∈ TT := TT_at 607 (by decide +kernel) (by decide +kernel)
theorem k_585 : Cond.selects R_MM y_MM_rewind y_MM_rewind ∈ TT := TT_at 608 (by decide +kernel) (by decide +kernel)
set_option maxRecDepth 20000 in
theorem k_586 : Cond.code y_MM_rewind b_MM_rewind 2 (some .int) ∈ TT := TT_at 609 rfl rfl
theorem k_587 : Cond.methodLink R_law 59 y_MM_open ∈ TT := TT_at 610 (by decide +kernel) (by decide +kernel)
theorem k_588 : Cond.instanceMethod y_MM_open ∈ TT := TT_at 611 (by decide +kernel) (by decide +kernel)
theorem k_589 : Cond.selects R_MM y_MM_open y_MM_open ∈ TT := TT_at 612 (by decide +kernel) (by decide +kernel)
set_option maxRecDepth 20000 in
theorem k_590 : Cond.code y_MM_open b_MM_open 3 (some .int) ∈ TT := TT_at 613 rfl rfl
theorem k_591 : Cond.methodLink R_law 63 y_MM_unused ∈ TT := TT_at 614 (by decide +kernel) (by decide +kernel)
theorem k_592 : Cond.instanceMethod y_MM_unused ∈ TT := TT_at 615 (by decide +kernel) (by decide +kernel)
theorem k_593 : Cond.selects R_MM y_MM_unused y_MM_unused ∈ TT := TT_at 616 (by decide +kernel) (by decide +kernel)
set_option maxRecDepth 20000 in
theorem k_594 : Cond.code y_MM_unused b_MM_unused 2 (some .int) ∈ TT := TT_at 617 rfl rfl
theorem k_595 : Cond.methodLink R_law 67 y_MM_reset ∈ TT := TT_at 618 (by decide +kernel) (by decide +kernel)
theorem k_596 : Cond.instanceMethod y_MM_reset ∈ TT := TT_at 619 (by decide +kernel) (by decide +kernel)
theorem k_597 : Cond.selects R_MM y_MM_reset y_MM_reset ∈ TT := TT_at 620 (by decide +kernel) (by decide +kernel)
set_option maxRecDepth 20000 in
theorem k_598 : Cond.code y_MM_reset b_MM_reset 4 (some .int) ∈ TT := TT_at 621 rfl rfl
theorem k_599 : Cond.methodLink R_law 72 y_MM_noted ∈ TT := TT_at 622 (by decide +kernel) (by decide +kernel)
theorem k_600 : Cond.instanceMethod y_MM_noted ∈ TT := TT_at 623 (by decide +kernel) (by decide +kernel)
theorem k_601 : Cond.selects R_MM y_MM_noted y_MM_noted ∈ TT := TT_at 624 (by decide +kernel) (by decide +kernel)
set_option maxRecDepth 20000 in
theorem k_602 : Cond.code y_MM_noted b_MM_noted 3 (some .long) ∈ TT := TT_at 625 rfl rfl
theorem k_603 : Cond.methodLink R_law 77 y_MM_answer ∈ TT := TT_at 626 (by decide +kernel) (by decide +kernel)
theorem k_604 : Cond.instanceMethod y_MM_answer ∈ TT := TT_at 627 (by decide +kernel) (by decide +kernel)
theorem k_605 : Cond.selects R_MM y_MM_answer y_MM_answer ∈ TT := TT_at 628 (by decide +kernel) (by decide +kernel)
set_option maxRecDepth 20000 in
theorem k_606 : Cond.code y_MM_answer b_MM_answer 2 (some .long) ∈ TT := TT_at 629 rfl rfl
theorem k_607 : Cond.methodLink R_law 81 y_MM_about ∈ TT := TT_at 630 (by decide +kernel) (by decide +kernel)
theorem k_608 : Cond.instanceMethod y_MM_about ∈ TT := TT_at 631 (by decide +kernel) (by decide +kernel)
theorem k_609 : Cond.selects R_MM y_MM_about y_MM_about ∈ TT := TT_at 632 (by decide +kernel) (by decide +kernel)
set_option maxRecDepth 20000 in
theorem k_610 : Cond.code y_MM_about b_MM_about 3 (some .int) ∈ TT := TT_at 633 rfl rfl
theorem k_611 : Cond.methodLink R_law 85 y_MM_count ∈ TT := TT_at 634 (by decide +kernel) (by decide +kernel)
theorem k_612 : Cond.instanceMethod y_MM_count ∈ TT := TT_at 635 (by decide +kernel) (by decide +kernel)
theorem k_613 : Cond.selects R_MM y_MM_count y_MM_count ∈ TT := TT_at 636 (by decide +kernel) (by decide +kernel)
set_option maxRecDepth 20000 in
theorem k_614 : Cond.code y_MM_count b_MM_count 4 (some .int) ∈ TT := TT_at 637 rfl rfl
theorem k_618 : Cond.selects "[Ljava/lang/Object;" ⟨"java/lang/Object", "getClass", "()Ljava/lang/Class;"⟩ ⟨"java/lang/Object", "getClass", "()Ljava/lang/Class;"⟩ ∈ TT := TT_at 641 (by decide +kernel) (by decide +kernel)
theorem ks_0 : Cond.selects R_AL y_AL_add3 y_AL_add3 ∈ TT := TT_at 0 (by decide +kernel) (by decide +kernel)
theorem ks_1 : Cond.selects R_AL y_AL_grow y_AL_grow ∈ TT := TT_at 1 (by decide +kernel) (by decide +kernel)
theorem ks_2 : Cond.selects R_AL y_AL_growI y_AL_growI ∈ TT := TT_at 2 (by decide +kernel) (by decide +kernel)
theorem ks_3 : Cond.selects R_MB y_MB_isRule y_MB_isRule ∈ TT := TT_at 3 (by decide +kernel) (by decide +kernel)
theorem ks_4 : Cond.selects R_MB y_MB_noteAndRespond y_MB_noteAndRespond ∈ TT := TT_at 4 (by decide +kernel) (by decide +kernel)
theorem ks_5 : Cond.selects R_MB y_MB_ruleNumberFor y_MB_ruleNumberFor ∈ TT := TT_at 5 (by decide +kernel) (by decide +kernel)
theorem ks_6 : Cond.selects R_MB y_MB_respond y_MB_respond ∈ TT := TT_at 6 (by decide +kernel) (by decide +kernel)
theorem ks_7 : Cond.selects R_MB y_MB_pass y_MB_pass ∈ TT := TT_at 7 (by decide +kernel) (by decide +kernel)
theorem ks_8 : Cond.selects R_MB y_MB_countSought y_MB_countSought ∈ TT := TT_at 8 (by decide +kernel) (by decide +kernel)
theorem ks_9 : Cond.selects R_MB y_MB_isSought y_MB_isSought ∈ TT := TT_at 9 (by decide +kernel) (by decide +kernel)
theorem ks_10 : Cond.selects R_MB y_MB_verifySought y_MB_verifySought ∈ TT := TT_at 10 (by decide +kernel) (by decide +kernel)
theorem ks_11 : Cond.selects R_MB y_MB_firstSoughtAfterMark y_MB_firstSoughtAfterMark ∈ TT := TT_at 11 (by decide +kernel) (by decide +kernel)
theorem ks_12 : Cond.selects R_MB y_MB_endRules y_MB_endRules ∈ TT := TT_at 12 (by decide +kernel) (by decide +kernel)
theorem ks_13 : Cond.selects R_MB y_MB_endInteractions y_MB_endInteractions ∈ TT := TT_at 13 (by decide +kernel) (by decide +kernel)
theorem ks_14 : Cond.selects R_MB y_MB_isInteraction y_MB_isInteraction ∈ TT := TT_at 14 (by decide +kernel) (by decide +kernel)
theorem ks_15 : Cond.selects R_MB y_MB_countLiveInteractions y_MB_countLiveInteractions ∈ TT := TT_at 15 (by decide +kernel) (by decide +kernel)
theorem ks_16 : Cond.selects R_MB y_MB_countLiveRules y_MB_countLiveRules ∈ TT := TT_at 16 (by decide +kernel) (by decide +kernel)
theorem ks_17 : Cond.selects R_MM y_MM_note y_MM_note ∈ TT := TT_at 17 (by decide +kernel) (by decide +kernel)
theorem ks_18 : Cond.selects R_MM y_MM_action y_MM_action ∈ TT := TT_at 18 (by decide +kernel) (by decide +kernel)
theorem ks_19 : Cond.selects R_MM y_MM_ruleFits y_MM_ruleFits ∈ TT := TT_at 19 (by decide +kernel) (by decide +kernel)
theorem ks_20 : Cond.selects R_MM y_MM_uses y_MM_uses ∈ TT := TT_at 20 (by decide +kernel) (by decide +kernel)
theorem ks_21 : Cond.selects R_MM y_MM_plain y_MM_plain ∈ TT := TT_at 21 (by decide +kernel) (by decide +kernel)
theorem ks_22 : Cond.selects R_MM y_MM_asked y_MM_asked ∈ TT := TT_at 22 (by decide +kernel) (by decide +kernel)
theorem i_MB : ∀ w ∈ u_ws R_MB F_MB 5, w ∈ TT := by decide +kernel
theorem i_Ma : ∀ w ∈ u_ws R_Ma F_Ma 3, w ∈ TT := by decide +kernel
theorem i_Ru : ∀ w ∈ u_ws R_Ru F_Ru 8, w ∈ TT := by decide +kernel
theorem i_In : ∀ w ∈ u_ws R_In F_In 11, w ∈ TT := by decide +kernel
theorem i_AL : ∀ w ∈ u_ws R_AL F_AL 3, w ∈ TT := by decide +kernel
theorem i_MM : ∀ w ∈ u_ws R_MM F_MM 24, w ∈ TT := by decide +kernel
