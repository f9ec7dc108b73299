def RX0 : String := "Sendhouse$Classes"
def TX0 : u_T := fun k => match k with
  | 0 => ("Sendhouse$Classes", "above", "[I", true)
  | 1 => ("Sendhouse$Classes", "fieldCounts", "[I", true)
  | _ => ("Sendhouse$Classes", "count", "I", false)
def tyX0 : Nat → FieldType := fun k => match k with
  | 0 => .array .int
  | 1 => .array .int
  | _ => .int
abbrev wsX00 : List Cond := u_ws RX0 TX0 3
theorem nmX0 : ∀ a, a < 3 → ∀ b, b < 3 → a ≠ b → (TX0 a).2.1 ≠ (TX0 b).2.1 := by decide +kernel
theorem tyX0_ok : ∀ k, k < 3 → parseFieldDescriptor (TX0 k).2.2.1 = some (tyX0 k) := by decide +kernel
abbrev cX0_init : ByteArray := prog_2_method_1_code
def yX0_init : MethodName := ⟨RX0, "<init>", "()V"⟩
abbrev cX0_has : ByteArray := prog_2_method_2_code
def yX0_has : MethodName := ⟨RX0, "has", "(I)Z"⟩
abbrev cX0_aboveOf : ByteArray := prog_2_method_3_code
def yX0_aboveOf : MethodName := ⟨RX0, "aboveOf", "(I)I"⟩
abbrev cX0_fieldsOf : ByteArray := prog_2_method_4_code
def yX0_fieldsOf : MethodName := ⟨RX0, "fieldsOf", "(I)I"⟩
abbrev cX0_enlist : ByteArray := prog_2_method_5_code
def yX0_enlist : MethodName := ⟨RX0, "enlist", "(II)I"⟩
def RX1 : String := "Sendhouse$Frame"
def TX1 : u_T := fun k => match k with
  | 0 => ("Sendhouse$Frame", "arguments", "[J", true)
  | 1 => ("Sendhouse$Frame", "temporaries", "[J", true)
  | 2 => ("Sendhouse$Frame", "pile", "[J", true)
  | 3 => ("Sendhouse$Frame", "told", "LSendhouse$Told;", false)
  | 4 => ("Sendhouse$Frame", "receiver", "J", false)
  | 5 => ("Sendhouse$Frame", "row", "I", false)
  | _ => ("Sendhouse$Frame", "depth", "I", false)
def tyX1 : Nat → FieldType := fun k => match k with
  | 0 => .array .long
  | 1 => .array .long
  | 2 => .array .long
  | 3 => .object "Sendhouse$Told"
  | 4 => .long
  | 5 => .int
  | _ => .int
abbrev wsX10 : List Cond := u_ws RX1 TX1 7
theorem nmX1 : ∀ a, a < 7 → ∀ b, b < 7 → a ≠ b → (TX1 a).2.1 ≠ (TX1 b).2.1 := by decide +kernel
theorem tyX1_ok : ∀ k, k < 7 → parseFieldDescriptor (TX1 k).2.2.1 = some (tyX1 k) := by decide +kernel
abbrev cX1_init : ByteArray := prog_3_method_1_code
def yX1_init : MethodName := ⟨RX1, "<init>", "()V"⟩
abbrev cX1_open : ByteArray := prog_3_method_2_code
def yX1_open : MethodName := ⟨RX1, "open", "(LSendhouse$Told;J)V"⟩
abbrev cX1_cls : ByteArray := prog_3_method_3_code
def yX1_cls : MethodName := ⟨RX1, "cls", "()I"⟩
abbrev cX1_selector : ByteArray := prog_3_method_4_code
def yX1_selector : MethodName := ⟨RX1, "selector", "()I"⟩
abbrev cX1_letter : ByteArray := prog_3_method_5_code
def yX1_letter : MethodName := ⟨RX1, "letter", "()C"⟩
abbrev cX1_first : ByteArray := prog_3_method_6_code
def yX1_first : MethodName := ⟨RX1, "first", "()I"⟩
abbrev cX1_second : ByteArray := prog_3_method_7_code
def yX1_second : MethodName := ⟨RX1, "second", "()I"⟩
abbrev cX1_depthAsTold : ByteArray := prog_3_method_8_code
def yX1_depthAsTold : MethodName := ⟨RX1, "depthAsTold", "()I"⟩
abbrev cX1_push : ByteArray := prog_3_method_9_code
def yX1_push : MethodName := ⟨RX1, "push", "(J)V"⟩
abbrev cX1_pop : ByteArray := prog_3_method_10_code
def yX1_pop : MethodName := ⟨RX1, "pop", "()J"⟩
abbrev cX1_fromTop : ByteArray := prog_3_method_11_code
def yX1_fromTop : MethodName := ⟨RX1, "fromTop", "(I)J"⟩
abbrev cX1_placesOf : ByteArray := prog_3_method_12_code
def yX1_placesOf : MethodName := ⟨RX1, "placesOf", "(C)I"⟩
abbrev cX1_placeOf : ByteArray := prog_3_method_13_code
def yX1_placeOf : MethodName := ⟨RX1, "placeOf", "(CI)J"⟩
abbrev cX1_places : ByteArray := prog_3_method_14_code
def yX1_places : MethodName := ⟨RX1, "places", "()I"⟩
abbrev cX1_place : ByteArray := prog_3_method_15_code
def yX1_place : MethodName := ⟨RX1, "place", "(I)J"⟩
def RX2 : String := "Sendhouse$Page"
def TX2 : u_T := fun k => match k with
  | _ => ("Sendhouse$Page", "values", "[J", true)
def tyX2 : Nat → FieldType := fun k => match k with
  | _ => .array .long
abbrev wsX20 : List Cond := u_ws RX2 TX2 1
theorem nmX2 : ∀ a, a < 1 → ∀ b, b < 1 → a ≠ b → (TX2 a).2.1 ≠ (TX2 b).2.1 := by decide +kernel
theorem tyX2_ok : ∀ k, k < 1 → parseFieldDescriptor (TX2 k).2.2.1 = some (tyX2 k) := by decide +kernel
abbrev cX2_init : ByteArray := prog_4_method_1_code
def yX2_init : MethodName := ⟨RX2, "<init>", "()V"⟩
def RX3 : String := "Sendhouse$Rows"
def TX3 : u_T := fun k => match k with
  | 0 => ("Sendhouse$Rows", "letters", "[C", true)
  | 1 => ("Sendhouse$Rows", "firsts", "[I", true)
  | 2 => ("Sendhouse$Rows", "seconds", "[I", true)
  | 3 => ("Sendhouse$Rows", "depths", "[I", true)
  | 4 => ("Sendhouse$Rows", "comeTo", "[I", true)
  | 5 => ("Sendhouse$Rows", "count", "I", false)
  | _ => ("Sendhouse$Rows", "comeToCount", "I", false)
def tyX3 : Nat → FieldType := fun k => match k with
  | 0 => .array .char
  | 1 => .array .int
  | 2 => .array .int
  | 3 => .array .int
  | 4 => .array .int
  | 5 => .int
  | _ => .int
abbrev wsX30 : List Cond := u_ws RX3 TX3 7
theorem nmX3 : ∀ a, a < 7 → ∀ b, b < 7 → a ≠ b → (TX3 a).2.1 ≠ (TX3 b).2.1 := by decide +kernel
theorem tyX3_ok : ∀ k, k < 7 → parseFieldDescriptor (TX3 k).2.2.1 = some (tyX3 k) := by decide +kernel
abbrev cX3_init : ByteArray := prog_5_method_1_code
def yX3_init : MethodName := ⟨RX3, "<init>", "()V"⟩
abbrev cX3_enlist : ByteArray := prog_5_method_2_code
def yX3_enlist : MethodName := ⟨RX3, "enlist", "(CII)V"⟩
abbrev cX3_letterAt : ByteArray := prog_5_method_3_code
def yX3_letterAt : MethodName := ⟨RX3, "letterAt", "(I)C"⟩
abbrev cX3_firstAt : ByteArray := prog_5_method_4_code
def yX3_firstAt : MethodName := ⟨RX3, "firstAt", "(I)I"⟩
abbrev cX3_secondAt : ByteArray := prog_5_method_5_code
def yX3_secondAt : MethodName := ⟨RX3, "secondAt", "(I)I"⟩
abbrev cX3_depthAt : ByteArray := prog_5_method_6_code
def yX3_depthAt : MethodName := ⟨RX3, "depthAt", "(I)I"⟩
abbrev cX3_comeToAt : ByteArray := prog_5_method_7_code
def yX3_comeToAt : MethodName := ⟨RX3, "comeToAt", "(I)I"⟩
abbrev cX3_comeToFirst : ByteArray := prog_5_method_8_code
def yX3_comeToFirst : MethodName := ⟨RX3, "comeToFirst", "()Z"⟩
abbrev cX3_comeTo : ByteArray := prog_5_method_9_code
def yX3_comeTo : MethodName := ⟨RX3, "comeTo", "(II)Z"⟩
abbrev cX3_leadOnFrom : ByteArray := prog_5_method_10_code
def yX3_leadOnFrom : MethodName := ⟨RX3, "leadOnFrom", "(I)Z"⟩
abbrev cX3_takenBy : ByteArray := prog_5_method_11_code
def yX3_takenBy : MethodName := ⟨RX3, "takenBy", "(CI)I"⟩
abbrev cX3_putBy : ByteArray := prog_5_method_12_code
def yX3_putBy : MethodName := ⟨RX3, "putBy", "(C)I"⟩
def RX4 : String := "Sendhouse$Thing"
def TX4 : u_T := fun k => match k with
  | 0 => ("Sendhouse$Thing", "places", "[J", true)
  | 1 => ("Sendhouse$Thing", "number", "I", false)
  | 2 => ("Sendhouse$Thing", "cls", "I", false)
  | 3 => ("Sendhouse$Thing", "size", "I", false)
  | _ => ("Sendhouse$Thing", "reached", "Z", false)
def tyX4 : Nat → FieldType := fun k => match k with
  | 0 => .array .long
  | 1 => .int
  | 2 => .int
  | 3 => .int
  | _ => .boolean
abbrev wsX40 : List Cond := u_ws RX4 TX4 5
theorem nmX4 : ∀ a, a < 5 → ∀ b, b < 5 → a ≠ b → (TX4 a).2.1 ≠ (TX4 b).2.1 := by decide +kernel
theorem tyX4_ok : ∀ k, k < 5 → parseFieldDescriptor (TX4 k).2.2.1 = some (tyX4 k) := by decide +kernel
abbrev cX4_init : ByteArray := prog_6_method_1_code
def yX4_init : MethodName := ⟨RX4, "<init>", "()V"⟩
abbrev cX4_open : ByteArray := prog_6_method_2_code
def yX4_open : MethodName := ⟨RX4, "open", "(III)V"⟩
abbrev cX4_hasField : ByteArray := prog_6_method_3_code
def yX4_hasField : MethodName := ⟨RX4, "hasField", "(I)Z"⟩
def RX5 : String := "Sendhouse$Things"
def TX5 : u_T := fun k => match k with
  | 0 => ("Sendhouse$Things", "all", "[LSendhouse$Thing;", true)
  | 1 => ("Sendhouse$Things", "reached", "[LSendhouse$Thing;", true)
  | 2 => ("Sendhouse$Things", "count", "I", false)
  | 3 => ("Sendhouse$Things", "reachedCount", "I", false)
  | _ => ("Sendhouse$Things", "made", "I", false)
def tyX5 : Nat → FieldType := fun k => match k with
  | 0 => .array (.object "Sendhouse$Thing")
  | 1 => .array (.object "Sendhouse$Thing")
  | 2 => .int
  | 3 => .int
  | _ => .int
abbrev wsX50 : List Cond := u_ws RX5 TX5 5
theorem nmX5 : ∀ a, a < 5 → ∀ b, b < 5 → a ≠ b → (TX5 a).2.1 ≠ (TX5 b).2.1 := by decide +kernel
theorem tyX5_ok : ∀ k, k < 5 → parseFieldDescriptor (TX5 k).2.2.1 = some (tyX5 k) := by decide +kernel
abbrev cX5_init : ByteArray := prog_7_method_1_code
def yX5_init : MethodName := ⟨RX5, "<init>", "()V"⟩
abbrev cX5_isFull : ByteArray := prog_7_method_2_code
def yX5_isFull : MethodName := ⟨RX5, "isFull", "()Z"⟩
abbrev cX5_enlist : ByteArray := prog_7_method_3_code
def yX5_enlist : MethodName := ⟨RX5, "enlist", "(II)I"⟩
abbrev cX5_inOrder : ByteArray := prog_7_method_4_code
def yX5_inOrder : MethodName := ⟨RX5, "inOrder", "(I)LSendhouse$Thing;"⟩
abbrev cX5_withNumber : ByteArray := prog_7_method_5_code
def yX5_withNumber : MethodName := ⟨RX5, "withNumber", "(I)LSendhouse$Thing;"⟩
abbrev cX5_ofValue : ByteArray := prog_7_method_6_code
def yX5_ofValue : MethodName := ⟨RX5, "ofValue", "(J)LSendhouse$Thing;"⟩
abbrev cX5_classOfValue : ByteArray := prog_7_method_7_code
def yX5_classOfValue : MethodName := ⟨RX5, "classOfValue", "(J)I"⟩
abbrev cX5_has : ByteArray := prog_7_method_8_code
def yX5_has : MethodName := ⟨RX5, "has", "(J)Z"⟩
abbrev cX5_hasFieldsThere : ByteArray := prog_7_method_9_code
def yX5_hasFieldsThere : MethodName := ⟨RX5, "hasFieldsThere", "()Z"⟩
abbrev cX5_hasPlacesThere : ByteArray := prog_7_method_10_code
def yX5_hasPlacesThere : MethodName := ⟨RX5, "hasPlacesThere", "(LSendhouse$Thing;)Z"⟩
abbrev cX5_reach : ByteArray := prog_7_method_11_code
def yX5_reach : MethodName := ⟨RX5, "reach", "(J)V"⟩
abbrev cX5_reachFields : ByteArray := prog_7_method_12_code
def yX5_reachFields : MethodName := ⟨RX5, "reachFields", "()V"⟩
abbrev cX5_sweep : ByteArray := prog_7_method_13_code
def yX5_sweep : MethodName := ⟨RX5, "sweep", "()I"⟩
def RX6 : String := "Sendhouse$Told"
def TX6 : u_T := fun k => match k with
  | 0 => ("Sendhouse$Told", "cls", "I", true)
  | 1 => ("Sendhouse$Told", "selector", "I", true)
  | 2 => ("Sendhouse$Told", "arguments", "I", true)
  | 3 => ("Sendhouse$Told", "temporaries", "I", true)
  | 4 => ("Sendhouse$Told", "rows", "LSendhouse$Rows;", true)
  | 5 => ("Sendhouse$Told", "calls", "I", false)
  | _ => ("Sendhouse$Told", "compiled", "Z", false)
def tyX6 : Nat → FieldType := fun k => match k with
  | 0 => .int
  | 1 => .int
  | 2 => .int
  | 3 => .int
  | 4 => .object "Sendhouse$Rows"
  | 5 => .int
  | _ => .boolean
abbrev wsX60 : List Cond := u_ws RX6 TX6 7
theorem nmX6 : ∀ a, a < 7 → ∀ b, b < 7 → a ≠ b → (TX6 a).2.1 ≠ (TX6 b).2.1 := by decide +kernel
theorem tyX6_ok : ∀ k, k < 7 → parseFieldDescriptor (TX6 k).2.2.1 = some (tyX6 k) := by decide +kernel
abbrev cX6_init : ByteArray := prog_8_method_1_code
def yX6_init : MethodName := ⟨RX6, "<init>", "(IIIILSendhouse$Rows;)V"⟩
abbrev cX6_isWellTold : ByteArray := prog_8_method_2_code
def yX6_isWellTold : MethodName := ⟨RX6, "isWellTold", "(LSendhouse$Classes;)Z"⟩
abbrev cX6_isNamingWhatIsThere : ByteArray := prog_8_method_3_code
def yX6_isNamingWhatIsThere : MethodName := ⟨RX6, "isNamingWhatIsThere", "(ILSendhouse$Classes;)Z"⟩
def RX7 : String := "Sendhouse$Written"
def TX7 : u_T := fun k => match k with
  | 0 => ("Sendhouse$Written", "pages", "Ljava/util/ArrayList;", true)
  | 1 => ("Sendhouse$Written", "count", "I", false)
  | 2 => ("Sendhouse$Written", "sum", "J", false)
  | _ => ("Sendhouse$Written", "power", "J", false)
def tyX7 : Nat → FieldType := fun k => match k with
  | 0 => .object "java/util/ArrayList"
  | 1 => .int
  | 2 => .long
  | _ => .long
abbrev wsX70 : List Cond := u_ws RX7 TX7 4
theorem nmX7 : ∀ a, a < 4 → ∀ b, b < 4 → a ≠ b → (TX7 a).2.1 ≠ (TX7 b).2.1 := by decide +kernel
theorem tyX7_ok : ∀ k, k < 4 → parseFieldDescriptor (TX7 k).2.2.1 = some (tyX7 k) := by decide +kernel
abbrev cX7_init : ByteArray := prog_9_method_1_code
def yX7_init : MethodName := ⟨RX7, "<init>", "()V"⟩
abbrev cX7_enlist : ByteArray := prog_9_method_2_code
def yX7_enlist : MethodName := ⟨RX7, "enlist", "(J)V"⟩
abbrev cX7_pageAt : ByteArray := prog_9_method_4_code
def yX7_pageAt : MethodName := ⟨RX7, "pageAt", "(I)LSendhouse$Page;"⟩
def RX8 : String := "Sendhouse"
def TX8 : u_T := fun k => match k with
  | 0 => ("Sendhouse", "classes", "LSendhouse$Classes;", true)
  | 1 => ("Sendhouse", "methods", "[LSendhouse$Told;", true)
  | 2 => ("Sendhouse", "typed", "LSendhouse$Rows;", false)
  | 3 => ("Sendhouse", "hot", "I", false)
  | 4 => ("Sendhouse", "globals", "[J", true)
  | 5 => ("Sendhouse", "things", "LSendhouse$Things;", true)
  | 6 => ("Sendhouse", "frames", "[LSendhouse$Frame;", true)
  | 7 => ("Sendhouse", "frameCount", "I", false)
  | 8 => ("Sendhouse", "state", "C", false)
  | 9 => ("Sendhouse", "reason", "C", false)
  | 10 => ("Sendhouse", "answer", "J", false)
  | 11 => ("Sendhouse", "steps", "I", false)
  | _ => ("Sendhouse", "written", "LSendhouse$Written;", true)
def tyX8 : Nat → FieldType := fun k => match k with
  | 0 => .object "Sendhouse$Classes"
  | 1 => .array (.object "Sendhouse$Told")
  | 2 => .object "Sendhouse$Rows"
  | 3 => .int
  | 4 => .array .long
  | 5 => .object "Sendhouse$Things"
  | 6 => .array (.object "Sendhouse$Frame")
  | 7 => .int
  | 8 => .char
  | 9 => .char
  | 10 => .long
  | 11 => .int
  | _ => .object "Sendhouse$Written"
abbrev wsX80 : List Cond := u_ws RX8 TX8 13
theorem nmX8 : ∀ a, a < 13 → ∀ b, b < 13 → a ≠ b → (TX8 a).2.1 ≠ (TX8 b).2.1 := by decide +kernel
theorem tyX8_ok : ∀ k, k < 13 → parseFieldDescriptor (TX8 k).2.2.1 = some (tyX8 k) := by decide +kernel
abbrev cX8_init : ByteArray := prog_1_method_1_code
def yX8_init : MethodName := ⟨RX8, "<init>", "()V"⟩
abbrev cX8_add : ByteArray := prog_1_method_2_code
def yX8_add : MethodName := ⟨RX8, "add", "(II)I"⟩
abbrev cX8_row : ByteArray := prog_1_method_5_code
def yX8_row : MethodName := ⟨RX8, "row", "(CII)I"⟩
abbrev cX8_wipe : ByteArray := prog_1_method_6_code
def yX8_wipe : MethodName := ⟨RX8, "wipe", "()I"⟩
abbrev cX8_method : ByteArray := prog_1_method_7_code
def yX8_method : MethodName := ⟨RX8, "method", "(IIII)I"⟩
abbrev cX8_remove : ByteArray := prog_1_method_8_code
def yX8_remove : MethodName := ⟨RX8, "remove", "(II)I"⟩
abbrev cX8_checkPlaceOfMethod : ByteArray := prog_1_method_11_code
def yX8_checkPlaceOfMethod : MethodName := ⟨RX8, "checkPlaceOfMethod", "(II)V"⟩
abbrev cX8_checkedMethod : ByteArray := prog_1_method_12_code
def yX8_checkedMethod : MethodName := ⟨RX8, "checkedMethod", "(II)LSendhouse$Told;"⟩
abbrev cX8_methodAt : ByteArray := prog_1_method_13_code
def yX8_methodAt : MethodName := ⟨RX8, "methodAt", "(II)LSendhouse$Told;"⟩
abbrev cX8_placeMethod : ByteArray := prog_1_method_14_code
def yX8_placeMethod : MethodName := ⟨RX8, "placeMethod", "(IILSendhouse$Told;)V"⟩
abbrev cX8_lookUp : ByteArray := prog_1_method_15_code
def yX8_lookUp : MethodName := ⟨RX8, "lookUp", "(II)LSendhouse$Told;"⟩
abbrev cX8_compile : ByteArray := prog_1_method_16_code
def yX8_compile : MethodName := ⟨RX8, "compile", "(II)I"⟩
abbrev cX8_hot : ByteArray := prog_1_method_18_code
def yX8_hot : MethodName := ⟨RX8, "hot", "(I)I"⟩
abbrev cX8_countCall : ByteArray := prog_1_method_19_code
def yX8_countCall : MethodName := ⟨RX8, "countCall", "(LSendhouse$Told;)V"⟩
abbrev cX8_compiledMethods : ByteArray := prog_1_method_20_code
def yX8_compiledMethods : MethodName := ⟨RX8, "compiledMethods", "()I"⟩
abbrev cX8_number : ByteArray := prog_1_method_22_code
def yX8_number : MethodName := ⟨RX8, "number", "(II)I"⟩
abbrev cX8_nothing : ByteArray := prog_1_method_23_code
def yX8_nothing : MethodName := ⟨RX8, "nothing", "(I)I"⟩
abbrev cX8_make : ByteArray := prog_1_method_24_code
def yX8_make : MethodName := ⟨RX8, "make", "(II)I"⟩
abbrev cX8_kind : ByteArray := prog_1_method_25_code
def yX8_kind : MethodName := ⟨RX8, "kind", "(I)C"⟩
abbrev cX8_value : ByteArray := prog_1_method_26_code
def yX8_value : MethodName := ⟨RX8, "value", "(I)I"⟩
abbrev cX8_fieldKind : ByteArray := prog_1_method_28_code
def yX8_fieldKind : MethodName := ⟨RX8, "fieldKind", "(II)C"⟩
abbrev cX8_fieldValue : ByteArray := prog_1_method_29_code
def yX8_fieldValue : MethodName := ⟨RX8, "fieldValue", "(II)I"⟩
abbrev cX8_things : ByteArray := prog_1_method_30_code
def yX8_things : MethodName := ⟨RX8, "things", "()I"⟩
abbrev cX8_collect : ByteArray := prog_1_method_31_code
def yX8_collect : MethodName := ⟨RX8, "collect", "()I"⟩
abbrev cX8_checkGlobal : ByteArray := prog_1_method_32_code
def yX8_checkGlobal : MethodName := ⟨RX8, "checkGlobal", "(I)V"⟩
abbrev cX8_checkedField : ByteArray := prog_1_method_33_code
def yX8_checkedField : MethodName := ⟨RX8, "checkedField", "(II)J"⟩
abbrev cX8_reachFrom : ByteArray := prog_1_method_34_code
def yX8_reachFrom : MethodName := ⟨RX8, "reachFrom", "(LSendhouse$Frame;)V"⟩
abbrev cX8_begin : ByteArray := prog_1_method_35_code
def yX8_begin : MethodName := ⟨RX8, "begin", "(IIIII)I"⟩
abbrev cX8_go : ByteArray := prog_1_method_36_code
def yX8_go : MethodName := ⟨RX8, "go", "(I)I"⟩
abbrev cX8_end : ByteArray := prog_1_method_37_code
def yX8_end : MethodName := ⟨RX8, "end", "()I"⟩
abbrev cX8_state : ByteArray := prog_1_method_38_code
def yX8_state : MethodName := ⟨RX8, "state", "()C"⟩
abbrev cX8_reason : ByteArray := prog_1_method_39_code
def yX8_reason : MethodName := ⟨RX8, "reason", "()C"⟩
abbrev cX8_answerKind : ByteArray := prog_1_method_40_code
def yX8_answerKind : MethodName := ⟨RX8, "answerKind", "()C"⟩
abbrev cX8_answer : ByteArray := prog_1_method_41_code
def yX8_answer : MethodName := ⟨RX8, "answer", "()I"⟩
abbrev cX8_frames : ByteArray := prog_1_method_43_code
def yX8_frames : MethodName := ⟨RX8, "frames", "()I"⟩
abbrev cX8_slotKind : ByteArray := prog_1_method_45_code
def yX8_slotKind : MethodName := ⟨RX8, "slotKind", "(ICI)C"⟩
abbrev cX8_slot : ByteArray := prog_1_method_46_code
def yX8_slot : MethodName := ⟨RX8, "slot", "(ICI)I"⟩
abbrev cX8_checkedAnswer : ByteArray := prog_1_method_50_code
def yX8_checkedAnswer : MethodName := ⟨RX8, "checkedAnswer", "()J"⟩
abbrev cX8_checkedFrame : ByteArray := prog_1_method_51_code
def yX8_checkedFrame : MethodName := ⟨RX8, "checkedFrame", "(I)LSendhouse$Frame;"⟩
abbrev cX8_checkedSlot : ByteArray := prog_1_method_52_code
def yX8_checkedSlot : MethodName := ⟨RX8, "checkedSlot", "(ICI)J"⟩
abbrev cX8_frameAt : ByteArray := prog_1_method_54_code
def yX8_frameAt : MethodName := ⟨RX8, "frameAt", "(I)LSendhouse$Frame;"⟩
abbrev cX8_openFrame : ByteArray := prog_1_method_55_code
def yX8_openFrame : MethodName := ⟨RX8, "openFrame", "(LSendhouse$Told;J)LSendhouse$Frame;"⟩
abbrev cX8_isStep : ByteArray := prog_1_method_56_code
def yX8_isStep : MethodName := ⟨RX8, "isStep", "(LSendhouse$Frame;)Z"⟩
abbrev cX8_isGoingThere : ByteArray := prog_1_method_57_code
def yX8_isGoingThere : MethodName := ⟨RX8, "isGoingThere", "(J)Z"⟩
abbrev cX8_doRow : ByteArray := prog_1_method_58_code
def yX8_doRow : MethodName := ⟨RX8, "doRow", "(LSendhouse$Frame;)V"⟩
abbrev cX8_doRowWithoutFault : ByteArray := prog_1_method_59_code
def yX8_doRowWithoutFault : MethodName := ⟨RX8, "doRowWithoutFault", "(LSendhouse$Frame;CI)V"⟩
abbrev cX8_valueToPut : ByteArray := prog_1_method_60_code
def yX8_valueToPut : MethodName := ⟨RX8, "valueToPut", "(LSendhouse$Frame;CI)J"⟩
abbrev cX8_putField : ByteArray := prog_1_method_61_code
def yX8_putField : MethodName := ⟨RX8, "putField", "(LSendhouse$Frame;I)V"⟩
abbrev cX8_takeIntoField : ByteArray := prog_1_method_62_code
def yX8_takeIntoField : MethodName := ⟨RX8, "takeIntoField", "(LSendhouse$Frame;I)V"⟩
abbrev cX8_reckon : ByteArray := prog_1_method_63_code
def yX8_reckon : MethodName := ⟨RX8, "reckon", "(LSendhouse$Frame;C)V"⟩
abbrev cX8_outcome : ByteArray := prog_1_method_64_code
def yX8_outcome : MethodName := ⟨RX8, "outcome", "(CII)I"⟩
abbrev cX8_makeThing : ByteArray := prog_1_method_65_code
def yX8_makeThing : MethodName := ⟨RX8, "makeThing", "(LSendhouse$Frame;I)V"⟩
abbrev cX8_send : ByteArray := prog_1_method_66_code
def yX8_send : MethodName := ⟨RX8, "send", "(LSendhouse$Frame;CII)V"⟩
abbrev cX8_goThereIfNotZero : ByteArray := prog_1_method_67_code
def yX8_goThereIfNotZero : MethodName := ⟨RX8, "goThereIfNotZero", "(LSendhouse$Frame;I)V"⟩
abbrev cX8_giveBack : ByteArray := prog_1_method_68_code
def yX8_giveBack : MethodName := ⟨RX8, "giveBack", "(J)V"⟩
abbrev cX8_fault : ByteArray := prog_1_method_69_code
def yX8_fault : MethodName := ⟨RX8, "fault", "(C)V"⟩
abbrev cX8_checksum : ByteArray := prog_1_method_72_code
def yX8_checksum : MethodName := ⟨RX8, "checksum", "()J"⟩
abbrev cX8_isSound : ByteArray := prog_1_method_73_code
def yX8_isSound : MethodName := ⟨RX8, "isSound", "()Z"⟩
abbrev cX8_plus : ByteArray := prog_1_method_74_code
def yX8_plus : MethodName := ⟨RX8, "plus", "(JJ)J"⟩
abbrev cX8_plusValue : ByteArray := prog_1_method_75_code
def yX8_plusValue : MethodName := ⟨RX8, "plusValue", "(JJ)J"⟩
abbrev cX8_plusThing : ByteArray := prog_1_method_76_code
def yX8_plusThing : MethodName := ⟨RX8, "plusThing", "(JLSendhouse$Thing;)J"⟩
abbrev cX8_plusFrame : ByteArray := prog_1_method_77_code
def yX8_plusFrame : MethodName := ⟨RX8, "plusFrame", "(JLSendhouse$Frame;)J"⟩
abbrev cX8_hasGlobalsThere : ByteArray := prog_1_method_78_code
def yX8_hasGlobalsThere : MethodName := ⟨RX8, "hasGlobalsThere", "()Z"⟩
abbrev cX8_hasFramesThere : ByteArray := prog_1_method_79_code
def yX8_hasFramesThere : MethodName := ⟨RX8, "hasFramesThere", "()Z"⟩
abbrev cX8_hasPlacesThere : ByteArray := prog_1_method_80_code
def yX8_hasPlacesThere : MethodName := ⟨RX8, "hasPlacesThere", "(LSendhouse$Frame;)Z"⟩
abbrev cX8_hasDepthAsTold : ByteArray := prog_1_method_81_code
def yX8_hasDepthAsTold : MethodName := ⟨RX8, "hasDepthAsTold", "()Z"⟩
abbrev cX8_ofNumber : ByteArray := prog_1_method_82_code
def yX8_ofNumber : MethodName := ⟨RX8, "ofNumber", "(I)J"⟩
abbrev cX8_ofThing : ByteArray := prog_1_method_83_code
def yX8_ofThing : MethodName := ⟨RX8, "ofThing", "(I)J"⟩
abbrev cX8_kindOf : ByteArray := prog_1_method_84_code
def yX8_kindOf : MethodName := ⟨RX8, "kindOf", "(J)C"⟩
abbrev cX8_numberOf : ByteArray := prog_1_method_85_code
def yX8_numberOf : MethodName := ⟨RX8, "numberOf", "(J)I"⟩
abbrev cX8_isNumber : ByteArray := prog_1_method_86_code
def yX8_isNumber : MethodName := ⟨RX8, "isNumber", "(J)Z"⟩
abbrev cX8_isThing : ByteArray := prog_1_method_87_code
def yX8_isThing : MethodName := ⟨RX8, "isThing", "(J)Z"⟩
abbrev cX8_placeAt : ByteArray := prog_1_method_88_code
def yX8_placeAt : MethodName := ⟨RX8, "placeAt", "([JI)J"⟩
abbrev cX8_putAt : ByteArray := prog_1_method_89_code
def yX8_putAt : MethodName := ⟨RX8, "putAt", "([JIJ)V"⟩
abbrev cX8_isBelow : ByteArray := prog_1_method_90_code
def yX8_isBelow : MethodName := ⟨RX8, "isBelow", "(II)Z"⟩
abbrev cX8_isOfPlainValues : ByteArray := prog_1_method_91_code
def yX8_isOfPlainValues : MethodName := ⟨RX8, "isOfPlainValues", "(I)Z"⟩
abbrev cX8_isLetter : ByteArray := prog_1_method_92_code
def yX8_isLetter : MethodName := ⟨RX8, "isLetter", "(C)Z"⟩
def RX9 : String := "SendhouseModel$Frame"
def TX9 : u_T := fun k => match k with
  | _ => ("", "", "", false)
def tyX9 : Nat → FieldType := fun k => match k with
  | _ => .int
abbrev wsX90 : List Cond := u_ws RX9 TX9 0
theorem nmX9 : ∀ a, a < 0 → ∀ b, b < 0 → a ≠ b → (TX9 a).2.1 ≠ (TX9 b).2.1 := by decide +kernel
theorem tyX9_ok : ∀ k, k < 0 → parseFieldDescriptor (TX9 k).2.2.1 = some (tyX9 k) := by decide +kernel
def RX10 : String := "SendhouseModel$Kind"
def TX10 : u_T := fun k => match k with
  | _ => ("", "", "", false)
def tyX10 : Nat → FieldType := fun k => match k with
  | _ => .int
abbrev wsX100 : List Cond := u_ws RX10 TX10 0
theorem nmX10 : ∀ a, a < 0 → ∀ b, b < 0 → a ≠ b → (TX10 a).2.1 ≠ (TX10 b).2.1 := by decide +kernel
theorem tyX10_ok : ∀ k, k < 0 → parseFieldDescriptor (TX10 k).2.2.1 = some (tyX10 k) := by decide +kernel
def RX11 : String := "SendhouseModel$Method"
def TX11 : u_T := fun k => match k with
  | _ => ("", "", "", false)
def tyX11 : Nat → FieldType := fun k => match k with
  | _ => .int
abbrev wsX110 : List Cond := u_ws RX11 TX11 0
theorem nmX11 : ∀ a, a < 0 → ∀ b, b < 0 → a ≠ b → (TX11 a).2.1 ≠ (TX11 b).2.1 := by decide +kernel
theorem tyX11_ok : ∀ k, k < 0 → parseFieldDescriptor (TX11 k).2.2.1 = some (tyX11 k) := by decide +kernel
def RX12 : String := "SendhouseModel$Row"
def TX12 : u_T := fun k => match k with
  | _ => ("", "", "", false)
def tyX12 : Nat → FieldType := fun k => match k with
  | _ => .int
abbrev wsX120 : List Cond := u_ws RX12 TX12 0
theorem nmX12 : ∀ a, a < 0 → ∀ b, b < 0 → a ≠ b → (TX12 a).2.1 ≠ (TX12 b).2.1 := by decide +kernel
theorem tyX12_ok : ∀ k, k < 0 → parseFieldDescriptor (TX12 k).2.2.1 = some (tyX12 k) := by decide +kernel
def RX13 : String := "SendhouseModel$Thing"
def TX13 : u_T := fun k => match k with
  | _ => ("", "", "", false)
def tyX13 : Nat → FieldType := fun k => match k with
  | _ => .int
abbrev wsX130 : List Cond := u_ws RX13 TX13 0
theorem nmX13 : ∀ a, a < 0 → ∀ b, b < 0 → a ≠ b → (TX13 a).2.1 ≠ (TX13 b).2.1 := by decide +kernel
theorem tyX13_ok : ∀ k, k < 0 → parseFieldDescriptor (TX13 k).2.2.1 = some (tyX13 k) := by decide +kernel
def RX14 : String := "SendhouseModel$Value"
def TX14 : u_T := fun k => match k with
  | _ => ("", "", "", false)
def tyX14 : Nat → FieldType := fun k => match k with
  | _ => .int
abbrev wsX140 : List Cond := u_ws RX14 TX14 0
theorem nmX14 : ∀ a, a < 0 → ∀ b, b < 0 → a ≠ b → (TX14 a).2.1 ≠ (TX14 b).2.1 := by decide +kernel
theorem tyX14_ok : ∀ k, k < 0 → parseFieldDescriptor (TX14 k).2.2.1 = some (tyX14 k) := by decide +kernel
def RX15 : String := "SendhouseModel"
def TX15 : u_T := fun k => match k with
  | _ => ("", "", "", false)
def tyX15 : Nat → FieldType := fun k => match k with
  | _ => .int
abbrev wsX150 : List Cond := u_ws RX15 TX15 0
theorem nmX15 : ∀ a, a < 0 → ∀ b, b < 0 → a ≠ b → (TX15 a).2.1 ≠ (TX15 b).2.1 := by decide +kernel
theorem tyX15_ok : ∀ k, k < 0 → parseFieldDescriptor (TX15 k).2.2.1 = some (tyX15 k) := by decide +kernel
def RJx145de : String := "java/io/Serializable"
def TJx145de : u_T := fun k => match k with
  | _ => ("", "", "", false)
def tyJx145de : Nat → FieldType := fun k => match k with
  | _ => .int
abbrev wsJx145de0 : List Cond := u_ws RJx145de TJx145de 0
theorem nmJx145de : ∀ a, a < 0 → ∀ b, b < 0 → a ≠ b → (TJx145de a).2.1 ≠ (TJx145de b).2.1 := by decide +kernel
theorem tyJx145de_ok : ∀ k, k < 0 → parseFieldDescriptor (TJx145de k).2.2.1 = some (tyJx145de k) := by decide +kernel
def RJ5 : String := "java/lang/AbstractStringBuilder"
def TJ5 : u_T := fun k => match k with
  | _ => ("", "", "", false)
def tyJ5 : Nat → FieldType := fun k => match k with
  | _ => .int
abbrev wsJ50 : List Cond := u_ws RJ5 TJ5 0
theorem nmJ5 : ∀ a, a < 0 → ∀ b, b < 0 → a ≠ b → (TJ5 a).2.1 ≠ (TJ5 b).2.1 := by decide +kernel
theorem tyJ5_ok : ∀ k, k < 0 → parseFieldDescriptor (TJ5 k).2.2.1 = some (tyJ5 k) := by decide +kernel
abbrev cJ5_init_d00df : ByteArray := prog_19_method_2_code
def yJ5_init_d00df : MethodName := ⟨RJ5, "<init>", "(I)V"⟩
abbrev cJ5_length_8abf5 : ByteArray := prog_19_method_6_code
def yJ5_length_8abf5 : MethodName := ⟨RJ5, "length", "()I"⟩
abbrev cJ5_ensureCapacityInternal_d00df : ByteArray := prog_19_method_9_code
def yJ5_ensureCapacityInternal_d00df : MethodName := ⟨RJ5, "ensureCapacityInternal", "(I)V"⟩
abbrev cJ5_newCapacity_0f7a4 : ByteArray := prog_19_method_10_code
def yJ5_newCapacity_0f7a4 : MethodName := ⟨RJ5, "newCapacity", "(I)I"⟩
abbrev cJ5_inflate_da8c8 : ByteArray := prog_19_method_11_code
def yJ5_inflate_da8c8 : MethodName := ⟨RJ5, "inflate", "()V"⟩
abbrev cJ5_append_cf1ce : ByteArray := prog_19_method_22_code
def yJ5_append_cf1ce : MethodName := ⟨RJ5, "append", "(Ljava/lang/String;)Ljava/lang/AbstractStringBuilder;"⟩
abbrev cJ5_appendNull_278bc : ByteArray := prog_19_method_26_code
def yJ5_appendNull_278bc : MethodName := ⟨RJ5, "appendNull", "()Ljava/lang/AbstractStringBuilder;"⟩
abbrev cJ5_append_c97b9 : ByteArray := prog_19_method_32_code
def yJ5_append_c97b9 : MethodName := ⟨RJ5, "append", "(I)Ljava/lang/AbstractStringBuilder;"⟩
abbrev cJ5_getValue_6d5f1 : ByteArray := prog_19_method_64_code
def yJ5_getValue_6d5f1 : MethodName := ⟨RJ5, "getValue", "()[B"⟩
abbrev cJ5_isLatin1_aae02 : ByteArray := prog_19_method_68_code
def yJ5_isLatin1_aae02 : MethodName := ⟨RJ5, "isLatin1", "()Z"⟩
abbrev cJ5_inflateIfNeededFor_a7421 : ByteArray := prog_19_method_71_code
def yJ5_inflateIfNeededFor_a7421 : MethodName := ⟨RJ5, "inflateIfNeededFor", "(Ljava/lang/String;)V"⟩
abbrev cJ5_putStringAt_47b60 : ByteArray := prog_19_method_73_code
def yJ5_putStringAt_47b60 : MethodName := ⟨RJ5, "putStringAt", "(ILjava/lang/String;)V"⟩
def RJx2cfe8 : String := "java/lang/Appendable"
def TJx2cfe8 : u_T := fun k => match k with
  | _ => ("", "", "", false)
def tyJx2cfe8 : Nat → FieldType := fun k => match k with
  | _ => .int
abbrev wsJx2cfe80 : List Cond := u_ws RJx2cfe8 TJx2cfe8 0
theorem nmJx2cfe8 : ∀ a, a < 0 → ∀ b, b < 0 → a ≠ b → (TJx2cfe8 a).2.1 ≠ (TJx2cfe8 b).2.1 := by decide +kernel
theorem tyJx2cfe8_ok : ∀ k, k < 0 → parseFieldDescriptor (TJx2cfe8 k).2.2.1 = some (tyJx2cfe8 k) := by decide +kernel
def RJx00060 : String := "java/lang/ArrayIndexOutOfBoundsException"
def TJx00060 : u_T := fun k => match k with
  | 0 => ("java/lang/Throwable", "backtrace", "Ljava/lang/Object;", false)
  | 1 => ("java/lang/Throwable", "detailMessage", "Ljava/lang/String;", false)
  | 2 => ("java/lang/Throwable", "cause", "Ljava/lang/Throwable;", false)
  | 3 => ("java/lang/Throwable", "stackTrace", "[Ljava/lang/StackTraceElement;", false)
  | 4 => ("java/lang/Throwable", "depth", "I", false)
  | _ => ("java/lang/Throwable", "suppressedExceptions", "Ljava/util/List;", false)
def tyJx00060 : Nat → FieldType := fun k => match k with
  | 0 => .object "java/lang/Object"
  | 1 => .object "java/lang/String"
  | 2 => .object "java/lang/Throwable"
  | 3 => .array (.object "java/lang/StackTraceElement")
  | 4 => .int
  | _ => .object "java/util/List"
abbrev wsJx000600 : List Cond := u_ws RJx00060 TJx00060 6
theorem nmJx00060 : ∀ a, a < 6 → ∀ b, b < 6 → a ≠ b → (TJx00060 a).2.1 ≠ (TJx00060 b).2.1 := by decide +kernel
theorem tyJx00060_ok : ∀ k, k < 6 → parseFieldDescriptor (TJx00060 k).2.2.1 = some (tyJx00060 k) := by decide +kernel
abbrev cJx00060_init_a7421 : ByteArray := prog_21_method_2_code
def yJx00060_init_a7421 : MethodName := ⟨RJx00060, "<init>", "(Ljava/lang/String;)V"⟩
def RJx9f9b0 : String := "java/lang/CharSequence"
def TJx9f9b0 : u_T := fun k => match k with
  | _ => ("", "", "", false)
def tyJx9f9b0 : Nat → FieldType := fun k => match k with
  | _ => .int
abbrev wsJx9f9b00 : List Cond := u_ws RJx9f9b0 TJx9f9b0 0
theorem nmJx9f9b0 : ∀ a, a < 0 → ∀ b, b < 0 → a ≠ b → (TJx9f9b0 a).2.1 ≠ (TJx9f9b0 b).2.1 := by decide +kernel
theorem tyJx9f9b0_ok : ∀ k, k < 0 → parseFieldDescriptor (TJx9f9b0 k).2.2.1 = some (tyJx9f9b0 k) := by decide +kernel
def RJ11 : String := "java/lang/Character"
def TJ11 : u_T := fun k => match k with
  | _ => ("", "", "", false)
def tyJ11 : Nat → FieldType := fun k => match k with
  | _ => .int
abbrev wsJ110 : List Cond := u_ws RJ11 TJ11 0
theorem nmJ11 : ∀ a, a < 0 → ∀ b, b < 0 → a ≠ b → (TJ11 a).2.1 ≠ (TJ11 b).2.1 := by decide +kernel
theorem tyJ11_ok : ∀ k, k < 0 → parseFieldDescriptor (TJ11 k).2.2.1 = some (tyJ11 k) := by decide +kernel
abbrev cJ11_isValidCodePoint_9a6ad : ByteArray := prog_23_method_11_code
def yJ11_isValidCodePoint_9a6ad : MethodName := ⟨RJ11, "isValidCodePoint", "(I)Z"⟩
abbrev cJ11_highSurrogate_5068e : ByteArray := prog_23_method_28_code
def yJ11_highSurrogate_5068e : MethodName := ⟨RJ11, "highSurrogate", "(I)C"⟩
abbrev cJ11_lowSurrogate_5068e : ByteArray := prog_23_method_29_code
def yJ11_lowSurrogate_5068e : MethodName := ⟨RJ11, "lowSurrogate", "(I)C"⟩
abbrev cJ11_digit_89a06 : ByteArray := prog_23_method_79_code
def yJ11_digit_89a06 : MethodName := ⟨RJ11, "digit", "(CI)I"⟩
abbrev cJ11_digit_7cf53 : ByteArray := prog_23_method_80_code
def yJ11_digit_7cf53 : MethodName := ⟨RJ11, "digit", "(II)I"⟩
def RJxdca23 : String := "java/lang/CharacterData"
def TJxdca23 : u_T := fun k => match k with
  | _ => ("", "", "", false)
def tyJxdca23 : Nat → FieldType := fun k => match k with
  | _ => .int
abbrev wsJxdca230 : List Cond := u_ws RJxdca23 TJxdca23 0
theorem nmJxdca23 : ∀ a, a < 0 → ∀ b, b < 0 → a ≠ b → (TJxdca23 a).2.1 ≠ (TJxdca23 b).2.1 := by decide +kernel
theorem tyJxdca23_ok : ∀ k, k < 0 → parseFieldDescriptor (TJxdca23 k).2.2.1 = some (tyJxdca23 k) := by decide +kernel
abbrev cJxdca23_of_064ba : ByteArray := prog_24_method_30_code
def yJxdca23_of_064ba : MethodName := ⟨RJxdca23, "of", "(I)Ljava/lang/CharacterData;"⟩
def RJ12 : String := "java/lang/CharacterDataLatin1"
def TJ12 : u_T := fun k => match k with
  | _ => ("", "", "", false)
def tyJ12 : Nat → FieldType := fun k => match k with
  | _ => .int
abbrev wsJ120 : List Cond := u_ws RJ12 TJ12 0
theorem nmJ12 : ∀ a, a < 0 → ∀ b, b < 0 → a ≠ b → (TJ12 a).2.1 ≠ (TJ12 b).2.1 := by decide +kernel
theorem tyJ12_ok : ∀ k, k < 0 → parseFieldDescriptor (TJ12 k).2.2.1 = some (tyJ12 k) := by decide +kernel
abbrev cJ12_digit_7cf53 : ByteArray := prog_25_method_24_code
def yJ12_digit_7cf53 : MethodName := ⟨RJ12, "digit", "(II)I"⟩
def RJx8e188 : String := "java/lang/Cloneable"
def TJx8e188 : u_T := fun k => match k with
  | _ => ("", "", "", false)
def tyJx8e188 : Nat → FieldType := fun k => match k with
  | _ => .int
abbrev wsJx8e1880 : List Cond := u_ws RJx8e188 TJx8e188 0
theorem nmJx8e188 : ∀ a, a < 0 → ∀ b, b < 0 → a ≠ b → (TJx8e188 a).2.1 ≠ (TJx8e188 b).2.1 := by decide +kernel
theorem tyJx8e188_ok : ∀ k, k < 0 → parseFieldDescriptor (TJx8e188 k).2.2.1 = some (tyJx8e188 k) := by decide +kernel
def RJxb160c : String := "java/lang/Comparable"
def TJxb160c : u_T := fun k => match k with
  | _ => ("", "", "", false)
def tyJxb160c : Nat → FieldType := fun k => match k with
  | _ => .int
abbrev wsJxb160c0 : List Cond := u_ws RJxb160c TJxb160c 0
theorem nmJxb160c : ∀ a, a < 0 → ∀ b, b < 0 → a ≠ b → (TJxb160c a).2.1 ≠ (TJxb160c b).2.1 := by decide +kernel
theorem tyJxb160c_ok : ∀ k, k < 0 → parseFieldDescriptor (TJxb160c k).2.2.1 = some (tyJxb160c k) := by decide +kernel
def RJ6 : String := "java/lang/Integer"
def TJ6 : u_T := fun k => match k with
  | _ => ("", "", "", false)
def tyJ6 : Nat → FieldType := fun k => match k with
  | _ => .int
abbrev wsJ60 : List Cond := u_ws RJ6 TJ6 0
theorem nmJ6 : ∀ a, a < 0 → ∀ b, b < 0 → a ≠ b → (TJ6 a).2.1 ≠ (TJ6 b).2.1 := by decide +kernel
theorem tyJ6_ok : ∀ k, k < 0 → parseFieldDescriptor (TJ6 k).2.2.1 = some (tyJ6 k) := by decide +kernel
abbrev cJ6_getChars_ba4f3 : ByteArray := prog_32_method_12_code
def yJ6_getChars_ba4f3 : MethodName := ⟨RJ6, "getChars", "(II[B)I"⟩
abbrev cJ6_stringSize_0f7a4 : ByteArray := prog_32_method_13_code
def yJ6_stringSize_0f7a4 : MethodName := ⟨RJ6, "stringSize", "(I)I"⟩
abbrev cJ6_parseInt_ccf00 : ByteArray := prog_32_method_14_code
def yJ6_parseInt_ccf00 : MethodName := ⟨RJ6, "parseInt", "(Ljava/lang/String;I)I"⟩
abbrev cJ6_parseInt_2f485 : ByteArray := prog_32_method_16_code
def yJ6_parseInt_2f485 : MethodName := ⟨RJ6, "parseInt", "(Ljava/lang/String;)I"⟩
def RJxab1ab : String := "java/lang/Iterable"
def TJxab1ab : u_T := fun k => match k with
  | _ => ("", "", "", false)
def tyJxab1ab : Nat → FieldType := fun k => match k with
  | _ => .int
abbrev wsJxab1ab0 : List Cond := u_ws RJxab1ab TJxab1ab 0
theorem nmJxab1ab : ∀ a, a < 0 → ∀ b, b < 0 → a ≠ b → (TJxab1ab a).2.1 ≠ (TJxab1ab b).2.1 := by decide +kernel
theorem tyJxab1ab_ok : ∀ k, k < 0 → parseFieldDescriptor (TJxab1ab k).2.2.1 = some (tyJxab1ab k) := by decide +kernel
def RJ9 : String := "java/lang/Math"
def TJ9 : u_T := fun k => match k with
  | _ => ("", "", "", false)
def tyJ9 : Nat → FieldType := fun k => match k with
  | _ => .int
abbrev wsJ90 : List Cond := u_ws RJ9 TJ9 0
theorem nmJ9 : ∀ a, a < 0 → ∀ b, b < 0 → a ≠ b → (TJ9 a).2.1 ≠ (TJ9 b).2.1 := by decide +kernel
theorem tyJ9_ok : ∀ k, k < 0 → parseFieldDescriptor (TJ9 k).2.2.1 = some (tyJ9 k) := by decide +kernel
abbrev cJ9_max_7cf53 : ByteArray := prog_34_method_65_code
def yJ9_max_7cf53 : MethodName := ⟨RJ9, "max", "(II)I"⟩
abbrev cJ9_min_7cf53 : ByteArray := prog_34_method_69_code
def yJ9_min_7cf53 : MethodName := ⟨RJ9, "min", "(II)I"⟩
def RJxd2413 : String := "java/lang/Number"
def TJxd2413 : u_T := fun k => match k with
  | _ => ("", "", "", false)
def tyJxd2413 : Nat → FieldType := fun k => match k with
  | _ => .int
abbrev wsJxd24130 : List Cond := u_ws RJxd2413 TJxd2413 0
theorem nmJxd2413 : ∀ a, a < 0 → ∀ b, b < 0 → a ≠ b → (TJxd2413 a).2.1 ≠ (TJxd2413 b).2.1 := by decide +kernel
theorem tyJxd2413_ok : ∀ k, k < 0 → parseFieldDescriptor (TJxd2413 k).2.2.1 = some (tyJxd2413 k) := by decide +kernel
def RJxe14f1 : String := "java/lang/NumberFormatException"
def TJxe14f1 : u_T := fun k => match k with
  | 0 => ("java/lang/Throwable", "backtrace", "Ljava/lang/Object;", false)
  | 1 => ("java/lang/Throwable", "detailMessage", "Ljava/lang/String;", false)
  | 2 => ("java/lang/Throwable", "cause", "Ljava/lang/Throwable;", false)
  | 3 => ("java/lang/Throwable", "stackTrace", "[Ljava/lang/StackTraceElement;", false)
  | 4 => ("java/lang/Throwable", "depth", "I", false)
  | _ => ("java/lang/Throwable", "suppressedExceptions", "Ljava/util/List;", false)
def tyJxe14f1 : Nat → FieldType := fun k => match k with
  | 0 => .object "java/lang/Object"
  | 1 => .object "java/lang/String"
  | 2 => .object "java/lang/Throwable"
  | 3 => .array (.object "java/lang/StackTraceElement")
  | 4 => .int
  | _ => .object "java/util/List"
abbrev wsJxe14f10 : List Cond := u_ws RJxe14f1 TJxe14f1 6
theorem nmJxe14f1 : ∀ a, a < 6 → ∀ b, b < 6 → a ≠ b → (TJxe14f1 a).2.1 ≠ (TJxe14f1 b).2.1 := by decide +kernel
theorem tyJxe14f1_ok : ∀ k, k < 6 → parseFieldDescriptor (TJxe14f1 k).2.2.1 = some (tyJxe14f1 k) := by decide +kernel
abbrev cJxe14f1_init_a7421 : ByteArray := prog_36_method_2_code
def yJxe14f1_init_a7421 : MethodName := ⟨RJxe14f1, "<init>", "(Ljava/lang/String;)V"⟩
abbrev cJxe14f1_forInputString_398dd : ByteArray := prog_36_method_3_code
def yJxe14f1_forInputString_398dd : MethodName := ⟨RJxe14f1, "forInputString", "(Ljava/lang/String;I)Ljava/lang/NumberFormatException;"⟩
def RJ0 : String := "java/lang/String"
def TJ0 : u_T := fun k => match k with
  | 0 => ("java/lang/String", "value", "[B", true)
  | 1 => ("java/lang/String", "coder", "B", true)
  | 2 => ("java/lang/String", "hash", "I", false)
  | _ => ("java/lang/String", "hashIsZero", "Z", false)
def tyJ0 : Nat → FieldType := fun k => match k with
  | 0 => .array .byte
  | 1 => .byte
  | 2 => .int
  | _ => .boolean
abbrev wsJ00 : List Cond := u_ws RJ0 TJ0 4
theorem nmJ0 : ∀ a, a < 4 → ∀ b, b < 4 → a ≠ b → (TJ0 a).2.1 ≠ (TJ0 b).2.1 := by decide +kernel
theorem tyJ0_ok : ∀ k, k < 4 → parseFieldDescriptor (TJ0 k).2.2.1 = some (tyJ0 k) := by decide +kernel
abbrev cJ0_init_81219 : ByteArray := prog_38_method_53_code
def yJ0_init_81219 : MethodName := ⟨RJ0, "<init>", "(Ljava/lang/StringBuilder;)V"⟩
abbrev cJ0_length_8abf5 : ByteArray := prog_38_method_54_code
def yJ0_length_8abf5 : MethodName := ⟨RJ0, "length", "()I"⟩
abbrev cJ0_isEmpty_aae02 : ByteArray := prog_38_method_55_code
def yJ0_isEmpty_aae02 : MethodName := ⟨RJ0, "isEmpty", "()Z"⟩
abbrev cJ0_charAt_5068e : ByteArray := prog_38_method_56_code
def yJ0_charAt_5068e : MethodName := ⟨RJ0, "charAt", "(I)C"⟩
abbrev cJ0_indexOf_0f7a4 : ByteArray := prog_38_method_79_code
def yJ0_indexOf_0f7a4 : MethodName := ⟨RJ0, "indexOf", "(I)I"⟩
abbrev cJ0_indexOf_7cf53 : ByteArray := prog_38_method_80_code
def yJ0_indexOf_7cf53 : MethodName := ⟨RJ0, "indexOf", "(II)I"⟩
abbrev cJ0_substring_b52d3 : ByteArray := prog_38_method_91_code
def yJ0_substring_b52d3 : MethodName := ⟨RJ0, "substring", "(I)Ljava/lang/String;"⟩
abbrev cJ0_substring_37a41 : ByteArray := prog_38_method_92_code
def yJ0_substring_37a41 : MethodName := ⟨RJ0, "substring", "(II)Ljava/lang/String;"⟩
abbrev cJ0_split_1b221 : ByteArray := prog_38_method_103_code
def yJ0_split_1b221 : MethodName := ⟨RJ0, "split", "(Ljava/lang/String;IZ)[Ljava/lang/String;"⟩
abbrev cJ0_split_f8566 : ByteArray := prog_38_method_104_code
def yJ0_split_f8566 : MethodName := ⟨RJ0, "split", "(CIZ)[Ljava/lang/String;"⟩
abbrev cJ0_split_19a83 : ByteArray := prog_38_method_105_code
def yJ0_split_19a83 : MethodName := ⟨RJ0, "split", "(Ljava/lang/String;)[Ljava/lang/String;"⟩
abbrev cJ0_valueOf_756af : ByteArray := prog_38_method_139_code
def yJ0_valueOf_756af : MethodName := ⟨RJ0, "valueOf", "(C)Ljava/lang/String;"⟩
abbrev cJ0_getBytes_840e7 : ByteArray := prog_38_method_147_code
def yJ0_getBytes_840e7 : MethodName := ⟨RJ0, "getBytes", "([BIB)V"⟩
abbrev cJ0_init_db425 : ByteArray := prog_38_method_150_code
def yJ0_init_db425 : MethodName := ⟨RJ0, "<init>", "(Ljava/lang/AbstractStringBuilder;Ljava/lang/Void;)V"⟩
abbrev cJ0_init_031fb : ByteArray := prog_38_method_151_code
def yJ0_init_031fb : MethodName := ⟨RJ0, "<init>", "([BB)V"⟩
abbrev cJ0_coder_7d493 : ByteArray := prog_38_method_152_code
def yJ0_coder_7d493 : MethodName := ⟨RJ0, "coder", "()B"⟩
abbrev cJ0_isLatin1_aae02 : ByteArray := prog_38_method_154_code
def yJ0_isLatin1_aae02 : MethodName := ⟨RJ0, "isLatin1", "()Z"⟩
abbrev cJ0_checkIndex_df160 : ByteArray := prog_38_method_155_code
def yJ0_checkIndex_df160 : MethodName := ⟨RJ0, "checkIndex", "(II)V"⟩
abbrev cJ0_checkBoundsOffCount_cabcc : ByteArray := prog_38_method_157_code
def yJ0_checkBoundsOffCount_cabcc : MethodName := ⟨RJ0, "checkBoundsOffCount", "(III)I"⟩
abbrev cJ0_checkBoundsBeginEnd_23922 : ByteArray := prog_38_method_158_code
def yJ0_checkBoundsBeginEnd_23922 : MethodName := ⟨RJ0, "checkBoundsBeginEnd", "(III)V"⟩
def RJ4 : String := "java/lang/StringBuilder"
def TJ4 : u_T := fun k => match k with
  | 0 => ("java/lang/AbstractStringBuilder", "value", "[B", false)
  | 1 => ("java/lang/AbstractStringBuilder", "coder", "B", false)
  | 2 => ("java/lang/AbstractStringBuilder", "maybeLatin1", "Z", false)
  | _ => ("java/lang/AbstractStringBuilder", "count", "I", false)
def tyJ4 : Nat → FieldType := fun k => match k with
  | 0 => .array .byte
  | 1 => .byte
  | 2 => .boolean
  | _ => .int
abbrev wsJ40 : List Cond := u_ws RJ4 TJ4 4
theorem nmJ4 : ∀ a, a < 4 → ∀ b, b < 4 → a ≠ b → (TJ4 a).2.1 ≠ (TJ4 b).2.1 := by decide +kernel
theorem tyJ4_ok : ∀ k, k < 4 → parseFieldDescriptor (TJ4 k).2.2.1 = some (tyJ4 k) := by decide +kernel
abbrev cJ4_init_da8c8 : ByteArray := prog_39_method_1_code
def yJ4_init_da8c8 : MethodName := ⟨RJ4, "<init>", "()V"⟩
abbrev cJ4_append_15ec4 : ByteArray := prog_39_method_7_code
def yJ4_append_15ec4 : MethodName := ⟨RJ4, "append", "(Ljava/lang/String;)Ljava/lang/StringBuilder;"⟩
abbrev cJ4_append_bf812 : ByteArray := prog_39_method_15_code
def yJ4_append_bf812 : MethodName := ⟨RJ4, "append", "(I)Ljava/lang/StringBuilder;"⟩
abbrev cJ4_toString_0e30d : ByteArray := prog_39_method_42_code
def yJ4_toString_0e30d : MethodName := ⟨RJ4, "toString", "()Ljava/lang/String;"⟩
abbrev cJ4_length_8abf5 : ByteArray := prog_39_method_93_code
def yJ4_length_8abf5 : MethodName := ⟨RJ4, "length", "()I"⟩
def RJ1 : String := "java/lang/StringLatin1"
def TJ1 : u_T := fun k => match k with
  | _ => ("", "", "", false)
def tyJ1 : Nat → FieldType := fun k => match k with
  | _ => .int
abbrev wsJ10 : List Cond := u_ws RJ1 TJ1 0
theorem nmJ1 : ∀ a, a < 0 → ∀ b, b < 0 → a ≠ b → (TJ1 a).2.1 ≠ (TJ1 b).2.1 := by decide +kernel
theorem tyJ1_ok : ∀ k, k < 0 → parseFieldDescriptor (TJ1 k).2.2.1 = some (tyJ1 k) := by decide +kernel
abbrev cJ1_charAt_3b067 : ByteArray := prog_40_method_2_code
def yJ1_charAt_3b067 : MethodName := ⟨RJ1, "charAt", "([BI)C"⟩
abbrev cJ1_canEncode_fc78d : ByteArray := prog_40_method_3_code
def yJ1_canEncode_fc78d : MethodName := ⟨RJ1, "canEncode", "(C)Z"⟩
abbrev cJ1_canEncode_9a6ad : ByteArray := prog_40_method_4_code
def yJ1_canEncode_9a6ad : MethodName := ⟨RJ1, "canEncode", "(I)Z"⟩
abbrev cJ1_indexOf_4cfef : ByteArray := prog_40_method_22_code
def yJ1_indexOf_4cfef : MethodName := ⟨RJ1, "indexOf", "([BIII)I"⟩
abbrev cJ1_indexOfChar_4cfef : ByteArray := prog_40_method_23_code
def yJ1_indexOfChar_4cfef : MethodName := ⟨RJ1, "indexOfChar", "([BIII)I"⟩
abbrev cJ1_toBytes_a14e5 : ByteArray := prog_40_method_46_code
def yJ1_toBytes_a14e5 : MethodName := ⟨RJ1, "toBytes", "(C)[B"⟩
abbrev cJ1_newString_b4f7a : ByteArray := prog_40_method_47_code
def yJ1_newString_b4f7a : MethodName := ⟨RJ1, "newString", "([BII)Ljava/lang/String;"⟩
abbrev cJ1_inflate_0e8fd : ByteArray := prog_40_method_50_code
def yJ1_inflate_0e8fd : MethodName := ⟨RJ1, "inflate", "([BI[BII)V"⟩
def RJ2 : String := "java/lang/StringUTF16"
def TJ2 : u_T := fun k => match k with
  | _ => ("", "", "", false)
def tyJ2 : Nat → FieldType := fun k => match k with
  | _ => .int
abbrev wsJ20 : List Cond := u_ws RJ2 TJ2 0
theorem nmJ2 : ∀ a, a < 0 → ∀ b, b < 0 → a ≠ b → (TJ2 a).2.1 ≠ (TJ2 b).2.1 := by decide +kernel
theorem tyJ2_ok : ∀ k, k < 0 → parseFieldDescriptor (TJ2 k).2.2.1 = some (tyJ2 k) := by decide +kernel
abbrev cJ2_newBytesFor_77867 : ByteArray := prog_41_method_2_code
def yJ2_newBytesFor_77867 : MethodName := ⟨RJ2, "newBytesFor", "(I)[B"⟩
abbrev cJ2_newBytesLength_0f7a4 : ByteArray := prog_41_method_3_code
def yJ2_newBytesLength_0f7a4 : MethodName := ⟨RJ2, "newBytesLength", "(I)I"⟩
abbrev cJ2_putChar_b72d1 : ByteArray := prog_41_method_4_code
def yJ2_putChar_b72d1 : MethodName := ⟨RJ2, "putChar", "([BII)V"⟩
abbrev cJ2_getChar_3b067 : ByteArray := prog_41_method_5_code
def yJ2_getChar_3b067 : MethodName := ⟨RJ2, "getChar", "([BI)C"⟩
abbrev cJ2_length_9d52b : ByteArray := prog_41_method_6_code
def yJ2_length_9d52b : MethodName := ⟨RJ2, "length", "([B)I"⟩
abbrev cJ2_coderFromArrayLen_85cad : ByteArray := prog_41_method_15_code
def yJ2_coderFromArrayLen_85cad : MethodName := ⟨RJ2, "coderFromArrayLen", "([BI)B"⟩
abbrev cJ2_compress_39247 : ByteArray := prog_41_method_17_code
def yJ2_compress_39247 : MethodName := ⟨RJ2, "compress", "([BII)[B"⟩
abbrev cJ2_compress_5af95 : ByteArray := prog_41_method_22_code
def yJ2_compress_5af95 : MethodName := ⟨RJ2, "compress", "([BI[BII)I"⟩
abbrev cJ2_toBytes_a14e5 : ByteArray := prog_41_method_24_code
def yJ2_toBytes_a14e5 : MethodName := ⟨RJ2, "toBytes", "(C)[B"⟩
abbrev cJ2_indexOf_4cfef : ByteArray := prog_41_method_40_code
def yJ2_indexOf_4cfef : MethodName := ⟨RJ2, "indexOf", "([BIII)I"⟩
abbrev cJ2_indexOfChar_4cfef : ByteArray := prog_41_method_47_code
def yJ2_indexOfChar_4cfef : MethodName := ⟨RJ2, "indexOfChar", "([BIII)I"⟩
abbrev cJ2_indexOfCharUnsafe_4cfef : ByteArray := prog_41_method_48_code
def yJ2_indexOfCharUnsafe_4cfef : MethodName := ⟨RJ2, "indexOfCharUnsafe", "([BIII)I"⟩
abbrev cJ2_indexOfSupplementary_4cfef : ByteArray := prog_41_method_49_code
def yJ2_indexOfSupplementary_4cfef : MethodName := ⟨RJ2, "indexOfSupplementary", "([BIII)I"⟩
abbrev cJ2_newString_b4f7a : ByteArray := prog_41_method_69_code
def yJ2_newString_b4f7a : MethodName := ⟨RJ2, "newString", "([BII)Ljava/lang/String;"⟩
abbrev cJ2_getChars_46870 : ByteArray := prog_41_method_77_code
def yJ2_getChars_46870 : MethodName := ⟨RJ2, "getChars", "(III[B)I"⟩
abbrev cJ2_putCharsAt_cd4e5 : ByteArray := prog_41_method_81_code
def yJ2_putCharsAt_cd4e5 : MethodName := ⟨RJ2, "putCharsAt", "([BICCCC)I"⟩
abbrev cJ2_charAt_3b067 : ByteArray := prog_41_method_83_code
def yJ2_charAt_3b067 : MethodName := ⟨RJ2, "charAt", "([BI)C"⟩
abbrev cJ2_inflate_0e8fd : ByteArray := prog_41_method_86_code
def yJ2_inflate_0e8fd : MethodName := ⟨RJ2, "inflate", "([BI[BII)V"⟩
abbrev cJ2_getChars_ba4f3 : ByteArray := prog_41_method_89_code
def yJ2_getChars_ba4f3 : MethodName := ⟨RJ2, "getChars", "(II[B)I"⟩
abbrev cJ2_checkIndex_2214a : ByteArray := prog_41_method_91_code
def yJ2_checkIndex_2214a : MethodName := ⟨RJ2, "checkIndex", "(I[B)V"⟩
abbrev cJ2_checkBoundsBeginEnd_d044e : ByteArray := prog_41_method_93_code
def yJ2_checkBoundsBeginEnd_d044e : MethodName := ⟨RJ2, "checkBoundsBeginEnd", "(II[B)V"⟩
abbrev cJ2_checkBoundsOffCount_d044e : ByteArray := prog_41_method_94_code
def yJ2_checkBoundsOffCount_d044e : MethodName := ⟨RJ2, "checkBoundsOffCount", "(II[B)V"⟩
def RJ10 : String := "java/lang/System"
def TJ10 : u_T := fun k => match k with
  | _ => ("", "", "", false)
def tyJ10 : Nat → FieldType := fun k => match k with
  | _ => .int
abbrev wsJ100 : List Cond := u_ws RJ10 TJ10 0
theorem nmJ10 : ∀ a, a < 0 → ∀ b, b < 0 → a ≠ b → (TJ10 a).2.1 ≠ (TJ10 b).2.1 := by decide +kernel
theorem tyJ10_ok : ∀ k, k < 0 → parseFieldDescriptor (TJ10 k).2.2.1 = some (tyJ10 k) := by decide +kernel
def RJxfd54e : String := "java/lang/constant/Constable"
def TJxfd54e : u_T := fun k => match k with
  | _ => ("", "", "", false)
def tyJxfd54e : Nat → FieldType := fun k => match k with
  | _ => .int
abbrev wsJxfd54e0 : List Cond := u_ws RJxfd54e TJxfd54e 0
theorem nmJxfd54e : ∀ a, a < 0 → ∀ b, b < 0 → a ≠ b → (TJxfd54e a).2.1 ≠ (TJxfd54e b).2.1 := by decide +kernel
theorem tyJxfd54e_ok : ∀ k, k < 0 → parseFieldDescriptor (TJxfd54e k).2.2.1 = some (tyJxfd54e k) := by decide +kernel
def RJx3cf43 : String := "java/lang/constant/ConstantDesc"
def TJx3cf43 : u_T := fun k => match k with
  | _ => ("", "", "", false)
def tyJx3cf43 : Nat → FieldType := fun k => match k with
  | _ => .int
abbrev wsJx3cf430 : List Cond := u_ws RJx3cf43 TJx3cf43 0
theorem nmJx3cf43 : ∀ a, a < 0 → ∀ b, b < 0 → a ≠ b → (TJx3cf43 a).2.1 ≠ (TJx3cf43 b).2.1 := by decide +kernel
theorem tyJx3cf43_ok : ∀ k, k < 0 → parseFieldDescriptor (TJx3cf43 k).2.2.1 = some (tyJx3cf43 k) := by decide +kernel
def RJxa1e45 : String := "java/util/AbstractCollection"
def TJxa1e45 : u_T := fun k => match k with
  | _ => ("", "", "", false)
def tyJxa1e45 : Nat → FieldType := fun k => match k with
  | _ => .int
abbrev wsJxa1e450 : List Cond := u_ws RJxa1e45 TJxa1e45 0
theorem nmJxa1e45 : ∀ a, a < 0 → ∀ b, b < 0 → a ≠ b → (TJxa1e45 a).2.1 ≠ (TJxa1e45 b).2.1 := by decide +kernel
theorem tyJxa1e45_ok : ∀ k, k < 0 → parseFieldDescriptor (TJxa1e45 k).2.2.1 = some (tyJxa1e45 k) := by decide +kernel
abbrev cJxa1e45_init_da8c8 : ByteArray := prog_47_method_1_code
def yJxa1e45_init_da8c8 : MethodName := ⟨RJxa1e45, "<init>", "()V"⟩
def RJxc12de : String := "java/util/AbstractList"
def TJxc12de : u_T := fun k => match k with
  | _ => ("", "", "", false)
def tyJxc12de : Nat → FieldType := fun k => match k with
  | _ => .int
abbrev wsJxc12de0 : List Cond := u_ws RJxc12de TJxc12de 0
theorem nmJxc12de : ∀ a, a < 0 → ∀ b, b < 0 → a ≠ b → (TJxc12de a).2.1 ≠ (TJxc12de b).2.1 := by decide +kernel
theorem tyJxc12de_ok : ∀ k, k < 0 → parseFieldDescriptor (TJxc12de k).2.2.1 = some (tyJxc12de k) := by decide +kernel
abbrev cJxc12de_init_da8c8 : ByteArray := prog_48_method_1_code
def yJxc12de_init_da8c8 : MethodName := ⟨RJxc12de, "<init>", "()V"⟩
abbrev cJxc12de_subListRangeCheck_23922 : ByteArray := prog_48_method_15_code
def yJxc12de_subListRangeCheck_23922 : MethodName := ⟨RJxc12de, "subListRangeCheck", "(III)V"⟩
def RJxc9f04 : String := "java/util/ArrayList$SubList"
def TJxc9f04 : u_T := fun k => match k with
  | 0 => ("java/util/AbstractList", "modCount", "I", false)
  | 1 => ("java/util/ArrayList$SubList", "root", "Ljava/util/ArrayList;", true)
  | 2 => ("java/util/ArrayList$SubList", "parent", "Ljava/util/ArrayList$SubList;", true)
  | 3 => ("java/util/ArrayList$SubList", "offset", "I", true)
  | _ => ("java/util/ArrayList$SubList", "size", "I", false)
def tyJxc9f04 : Nat → FieldType := fun k => match k with
  | 0 => .int
  | 1 => .object "java/util/ArrayList"
  | 2 => .object "java/util/ArrayList$SubList"
  | 3 => .int
  | _ => .int
abbrev wsJxc9f040 : List Cond := u_ws RJxc9f04 TJxc9f04 5
theorem nmJxc9f04 : ∀ a, a < 5 → ∀ b, b < 5 → a ≠ b → (TJxc9f04 a).2.1 ≠ (TJxc9f04 b).2.1 := by decide +kernel
theorem tyJxc9f04_ok : ∀ k, k < 5 → parseFieldDescriptor (TJxc9f04 k).2.2.1 = some (tyJxc9f04 k) := by decide +kernel
abbrev cJxc9f04_init_1a8f5 : ByteArray := prog_50_method_1_code
def yJxc9f04_init_1a8f5 : MethodName := ⟨RJxc9f04, "<init>", "(Ljava/util/ArrayList;II)V"⟩
abbrev cJxc9f04_toArray_0fdad : ByteArray := prog_50_method_17_code
def yJxc9f04_toArray_0fdad : MethodName := ⟨RJxc9f04, "toArray", "([Ljava/lang/Object;)[Ljava/lang/Object;"⟩
abbrev cJxc9f04_checkForComodification_da8c8 : ByteArray := prog_50_method_28_code
def yJxc9f04_checkForComodification_da8c8 : MethodName := ⟨RJxc9f04, "checkForComodification", "()V"⟩
def RJx4a65c : String := "java/util/ArrayList"
def TJx4a65c : u_T := fun k => match k with
  | 0 => ("java/util/AbstractList", "modCount", "I", false)
  | 1 => ("java/util/ArrayList", "elementData", "[Ljava/lang/Object;", false)
  | _ => ("java/util/ArrayList", "size", "I", false)
def tyJx4a65c : Nat → FieldType := fun k => match k with
  | 0 => .int
  | 1 => .array (.object "java/lang/Object")
  | _ => .int
abbrev wsJx4a65c0 : List Cond := u_ws RJx4a65c TJx4a65c 3
theorem nmJx4a65c : ∀ a, a < 3 → ∀ b, b < 3 → a ≠ b → (TJx4a65c a).2.1 ≠ (TJx4a65c b).2.1 := by decide +kernel
theorem tyJx4a65c_ok : ∀ k, k < 3 → parseFieldDescriptor (TJx4a65c k).2.2.1 = some (tyJx4a65c k) := by decide +kernel
abbrev cJx4a65c_init_da8c8 : ByteArray := prog_49_method_2_code
def yJx4a65c_init_da8c8 : MethodName := ⟨RJx4a65c, "<init>", "()V"⟩
abbrev cJx4a65c_grow_92f84 : ByteArray := prog_49_method_6_code
def yJx4a65c_grow_92f84 : MethodName := ⟨RJx4a65c, "grow", "(I)[Ljava/lang/Object;"⟩
abbrev cJx4a65c_grow_d5877 : ByteArray := prog_49_method_7_code
def yJx4a65c_grow_d5877 : MethodName := ⟨RJx4a65c, "grow", "()[Ljava/lang/Object;"⟩
abbrev cJx4a65c_size_8abf5 : ByteArray := prog_49_method_8_code
def yJx4a65c_size_8abf5 : MethodName := ⟨RJx4a65c, "size", "()I"⟩
abbrev cJx4a65c_toArray_0fdad : ByteArray := prog_49_method_17_code
def yJx4a65c_toArray_0fdad : MethodName := ⟨RJx4a65c, "toArray", "([Ljava/lang/Object;)[Ljava/lang/Object;"⟩
abbrev cJx4a65c_elementData_915e3 : ByteArray := prog_49_method_18_code
def yJx4a65c_elementData_915e3 : MethodName := ⟨RJx4a65c, "elementData", "(I)Ljava/lang/Object;"⟩
abbrev cJx4a65c_get_915e3 : ByteArray := prog_49_method_20_code
def yJx4a65c_get_915e3 : MethodName := ⟨RJx4a65c, "get", "(I)Ljava/lang/Object;"⟩
abbrev cJx4a65c_add_72be8 : ByteArray := prog_49_method_24_code
def yJx4a65c_add_72be8 : MethodName := ⟨RJx4a65c, "add", "(Ljava/lang/Object;[Ljava/lang/Object;I)V"⟩
abbrev cJx4a65c_add_9ea2d : ByteArray := prog_49_method_25_code
def yJx4a65c_add_9ea2d : MethodName := ⟨RJx4a65c, "add", "(Ljava/lang/Object;)Z"⟩
abbrev cJx4a65c_subList_8a2a7 : ByteArray := prog_49_method_56_code
def yJx4a65c_subList_8a2a7 : MethodName := ⟨RJx4a65c, "subList", "(II)Ljava/util/List;"⟩
def RJ7 : String := "java/util/Arrays"
def TJ7 : u_T := fun k => match k with
  | _ => ("", "", "", false)
def tyJ7 : Nat → FieldType := fun k => match k with
  | _ => .int
abbrev wsJ70 : List Cond := u_ws RJ7 TJ7 0
theorem nmJ7 : ∀ a, a < 0 → ∀ b, b < 0 → a ≠ b → (TJ7 a).2.1 ≠ (TJ7 b).2.1 := by decide +kernel
theorem tyJ7_ok : ∀ k, k < 0 → parseFieldDescriptor (TJ7 k).2.2.1 = some (tyJ7 k) := by decide +kernel
abbrev cJ7_fill_d0a16 : ByteArray := prog_51_method_101_code
def yJ7_fill_d0a16 : MethodName := ⟨RJ7, "fill", "([JJ)V"⟩
abbrev cJ7_fill_53178 : ByteArray := prog_51_method_103_code
def yJ7_fill_53178 : MethodName := ⟨RJ7, "fill", "([II)V"⟩
abbrev cJ7_copyOf_1904c : ByteArray := prog_51_method_119_code
def yJ7_copyOf_1904c : MethodName := ⟨RJ7, "copyOf", "([Ljava/lang/Object;I)[Ljava/lang/Object;"⟩
abbrev cJ7_copyOf_6403c : ByteArray := prog_51_method_120_code
def yJ7_copyOf_6403c : MethodName := ⟨RJ7, "copyOf", "([Ljava/lang/Object;ILjava/lang/Class;)[Ljava/lang/Object;"⟩
abbrev cJ7_copyOf_9075b : ByteArray := prog_51_method_121_code
def yJ7_copyOf_9075b : MethodName := ⟨RJ7, "copyOf", "([BI)[B"⟩
abbrev cJ7_copyOfRange_31eb6 : ByteArray := prog_51_method_130_code
def yJ7_copyOfRange_31eb6 : MethodName := ⟨RJ7, "copyOfRange", "([Ljava/lang/Object;IILjava/lang/Class;)[Ljava/lang/Object;"⟩
abbrev cJ7_checkLength_df160 : ByteArray := prog_51_method_131_code
def yJ7_checkLength_df160 : MethodName := ⟨RJ7, "checkLength", "(II)V"⟩
abbrev cJ7_copyOfRange_39247 : ByteArray := prog_51_method_132_code
def yJ7_copyOfRange_39247 : MethodName := ⟨RJ7, "copyOfRange", "([BII)[B"⟩
abbrev cJ7_copyOfRangeByte_39247 : ByteArray := prog_51_method_133_code
def yJ7_copyOfRangeByte_39247 : MethodName := ⟨RJ7, "copyOfRangeByte", "([BII)[B"⟩
def RJx5ef63 : String := "java/util/Collection"
def TJx5ef63 : u_T := fun k => match k with
  | _ => ("", "", "", false)
def tyJx5ef63 : Nat → FieldType := fun k => match k with
  | _ => .int
abbrev wsJx5ef630 : List Cond := u_ws RJx5ef63 TJx5ef63 0
theorem nmJx5ef63 : ∀ a, a < 0 → ∀ b, b < 0 → a ≠ b → (TJx5ef63 a).2.1 ≠ (TJx5ef63 b).2.1 := by decide +kernel
theorem tyJx5ef63_ok : ∀ k, k < 0 → parseFieldDescriptor (TJx5ef63 k).2.2.1 = some (tyJx5ef63 k) := by decide +kernel
def RJxbd725 : String := "java/util/List"
def TJxbd725 : u_T := fun k => match k with
  | _ => ("", "", "", false)
def tyJxbd725 : Nat → FieldType := fun k => match k with
  | _ => .int
abbrev wsJxbd7250 : List Cond := u_ws RJxbd725 TJxbd725 0
theorem nmJxbd725 : ∀ a, a < 0 → ∀ b, b < 0 → a ≠ b → (TJxbd725 a).2.1 ≠ (TJxbd725 b).2.1 := by decide +kernel
theorem tyJxbd725_ok : ∀ k, k < 0 → parseFieldDescriptor (TJxbd725 k).2.2.1 = some (tyJxbd725 k) := by decide +kernel
def RJ15 : String := "java/util/Objects"
def TJ15 : u_T := fun k => match k with
  | _ => ("", "", "", false)
def tyJ15 : Nat → FieldType := fun k => match k with
  | _ => .int
abbrev wsJ150 : List Cond := u_ws RJ15 TJ15 0
theorem nmJ15 : ∀ a, a < 0 → ∀ b, b < 0 → a ≠ b → (TJ15 a).2.1 ≠ (TJ15 b).2.1 := by decide +kernel
theorem tyJ15_ok : ∀ k, k < 0 → parseFieldDescriptor (TJ15 k).2.2.1 = some (tyJ15 k) := by decide +kernel
abbrev cJ15_checkIndex_7cf53 : ByteArray := prog_55_method_17_code
def yJ15_checkIndex_7cf53 : MethodName := ⟨RJ15, "checkIndex", "(II)I"⟩
def RJxf0a74 : String := "java/util/RandomAccess"
def TJxf0a74 : u_T := fun k => match k with
  | _ => ("", "", "", false)
def tyJxf0a74 : Nat → FieldType := fun k => match k with
  | _ => .int
abbrev wsJxf0a740 : List Cond := u_ws RJxf0a74 TJxf0a74 0
theorem nmJxf0a74 : ∀ a, a < 0 → ∀ b, b < 0 → a ≠ b → (TJxf0a74 a).2.1 ≠ (TJxf0a74 b).2.1 := by decide +kernel
theorem tyJxf0a74_ok : ∀ k, k < 0 → parseFieldDescriptor (TJxf0a74 k).2.2.1 = some (tyJxf0a74 k) := by decide +kernel
def RJxa66e6 : String := "java/util/SequencedCollection"
def TJxa66e6 : u_T := fun k => match k with
  | _ => ("", "", "", false)
def tyJxa66e6 : Nat → FieldType := fun k => match k with
  | _ => .int
abbrev wsJxa66e60 : List Cond := u_ws RJxa66e6 TJxa66e6 0
theorem nmJxa66e6 : ∀ a, a < 0 → ∀ b, b < 0 → a ≠ b → (TJxa66e6 a).2.1 ≠ (TJxa66e6 b).2.1 := by decide +kernel
theorem tyJxa66e6_ok : ∀ k, k < 0 → parseFieldDescriptor (TJxa66e6 k).2.2.1 = some (tyJxa66e6 k) := by decide +kernel
def RJ8 : String := "jdk/internal/util/ArraysSupport"
def TJ8 : u_T := fun k => match k with
  | _ => ("", "", "", false)
def tyJ8 : Nat → FieldType := fun k => match k with
  | _ => .int
abbrev wsJ80 : List Cond := u_ws RJ8 TJ8 0
theorem nmJ8 : ∀ a, a < 0 → ∀ b, b < 0 → a ≠ b → (TJ8 a).2.1 ≠ (TJ8 b).2.1 := by decide +kernel
theorem tyJ8_ok : ∀ k, k < 0 → parseFieldDescriptor (TJ8 k).2.2.1 = some (tyJ8 k) := by decide +kernel
abbrev cJ8_newLength_cabcc : ByteArray := prog_58_method_27_code
def yJ8_newLength_cabcc : MethodName := ⟨RJ8, "newLength", "(III)I"⟩
abbrev cJ8_hugeLength_7cf53 : ByteArray := prog_58_method_28_code
def yJ8_hugeLength_7cf53 : MethodName := ⟨RJ8, "hugeLength", "(II)I"⟩
def RJ3 : String := "jdk/internal/util/Preconditions"
def TJ3 : u_T := fun k => match k with
  | _ => ("", "", "", false)
def tyJ3 : Nat → FieldType := fun k => match k with
  | _ => .int
abbrev wsJ30 : List Cond := u_ws RJ3 TJ3 0
theorem nmJ3 : ∀ a, a < 0 → ∀ b, b < 0 → a ≠ b → (TJ3 a).2.1 ≠ (TJ3 b).2.1 := by decide +kernel
theorem tyJ3_ok : ∀ k, k < 0 → parseFieldDescriptor (TJ3 k).2.2.1 = some (tyJ3 k) := by decide +kernel
abbrev cJ3_checkIndex_8e157 : ByteArray := prog_59_method_11_code
def yJ3_checkIndex_8e157 : MethodName := ⟨RJ3, "checkIndex", "(IILjava/util/function/BiFunction;)I"⟩
abbrev cJ3_checkFromToIndex_8c36e : ByteArray := prog_59_method_12_code
def yJ3_checkFromToIndex_8c36e : MethodName := ⟨RJ3, "checkFromToIndex", "(IIILjava/util/function/BiFunction;)I"⟩
abbrev cJ3_checkFromIndexSize_8c36e : ByteArray := prog_59_method_13_code
def yJ3_checkFromIndexSize_8c36e : MethodName := ⟨RJ3, "checkFromIndexSize", "(IIILjava/util/function/BiFunction;)I"⟩
def RL : String := "SendhouseLaw"
abbrev cL_cell : ByteArray := method_2_code
def yL_cell : MethodName := ⟨RL, "cell", "([II)I"⟩
abbrev cL_chosen : ByteArray := method_3_code
def yL_chosen : MethodName := ⟨RL, "chosen", "(II)I"⟩
abbrev cL_add : ByteArray := method_4_code
def yL_add : MethodName := ⟨RL, "add", "(LSendhouse;II)J"⟩
abbrev cL_row : ByteArray := method_6_code
def yL_row : MethodName := ⟨RL, "row", "(LSendhouse;CII)J"⟩
abbrev cL_wipe : ByteArray := method_7_code
def yL_wipe : MethodName := ⟨RL, "wipe", "(LSendhouse;)J"⟩
abbrev cL_method : ByteArray := method_8_code
def yL_method : MethodName := ⟨RL, "method", "(LSendhouse;IIII)J"⟩
abbrev cL_remove : ByteArray := method_9_code
def yL_remove : MethodName := ⟨RL, "remove", "(LSendhouse;II)J"⟩
abbrev cL_compile : ByteArray := method_11_code
def yL_compile : MethodName := ⟨RL, "compile", "(LSendhouse;II)J"⟩
abbrev cL_hot : ByteArray := method_12_code
def yL_hot : MethodName := ⟨RL, "hot", "(LSendhouse;I)J"⟩
abbrev cL_number : ByteArray := method_13_code
def yL_number : MethodName := ⟨RL, "number", "(LSendhouse;II)J"⟩
abbrev cL_nothing : ByteArray := method_14_code
def yL_nothing : MethodName := ⟨RL, "nothing", "(LSendhouse;I)J"⟩
abbrev cL_make : ByteArray := method_15_code
def yL_make : MethodName := ⟨RL, "make", "(LSendhouse;II)J"⟩
abbrev cL_kind : ByteArray := method_16_code
def yL_kind : MethodName := ⟨RL, "kind", "(LSendhouse;I)J"⟩
abbrev cL_value : ByteArray := method_17_code
def yL_value : MethodName := ⟨RL, "value", "(LSendhouse;I)J"⟩
abbrev cL_fieldKind : ByteArray := method_18_code
def yL_fieldKind : MethodName := ⟨RL, "fieldKind", "(LSendhouse;II)J"⟩
abbrev cL_fieldValue : ByteArray := method_19_code
def yL_fieldValue : MethodName := ⟨RL, "fieldValue", "(LSendhouse;II)J"⟩
abbrev cL_things : ByteArray := method_20_code
def yL_things : MethodName := ⟨RL, "things", "(LSendhouse;)J"⟩
abbrev cL_collect : ByteArray := method_21_code
def yL_collect : MethodName := ⟨RL, "collect", "(LSendhouse;)J"⟩
abbrev cL_begin : ByteArray := method_22_code
def yL_begin : MethodName := ⟨RL, "begin", "(LSendhouse;IIIII)J"⟩
abbrev cL_go : ByteArray := method_23_code
def yL_go : MethodName := ⟨RL, "go", "(LSendhouse;I)J"⟩
abbrev cL_end : ByteArray := method_24_code
def yL_end : MethodName := ⟨RL, "end", "(LSendhouse;)J"⟩
abbrev cL_state : ByteArray := method_25_code
def yL_state : MethodName := ⟨RL, "state", "(LSendhouse;)J"⟩
abbrev cL_reason : ByteArray := method_26_code
def yL_reason : MethodName := ⟨RL, "reason", "(LSendhouse;)J"⟩
abbrev cL_answerKind : ByteArray := method_27_code
def yL_answerKind : MethodName := ⟨RL, "answerKind", "(LSendhouse;)J"⟩
abbrev cL_answer : ByteArray := method_28_code
def yL_answer : MethodName := ⟨RL, "answer", "(LSendhouse;)J"⟩
abbrev cL_frames : ByteArray := method_30_code
def yL_frames : MethodName := ⟨RL, "frames", "(LSendhouse;)J"⟩
abbrev cL_slotKind : ByteArray := method_32_code
def yL_slotKind : MethodName := ⟨RL, "slotKind", "(LSendhouse;ICI)J"⟩
abbrev cL_slot : ByteArray := method_33_code
def yL_slot : MethodName := ⟨RL, "slot", "(LSendhouse;ICI)J"⟩
abbrev cL_checksum : ByteArray := method_34_code
def yL_checksum : MethodName := ⟨RL, "checksum", "(LSendhouse;)J"⟩
abbrev cL_isSound : ByteArray := method_35_code
def yL_isSound : MethodName := ⟨RL, "isSound", "(LSendhouse;)J"⟩
abbrev cL_types : ByteArray := method_36_code
def yL_types : MethodName := ⟨RL, "types", "(LSendhouse;Ljava/lang/String;)V"⟩
abbrev cL_tells : ByteArray := method_37_code
def yL_tells : MethodName := ⟨RL, "tells", "(LSendhouse;IIIILjava/lang/String;)J"⟩
abbrev cL_tellsOne : ByteArray := method_38_code
def yL_tellsOne : MethodName := ⟨RL, "tellsOne", "(LSendhouse;I)V"⟩
abbrev cL_classes3 : ByteArray := method_39_code
def yL_classes3 : MethodName := ⟨RL, "classes3", "(LSendhouse;)V"⟩
abbrev cL_globals : ByteArray := method_40_code
def yL_globals : MethodName := ⟨RL, "globals", "(LSendhouse;I)V"⟩
abbrev cL_compiles : ByteArray := method_41_code
def yL_compiles : MethodName := ⟨RL, "compiles", "(LSendhouse;I)V"⟩
abbrev cL_reached : ByteArray := method_42_code
def yL_reached : MethodName := ⟨RL, "reached", "(LSendhouse;)J"⟩
abbrev cL_areAlike : ByteArray := method_43_code
def yL_areAlike : MethodName := ⟨RL, "areAlike", "(LSendhouse;LSendhouse;)Z"⟩
abbrev cL_law : ByteArray := code
def yL_law : MethodName := ⟨RL, "law", "([I)Z"⟩
abbrev vwCl : List vw_C := [(RJ0, TJ0, 4), (RJ4, TJ4, 4), (RJx00060, TJx00060, 6), (RJxe14f1, TJxe14f1, 6), (RJxc9f04, TJxc9f04, 5), (RJx4a65c, TJx4a65c, 3), (RX0, TX0, 3), (RX1, TX1, 7), (RX2, TX2, 1), (RX3, TX3, 7), (RX4, TX4, 5), (RX5, TX5, 5), (RX6, TX6, 7), (RX7, TX7, 4), (RX8, TX8, 13)]
