def RX0 : String := "SliceHeap$Memory"
def TX0 : u_T := fun k => match k with
  | 0 => ("SliceHeap$Memory", "rows", "[LSliceHeap$Thing;", true)
  | 1 => ("SliceHeap$Memory", "reached", "[LSliceHeap$Thing;", true)
  | 2 => ("SliceHeap$Memory", "reachedObjects", "I", false)
  | _ => ("SliceHeap$Memory", "reachedCells", "I", false)
def tyX0 : Nat → FieldType := fun k => match k with
  | 0 => .array (.object "SliceHeap$Thing")
  | 1 => .array (.object "SliceHeap$Thing")
  | 2 => .int
  | _ => .int
abbrev wsX00 : List Cond := u_ws RX0 TX0 4
theorem nmX0 : ∀ a, a < 4 → ∀ b, b < 4 → a ≠ b → (TX0 a).2.1 ≠ (TX0 b).2.1 := by decide +kernel
theorem tyX0_ok : ∀ k, k < 4 → parseFieldDescriptor (TX0 k).2.2.1 = some (tyX0 k) := by decide +kernel
def RX1 : String := "SliceHeap$Thing"
def TX1 : u_T := fun k => match k with
  | 0 => ("SliceHeap$Thing", "values", "[J", true)
  | 1 => ("SliceHeap$Thing", "size", "I", false)
  | _ => ("SliceHeap$Thing", "reached", "Z", false)
def tyX1 : Nat → FieldType := fun k => match k with
  | 0 => .array .long
  | 1 => .int
  | _ => .boolean
abbrev wsX10 : List Cond := u_ws RX1 TX1 3
theorem nmX1 : ∀ a, a < 3 → ∀ b, b < 3 → a ≠ b → (TX1 a).2.1 ≠ (TX1 b).2.1 := by decide +kernel
theorem tyX1_ok : ∀ k, k < 3 → parseFieldDescriptor (TX1 k).2.2.1 = some (tyX1 k) := by decide +kernel
def RX2 : String := "SliceHeap"
def TX2 : u_T := fun k => match k with
  | 0 => ("SliceHeap", "cells", "I", true)
  | 1 => ("SliceHeap", "registers", "[J", true)
  | 2 => ("SliceHeap", "stack", "[J", true)
  | 3 => ("SliceHeap", "memory", "LSliceHeap$Memory;", true)
  | 4 => ("SliceHeap", "stacked", "I", false)
  | 5 => ("SliceHeap", "madeInAll", "I", false)
  | _ => ("SliceHeap", "timesFull", "I", false)
def tyX2 : Nat → FieldType := fun k => match k with
  | 0 => .int
  | 1 => .array .long
  | 2 => .array .long
  | 3 => .object "SliceHeap$Memory"
  | 4 => .int
  | 5 => .int
  | _ => .int
abbrev wsX20 : List Cond := u_ws RX2 TX2 7
theorem nmX2 : ∀ a, a < 7 → ∀ b, b < 7 → a ≠ b → (TX2 a).2.1 ≠ (TX2 b).2.1 := by decide +kernel
theorem tyX2_ok : ∀ k, k < 7 → parseFieldDescriptor (TX2 k).2.2.1 = some (tyX2 k) := by decide +kernel
def RX3 : String := "SliceHeapModel"
def TX3 : u_T := fun k => match k with
  | 0 => ("SliceHeapModel", "cells", "I", true)
  | 1 => ("SliceHeapModel", "kinds", "[B", true)
  | 2 => ("SliceHeapModel", "values", "[I", true)
  | 3 => ("SliceHeapModel", "stacked", "I", false)
  | 4 => ("SliceHeapModel", "made", "I", false)
  | 5 => ("SliceHeapModel", "sizes", "[I", true)
  | 6 => ("SliceHeapModel", "reached", "[Z", true)
  | _ => ("SliceHeapModel", "full", "I", false)
def tyX3 : Nat → FieldType := fun k => match k with
  | 0 => .int
  | 1 => .array .byte
  | 2 => .array .int
  | 3 => .int
  | 4 => .int
  | 5 => .array .int
  | 6 => .array .boolean
  | _ => .int
abbrev wsX30 : List Cond := u_ws RX3 TX3 8
theorem nmX3 : ∀ a, a < 8 → ∀ b, b < 8 → a ≠ b → (TX3 a).2.1 ≠ (TX3 b).2.1 := by decide +kernel
theorem tyX3_ok : ∀ k, k < 8 → parseFieldDescriptor (TX3 k).2.2.1 = some (tyX3 k) := by decide +kernel
def RL : String := "SliceHeapLaw"
def RJ : String := "java/util/Arrays"
abbrev cX2_init : ByteArray := prog_1_method_1_code
def yX2_init : MethodName := ⟨RX2, "<init>", "(I)V"⟩
abbrev cJ_fill : ByteArray := prog_6_method_101_code
def yJ_fill : MethodName := ⟨RJ, "fill", "([JJ)V"⟩
abbrev cX0_init : ByteArray := prog_2_method_1_code
def yX0_init : MethodName := ⟨RX0, "<init>", "(I)V"⟩
abbrev cX2_make : ByteArray := prog_1_method_2_code
def yX2_make : MethodName := ⟨RX2, "make", "(III)I"⟩
abbrev cX2_isRegister : ByteArray := prog_1_method_15_code
def yX2_isRegister : MethodName := ⟨RX2, "isRegister", "(I)Z"⟩
abbrev cX2_hasRoomFor : ByteArray := prog_1_method_18_code
def yX2_hasRoomFor : MethodName := ⟨RX2, "hasRoomFor", "(I)Z"⟩
abbrev cX2_walk : ByteArray := prog_1_method_19_code
def yX2_walk : MethodName := ⟨RX2, "walk", "()V"⟩
abbrev cX0_forgetWalk : ByteArray := prog_2_method_5_code
def yX0_forgetWalk : MethodName := ⟨RX0, "forgetWalk", "()V"⟩
abbrev cX0_reachAll : ByteArray := prog_2_method_6_code
def yX0_reachAll : MethodName := ⟨RX0, "reachAll", "([JI)V"⟩
abbrev cX0_thingOf : ByteArray := prog_2_method_2_code
def yX0_thingOf : MethodName := ⟨RX0, "thingOf", "(J)LSliceHeap$Thing;"⟩
abbrev cX0_reach : ByteArray := prog_2_method_7_code
def yX0_reach : MethodName := ⟨RX0, "reach", "(LSliceHeap$Thing;)V"⟩
abbrev cX0_followReached : ByteArray := prog_2_method_8_code
def yX0_followReached : MethodName := ⟨RX0, "followReached", "()V"⟩
abbrev cX0_place : ByteArray := prog_2_method_3_code
def yX0_place : MethodName := ⟨RX0, "place", "(IJ)J"⟩
abbrev cX0_firstUnreached : ByteArray := prog_2_method_4_code
def yX0_firstUnreached : MethodName := ⟨RX0, "firstUnreached", "()I"⟩
abbrev cX1_init : ByteArray := prog_3_method_1_code
def yX1_init : MethodName := ⟨RX1, "<init>", "()V"⟩
abbrev cX1_fill : ByteArray := prog_3_method_3_code
def yX1_fill : MethodName := ⟨RX1, "fill", "(IJ)V"⟩
abbrev cX2_tellFull : ByteArray := prog_1_method_17_code
def yX2_tellFull : MethodName := ⟨RX2, "tellFull", "()I"⟩
abbrev cX2_grow : ByteArray := prog_1_method_3_code
def yX2_grow : MethodName := ⟨RX2, "grow", "(II)I"⟩
abbrev cX2_thingIn : ByteArray := prog_1_method_16_code
def yX2_thingIn : MethodName := ⟨RX2, "thingIn", "(I)LSliceHeap$Thing;"⟩
abbrev cX2_shrink : ByteArray := prog_1_method_4_code
def yX2_shrink : MethodName := ⟨RX2, "shrink", "(I)I"⟩
abbrev cX2_number : ByteArray := prog_1_method_5_code
def yX2_number : MethodName := ⟨RX2, "number", "(II)Z"⟩
abbrev cX2_copy : ByteArray := prog_1_method_6_code
def yX2_copy : MethodName := ⟨RX2, "copy", "(II)Z"⟩
abbrev cX2_get : ByteArray := prog_1_method_7_code
def yX2_get : MethodName := ⟨RX2, "get", "(III)Z"⟩
abbrev cX1_hasValue : ByteArray := prog_3_method_2_code
def yX1_hasValue : MethodName := ⟨RX1, "hasValue", "(I)Z"⟩
abbrev cX2_set : ByteArray := prog_1_method_8_code
def yX2_set : MethodName := ⟨RX2, "set", "(III)Z"⟩
abbrev cX2_push : ByteArray := prog_1_method_9_code
def yX2_push : MethodName := ⟨RX2, "push", "(I)I"⟩
abbrev cX2_pop : ByteArray := prog_1_method_10_code
def yX2_pop : MethodName := ⟨RX2, "pop", "(I)I"⟩
abbrev cX2_look : ByteArray := prog_1_method_11_code
def yX2_look : MethodName := ⟨RX2, "look", "(I)I"⟩
abbrev cX2_numberIn : ByteArray := prog_1_method_12_code
def yX2_numberIn : MethodName := ⟨RX2, "numberIn", "(I)I"⟩
abbrev cX2_same : ByteArray := prog_1_method_13_code
def yX2_same : MethodName := ⟨RX2, "same", "(II)I"⟩
abbrev cX2_count : ByteArray := prog_1_method_14_code
def yX2_count : MethodName := ⟨RX2, "count", "(I)I"⟩
abbrev cL_cell : ByteArray := method_2_code
def yL_cell : MethodName := ⟨RL, "cell", "([II)I"⟩
abbrev cX3_init : ByteArray := prog_5_method_1_code
def yX3_init : MethodName := ⟨RX3, "<init>", "(I)V"⟩
abbrev cX3_make : ByteArray := prog_5_method_11_code
def yX3_make : MethodName := ⟨RX3, "make", "(III)I"⟩
abbrev cX3_isRegister : ByteArray := prog_5_method_2_code
def yX3_isRegister : MethodName := ⟨RX3, "isRegister", "(I)Z"⟩
abbrev cX3_hasRoom : ByteArray := prog_5_method_10_code
def yX3_hasRoom : MethodName := ⟨RX3, "hasRoom", "(I)Z"⟩
abbrev cX3_reachable : ByteArray := prog_5_method_9_code
def yX3_reachable : MethodName := ⟨RX3, "reachable", "()I"⟩
abbrev cX3_goOver : ByteArray := prog_5_method_8_code
def yX3_goOver : MethodName := ⟨RX3, "goOver", "()V"⟩
abbrev cX3_reach : ByteArray := prog_5_method_7_code
def yX3_reach : MethodName := ⟨RX3, "reach", "(I)Z"⟩
abbrev cX3_placeOf : ByteArray := prog_5_method_4_code
def yX3_placeOf : MethodName := ⟨RX3, "placeOf", "(II)I"⟩
abbrev cX3_move : ByteArray := prog_5_method_5_code
def yX3_move : MethodName := ⟨RX3, "move", "(II)V"⟩
abbrev cX3_grow : ByteArray := prog_5_method_12_code
def yX3_grow : MethodName := ⟨RX3, "grow", "(II)I"⟩
abbrev cX3_hasObject : ByteArray := prog_5_method_3_code
def yX3_hasObject : MethodName := ⟨RX3, "hasObject", "(I)Z"⟩
abbrev cX3_shrink : ByteArray := prog_5_method_13_code
def yX3_shrink : MethodName := ⟨RX3, "shrink", "(I)I"⟩
abbrev cX3_empty : ByteArray := prog_5_method_6_code
def yX3_empty : MethodName := ⟨RX3, "empty", "(I)V"⟩
abbrev cX3_number : ByteArray := prog_5_method_14_code
def yX3_number : MethodName := ⟨RX3, "number", "(II)Z"⟩
abbrev cX3_copy : ByteArray := prog_5_method_15_code
def yX3_copy : MethodName := ⟨RX3, "copy", "(II)Z"⟩
abbrev cX3_get : ByteArray := prog_5_method_17_code
def yX3_get : MethodName := ⟨RX3, "get", "(III)Z"⟩
abbrev cX3_hasValue : ByteArray := prog_5_method_16_code
def yX3_hasValue : MethodName := ⟨RX3, "hasValue", "(II)Z"⟩
abbrev cX3_set : ByteArray := prog_5_method_18_code
def yX3_set : MethodName := ⟨RX3, "set", "(III)Z"⟩
abbrev cX3_push : ByteArray := prog_5_method_19_code
def yX3_push : MethodName := ⟨RX3, "push", "(I)I"⟩
abbrev cX3_pop : ByteArray := prog_5_method_20_code
def yX3_pop : MethodName := ⟨RX3, "pop", "(I)I"⟩
abbrev cX3_look : ByteArray := prog_5_method_21_code
def yX3_look : MethodName := ⟨RX3, "look", "(I)I"⟩
abbrev cX3_numberIn : ByteArray := prog_5_method_22_code
def yX3_numberIn : MethodName := ⟨RX3, "numberIn", "(I)I"⟩
abbrev cX3_same : ByteArray := prog_5_method_23_code
def yX3_same : MethodName := ⟨RX3, "same", "(II)I"⟩
abbrev cX3_count : ByteArray := prog_5_method_24_code
def yX3_count : MethodName := ⟨RX3, "count", "(I)I"⟩
abbrev vwCl : List vw_C := [(RX0, TX0, 4), (RX1, TX1, 3), (RX2, TX2, 7), (RX3, TX3, 8)]
/-- the words of all methods -/
def AL : List Cond := [.initialized "SliceHeapLaw",
  .initialized "SliceHeap",
  .initialized "java/util/Arrays",
  .initialized "SliceHeap$Memory",
  .initialized "SliceHeapModel",
  .initialized "SliceHeap$Thing",
  .classLink "SliceHeapLaw" 7 "SliceHeap",
  .instantiable "SliceHeap" 7,
  .methodLink "SliceHeapLaw" 15 yX2_init,
  .instanceMethod yX2_init,
  .code yX2_init prog_1_method_1_code 2 (Option.none : Option Jvm.ClassFile.FieldType),
  .methodLink "SliceHeap" 3 objectInit,
  .instanceMethod objectInit,
  .code objectInit object_method_1_code 1 (Option.none : Option Jvm.ClassFile.FieldType),
  .constantLong "SliceHeap" 17 4294967296,
  .methodLink "SliceHeap" 19 yJ_fill,
  .static yJ_fill,
  .code yJ_fill prog_6_method_101_code 5 (Option.none : Option Jvm.ClassFile.FieldType),
  .classLink "SliceHeap" 28 "SliceHeap$Memory",
  .instantiable "SliceHeap$Memory" 4,
  .instanceMethod yX0_init,
  .code yX0_init prog_2_method_1_code 2 (Option.none : Option Jvm.ClassFile.FieldType),
  .methodLink "SliceHeap$Memory" 3 objectInit,
  .classLink "SliceHeap$Memory" 9 "SliceHeap$Thing",
  .fieldLink "SliceHeap$Memory" 11 "SliceHeap$Memory" "rows" "[LSliceHeap$Thing;",
  .fieldLink "SliceHeap$Memory" 17 "SliceHeap$Memory" "reached" "[LSliceHeap$Thing;",
  .fieldLink "SliceHeap$Memory" 36 "SliceHeap$Memory" "reachedObjects" "I",
  .fieldLink "SliceHeap$Memory" 40 "SliceHeap$Memory" "reachedCells" "I",
  .laysFinal "SliceHeap$Memory" "SliceHeap$Memory" "rows" "[LSliceHeap$Thing;",
  .laysFinal "SliceHeap$Memory" "SliceHeap$Memory" "reached" "[LSliceHeap$Thing;",
  .lays "SliceHeap$Memory" "SliceHeap$Memory" "reachedObjects" "I",
  .lays "SliceHeap$Memory" "SliceHeap$Memory" "reachedCells" "I",
  .arrayClass .long,
  .fieldLink "SliceHeap" 9 "SliceHeap" "cells" "I",
  .fieldLink "SliceHeap" 13 "SliceHeap" "registers" "[J",
  .fieldLink "SliceHeap" 25 "SliceHeap" "stack" "[J",
  .fieldLink "SliceHeap" 33 "SliceHeap" "memory" "LSliceHeap$Memory;",
  .fieldLink "SliceHeap" 70 "SliceHeap" "stacked" "I",
  .fieldLink "SliceHeap" 52 "SliceHeap" "madeInAll" "I",
  .fieldLink "SliceHeap" 82 "SliceHeap" "timesFull" "I",
  .laysFinal "SliceHeap" "SliceHeap" "cells" "I",
  .laysFinal "SliceHeap" "SliceHeap" "registers" "[J",
  .laysFinal "SliceHeap" "SliceHeap" "stack" "[J",
  .laysFinal "SliceHeap" "SliceHeap" "memory" "LSliceHeap$Memory;",
  .lays "SliceHeap" "SliceHeap" "stacked" "I",
  .lays "SliceHeap" "SliceHeap" "madeInAll" "I",
  .lays "SliceHeap" "SliceHeap" "timesFull" "I",
  .methodLink "SliceHeapLaw" 21 yX2_make,
  .instanceMethod yX2_make,
  .code yX2_make prog_1_method_2_code 6 (Option.some .int),
  .methodLink "SliceHeap" 37 yX2_isRegister,
  .static yX2_isRegister,
  .code yX2_isRegister prog_1_method_15_code 1 (Option.some .boolean),
  .methodLink "SliceHeap" 41 yX2_hasRoomFor,
  .instanceMethod yX2_hasRoomFor,
  .code yX2_hasRoomFor prog_1_method_18_code 2 (Option.some .boolean),
  .methodLink "SliceHeap" 73 yX2_walk,
  .instanceMethod yX2_walk,
  .code yX2_walk prog_1_method_19_code 1 (Option.none : Option Jvm.ClassFile.FieldType),
  .instanceMethod yX0_forgetWalk,
  .code yX0_forgetWalk prog_2_method_5_code 2 (Option.none : Option Jvm.ClassFile.FieldType),
  .instanceMethod yX0_reachAll,
  .code yX0_reachAll prog_2_method_6_code 4 (Option.none : Option Jvm.ClassFile.FieldType),
  .methodLink "SliceHeap$Memory" 43 yX0_thingOf,
  .instanceMethod yX0_thingOf,
  .code yX0_thingOf prog_2_method_2_code 5 (Option.some (.object "SliceHeap$Thing")),
  .constantLong "SliceHeap$Memory" 20 4294967297,
  .methodLink "SliceHeap$Memory" 47 yX0_reach,
  .instanceMethod yX0_reach,
  .code yX0_reach prog_2_method_7_code 2 (Option.none : Option Jvm.ClassFile.FieldType),
  .instanceMethod yX0_followReached,
  .code yX0_followReached prog_2_method_8_code 3 (Option.none : Option Jvm.ClassFile.FieldType),
  .methodLink "SliceHeap$Memory" 58 yX0_reachAll,
  .instanceMethod yX0_place,
  .code yX0_place prog_2_method_3_code 5 (Option.some .long),
  .methodLink "SliceHeap$Memory" 22 yX0_firstUnreached,
  .instanceMethod yX0_firstUnreached,
  .code yX0_firstUnreached prog_2_method_4_code 2 (Option.some .int),
  .constantLong "SliceHeap$Memory" 26 4294967296,
  .instantiable "SliceHeap$Thing" 3,
  .instanceMethod yX1_init,
  .code yX1_init prog_3_method_1_code 1 (Option.none : Option Jvm.ClassFile.FieldType),
  .methodLink "SliceHeap$Thing" 3 objectInit,
  .fieldLink "SliceHeap$Thing" 9 "SliceHeap$Thing" "values" "[J",
  .fieldLink "SliceHeap$Thing" 15 "SliceHeap$Thing" "size" "I",
  .laysFinal "SliceHeap$Thing" "SliceHeap$Thing" "values" "[J",
  .lays "SliceHeap$Thing" "SliceHeap$Thing" "size" "I",
  .lays "SliceHeap$Thing" "SliceHeap$Thing" "reached" "Z",
  .instanceMethod yX1_fill,
  .code yX1_fill prog_3_method_3_code 5 (Option.none : Option Jvm.ClassFile.FieldType),
  .methodLink "SliceHeap" 48 yX2_tellFull,
  .instanceMethod yX2_tellFull,
  .code yX2_tellFull prog_1_method_17_code 1 (Option.some .int),
  .methodLink "SliceHeapLaw" 26 yX2_grow,
  .instanceMethod yX2_grow,
  .code yX2_grow prog_1_method_3_code 4 (Option.some .int),
  .methodLink "SliceHeap" 55 yX2_thingIn,
  .instanceMethod yX2_thingIn,
  .code yX2_thingIn prog_1_method_16_code 2 (Option.some (.object "SliceHeap$Thing")),
  .methodLink "SliceHeapLaw" 31 yX2_shrink,
  .instanceMethod yX2_shrink,
  .code yX2_shrink prog_1_method_4_code 3 (Option.some .int),
  .methodLink "SliceHeapLaw" 36 yX2_number,
  .instanceMethod yX2_number,
  .code yX2_number prog_1_method_5_code 3 (Option.some .boolean),
  .methodLink "SliceHeapLaw" 41 yX2_copy,
  .instanceMethod yX2_copy,
  .code yX2_copy prog_1_method_6_code 3 (Option.some .boolean),
  .methodLink "SliceHeapLaw" 45 yX2_get,
  .instanceMethod yX2_get,
  .code yX2_get prog_1_method_7_code 5 (Option.some .boolean),
  .instanceMethod yX1_hasValue,
  .code yX1_hasValue prog_3_method_2_code 2 (Option.some .boolean),
  .methodLink "SliceHeapLaw" 50 yX2_set,
  .instanceMethod yX2_set,
  .code yX2_set prog_1_method_8_code 5 (Option.some .boolean),
  .methodLink "SliceHeapLaw" 54 yX2_push,
  .instanceMethod yX2_push,
  .code yX2_push prog_1_method_9_code 2 (Option.some .int),
  .methodLink "SliceHeapLaw" 58 yX2_pop,
  .instanceMethod yX2_pop,
  .code yX2_pop prog_1_method_10_code 2 (Option.some .int),
  .methodLink "SliceHeapLaw" 62 yX2_look,
  .instanceMethod yX2_look,
  .code yX2_look prog_1_method_11_code 3 (Option.some .int),
  .methodLink "SliceHeapLaw" 66 yX2_numberIn,
  .instanceMethod yX2_numberIn,
  .code yX2_numberIn prog_1_method_12_code 2 (Option.some .int),
  .methodLink "SliceHeapLaw" 70 yX2_same,
  .instanceMethod yX2_same,
  .code yX2_same prog_1_method_13_code 3 (Option.some .int),
  .methodLink "SliceHeapLaw" 74 yX2_count,
  .instanceMethod yX2_count,
  .code yX2_count prog_1_method_14_code 2 (Option.some .int),
  .methodLink "SliceHeapLaw" 9 yL_cell,
  .static yL_cell,
  .code yL_cell method_2_code 2 (Option.some .int),
  .classLink "SliceHeapLaw" 18 "SliceHeapModel",
  .instantiable "SliceHeapModel" 8,
  .methodLink "SliceHeapLaw" 20 yX3_init,
  .instanceMethod yX3_init,
  .code yX3_init prog_5_method_1_code 2 (Option.none : Option Jvm.ClassFile.FieldType),
  .methodLink "SliceHeapModel" 1 objectInit,
  .fieldLink "SliceHeapModel" 24 "SliceHeapModel" "cells" "I",
  .fieldLink "SliceHeapModel" 7 "SliceHeapModel" "kinds" "[B",
  .fieldLink "SliceHeapModel" 13 "SliceHeapModel" "values" "[I",
  .fieldLink "SliceHeapModel" 35 "SliceHeapModel" "stacked" "I",
  .fieldLink "SliceHeapModel" 32 "SliceHeapModel" "made" "I",
  .fieldLink "SliceHeapModel" 17 "SliceHeapModel" "sizes" "[I",
  .fieldLink "SliceHeapModel" 20 "SliceHeapModel" "reached" "[Z",
  .fieldLink "SliceHeapModel" 52 "SliceHeapModel" "full" "I",
  .laysFinal "SliceHeapModel" "SliceHeapModel" "cells" "I",
  .laysFinal "SliceHeapModel" "SliceHeapModel" "kinds" "[B",
  .laysFinal "SliceHeapModel" "SliceHeapModel" "values" "[I",
  .lays "SliceHeapModel" "SliceHeapModel" "stacked" "I",
  .lays "SliceHeapModel" "SliceHeapModel" "made" "I",
  .laysFinal "SliceHeapModel" "SliceHeapModel" "sizes" "[I",
  .laysFinal "SliceHeapModel" "SliceHeapModel" "reached" "[Z",
  .lays "SliceHeapModel" "SliceHeapModel" "full" "I",
  .arrayClass .byte,
  .arrayClass .int,
  .arrayClass .boolean,
  .methodLink "SliceHeapLaw" 25 yX3_make,
  .instanceMethod yX3_make,
  .code yX3_make prog_5_method_11_code 5 (Option.some .int),
  .methodLink "SliceHeapModel" 28 yX3_isRegister,
  .static yX3_isRegister,
  .code yX3_isRegister prog_5_method_2_code 1 (Option.some .boolean),
  .methodLink "SliceHeapModel" 55 yX3_hasRoom,
  .instanceMethod yX3_hasRoom,
  .code yX3_hasRoom prog_5_method_10_code 3 (Option.some .boolean),
  .methodLink "SliceHeapModel" 48 yX3_reachable,
  .instanceMethod yX3_reachable,
  .code yX3_reachable prog_5_method_9_code 3 (Option.some .int),
  .methodLink "SliceHeapModel" 45 yX3_goOver,
  .instanceMethod yX3_goOver,
  .code yX3_goOver prog_5_method_8_code 4 (Option.none : Option Jvm.ClassFile.FieldType),
  .methodLink "SliceHeapModel" 38 yX3_reach,
  .instanceMethod yX3_reach,
  .code yX3_reach prog_5_method_7_code 2 (Option.some .boolean),
  .methodLink "SliceHeapModel" 41 yX3_placeOf,
  .static yX3_placeOf,
  .code yX3_placeOf prog_5_method_4_code 2 (Option.some .int),
  .methodLink "SliceHeapModel" 58 yX3_move,
  .instanceMethod yX3_move,
  .code yX3_move prog_5_method_5_code 3 (Option.none : Option Jvm.ClassFile.FieldType),
  .methodLink "SliceHeapLaw" 30 yX3_grow,
  .instanceMethod yX3_grow,
  .code yX3_grow prog_5_method_12_code 4 (Option.some .int),
  .methodLink "SliceHeapModel" 62 yX3_hasObject,
  .instanceMethod yX3_hasObject,
  .code yX3_hasObject prog_5_method_3_code 2 (Option.some .boolean),
  .methodLink "SliceHeapLaw" 35 yX3_shrink,
  .instanceMethod yX3_shrink,
  .code yX3_shrink prog_5_method_13_code 3 (Option.some .int),
  .methodLink "SliceHeapModel" 65 yX3_empty,
  .instanceMethod yX3_empty,
  .code yX3_empty prog_5_method_6_code 2 (Option.none : Option Jvm.ClassFile.FieldType),
  .methodLink "SliceHeapLaw" 40 yX3_number,
  .instanceMethod yX3_number,
  .code yX3_number prog_5_method_14_code 3 (Option.some .boolean),
  .methodLink "SliceHeapLaw" 44 yX3_copy,
  .instanceMethod yX3_copy,
  .code yX3_copy prog_5_method_15_code 3 (Option.some .boolean),
  .methodLink "SliceHeapLaw" 49 yX3_get,
  .instanceMethod yX3_get,
  .code yX3_get prog_5_method_17_code 4 (Option.some .boolean),
  .methodLink "SliceHeapModel" 69 yX3_hasValue,
  .instanceMethod yX3_hasValue,
  .code yX3_hasValue prog_5_method_16_code 3 (Option.some .boolean),
  .methodLink "SliceHeapLaw" 53 yX3_set,
  .instanceMethod yX3_set,
  .code yX3_set prog_5_method_18_code 4 (Option.some .boolean),
  .methodLink "SliceHeapLaw" 57 yX3_push,
  .instanceMethod yX3_push,
  .code yX3_push prog_5_method_19_code 2 (Option.some .int),
  .methodLink "SliceHeapLaw" 61 yX3_pop,
  .instanceMethod yX3_pop,
  .code yX3_pop prog_5_method_20_code 2 (Option.some .int),
  .methodLink "SliceHeapLaw" 65 yX3_look,
  .instanceMethod yX3_look,
  .code yX3_look prog_5_method_21_code 2 (Option.some .int),
  .methodLink "SliceHeapLaw" 69 yX3_numberIn,
  .instanceMethod yX3_numberIn,
  .code yX3_numberIn prog_5_method_22_code 2 (Option.some .int),
  .methodLink "SliceHeapLaw" 73 yX3_same,
  .instanceMethod yX3_same,
  .code yX3_same prog_5_method_23_code 3 (Option.some .int),
  .methodLink "SliceHeapLaw" 77 yX3_count,
  .instanceMethod yX3_count,
  .code yX3_count prog_5_method_24_code 5 (Option.some .int),
  .selects "SliceHeap" yX2_hasRoomFor yX2_hasRoomFor,
  .selects "SliceHeap" yX2_walk yX2_walk,
  .selects "SliceHeap$Memory" yX0_forgetWalk yX0_forgetWalk,
  .selects "SliceHeap$Memory" yX0_reachAll yX0_reachAll,
  .selects "SliceHeap$Memory" yX0_thingOf yX0_thingOf,
  .selects "SliceHeap$Memory" yX0_reach yX0_reach,
  .selects "SliceHeap$Memory" yX0_followReached yX0_followReached,
  .selects "SliceHeap$Memory" yX0_place yX0_place,
  .selects "SliceHeap$Memory" yX0_firstUnreached yX0_firstUnreached,
  .selects "SliceHeap$Thing" yX1_fill yX1_fill,
  .selects "SliceHeap" yX2_tellFull yX2_tellFull,
  .selects "SliceHeap" yX2_thingIn yX2_thingIn,
  .selects "SliceHeap$Thing" yX1_hasValue yX1_hasValue,
  .selects "SliceHeapModel" yX3_hasRoom yX3_hasRoom,
  .selects "SliceHeapModel" yX3_reachable yX3_reachable,
  .selects "SliceHeapModel" yX3_goOver yX3_goOver,
  .selects "SliceHeapModel" yX3_reach yX3_reach,
  .selects "SliceHeapModel" yX3_move yX3_move,
  .selects "SliceHeapModel" yX3_hasObject yX3_hasObject,
  .selects "SliceHeapModel" yX3_empty yX3_empty,
  .selects "SliceHeapModel" yX3_hasValue yX3_hasValue,
  .selects "SliceHeap" yX2_make yX2_make,
  .selects "SliceHeap" yX2_grow yX2_grow,
  .selects "SliceHeap" yX2_shrink yX2_shrink,
  .selects "SliceHeap" yX2_number yX2_number,
  .selects "SliceHeap" yX2_copy yX2_copy,
  .selects "SliceHeap" yX2_get yX2_get,
  .selects "SliceHeap" yX2_set yX2_set,
  .selects "SliceHeap" yX2_push yX2_push,
  .selects "SliceHeap" yX2_pop yX2_pop,
  .selects "SliceHeap" yX2_look yX2_look,
  .selects "SliceHeap" yX2_numberIn yX2_numberIn,
  .selects "SliceHeap" yX2_same yX2_same,
  .selects "SliceHeap" yX2_count yX2_count,
  .selects "SliceHeapModel" yX3_make yX3_make,
  .selects "SliceHeapModel" yX3_grow yX3_grow,
  .selects "SliceHeapModel" yX3_shrink yX3_shrink,
  .selects "SliceHeapModel" yX3_number yX3_number,
  .selects "SliceHeapModel" yX3_copy yX3_copy,
  .selects "SliceHeapModel" yX3_get yX3_get,
  .selects "SliceHeapModel" yX3_set yX3_set,
  .selects "SliceHeapModel" yX3_push yX3_push,
  .selects "SliceHeapModel" yX3_pop yX3_pop,
  .selects "SliceHeapModel" yX3_look yX3_look,
  .selects "SliceHeapModel" yX3_numberIn yX3_numberIn,
  .selects "SliceHeapModel" yX3_same yX3_same,
  .selects "SliceHeapModel" yX3_count yX3_count]
def NW : List Cond := [.methodLinkNest "SliceHeap" 30 yX0_init "SliceHeap",
  .fieldLinkNest "SliceHeap" 79 "SliceHeap$Memory" "reachedObjects" "I" "SliceHeap",
  .fieldLinkNest "SliceHeap" 76 "SliceHeap$Memory" "reachedCells" "I" "SliceHeap",
  .methodLinkNest "SliceHeap" 89 yX0_forgetWalk "SliceHeap",
  .methodLinkNest "SliceHeap" 92 yX0_reachAll "SliceHeap",
  .methodLinkNest "SliceHeap" 96 yX0_followReached "SliceHeap",
  .methodLinkNest "SliceHeap" 44 yX0_place "SliceHeap",
  .methodLinkNest "SliceHeap$Memory" 28 yX1_init "SliceHeap",
  .fieldLinkNest "SliceHeap" 64 "SliceHeap$Thing" "values" "[J" "SliceHeap",
  .fieldLinkNest "SliceHeap$Memory" 54 "SliceHeap$Thing" "values" "[J" "SliceHeap",
  .fieldLinkNest "SliceHeap" 59 "SliceHeap$Thing" "size" "I" "SliceHeap",
  .fieldLinkNest "SliceHeap$Memory" 51 "SliceHeap$Thing" "size" "I" "SliceHeap",
  .fieldLinkNest "SliceHeap$Memory" 33 "SliceHeap$Thing" "reached" "Z" "SliceHeap",
  .methodLinkNest "SliceHeap$Memory" 29 yX1_fill "SliceHeap",
  .methodLinkNest "SliceHeap" 85 yX0_thingOf "SliceHeap",
  .methodLinkNest "SliceHeap" 67 yX1_hasValue "SliceHeap"]
set_option maxRecDepth 100000 in
theorem al_eq : AL = ([21, 22, 23, 24, 25, 26, 27, 28, 29, 30, 31, 32, 33, 34, 35, 36, 37, 38, 39, 40, 42, 43, 44, 45, 47, 48, 49, 51, 53, 55, 57, 59, 62, 63, 64, 65, 66, 67, 68, 69, 70, 72, 74, 76, 78, 80, 82, 85, 86, 88, 89, 90, 91, 92, 94, 95, 96, 98, 99, 102, 103, 106, 107, 108, 110, 111, 112, 113, 115, 116, 119, 120, 121, 124, 125, 126, 128, 129, 130, 131, 133, 134, 135, 136, 139, 143, 145, 147, 152, 153, 154, 156, 157, 158, 159, 161, 162, 164, 165, 167, 168, 170, 171, 172, 174, 175, 176, 178, 179, 180, 182, 185, 186, 187, 188, 190, 191, 192, 194, 195, 196, 198, 199, 200, 202, 203, 204, 206, 207, 208, 210, 211, 212, 214, 215, 216, 217, 218, 219, 220, 221, 222, 223, 224, 225, 226, 227, 228, 229, 230, 231, 232, 234, 236, 238, 240, 242, 244, 246, 249, 250, 251, 252, 253, 255, 256, 257, 258, 259, 261, 262, 263, 265, 266, 267, 269, 270, 271, 273, 274, 275, 276, 277, 278, 280, 281, 282, 283, 285, 286, 288, 289, 290, 291, 293, 294, 296, 297, 298, 299, 301, 302, 303, 305, 306, 307, 309, 310, 312, 313, 314, 315, 317, 318, 319, 321, 322, 323, 325, 326, 327, 329, 330, 331, 333, 334, 335, 337, 338, 339, 341, 0, 1, 2, 3, 4, 5, 6, 7, 8, 9, 10, 11, 12, 13, 14, 15, 16, 17, 18, 19, 20, 87, 160, 169, 173, 177, 181, 189, 193, 197, 201, 205, 209, 213, 254, 284, 292, 300, 304, 308, 316, 320, 324, 328, 332, 336, 340] : List Nat).filterMap (fun i => lw_tbl[i]?) := by decide +kernel
theorem al_in : ∀ w ∈ AL, w ∈ lw_tbl := by
  intro w hw
  rw [al_eq] at hw
  obtain ⟨i, -, hi⟩ := List.mem_filterMap.mp hw
  exact List.mem_of_getElem? hi
set_option maxRecDepth 100000 in
theorem nw_eq : NW = ([41, 50, 52, 100, 104, 117, 122, 132, 137, 138, 140, 141, 142, 150, 166, 183] : List Nat).filterMap (fun i => lw_tbl[i]?) := by decide +kernel
theorem nw_in : ∀ w ∈ NW, w ∈ lw_tbl := by
  intro w hw
  rw [nw_eq] at hw
  obtain ⟨i, -, hi⟩ := List.mem_filterMap.mp hw
  exact List.mem_of_getElem? hi
set_option maxRecDepth 100000 in
theorem al_all : AL.all goodWord = true := by decide +kernel
theorem al_good : ∀ w ∈ AL, (w.onTables && w.keeps) = true ∨ ∃ ty, w = .arrayClass ty := fun w h => good_of_word (List.all_eq_true.mp al_all w h)
theorem al {w : Cond} (i : Nat) (h : AL[i]? = some w) : w ∈ AL := List.mem_of_getElem? h
theorem am {a w : Cond} (i : Nat) (h : AL[i]? = some w) : w ∈ a :: AL := List.mem_cons_of_mem _ (List.mem_of_getElem? h)
theorem nw {w : Cond} (i : Nat) (h : NW[i]? = some w) : w ∈ NW := List.mem_of_getElem? h
theorem gd0 {a c : Cond} (hc : c ∈ AL) : GoodIn (a :: AL) (c :: AL) := fun w hw => by
  have h : w ∈ AL := by
    rcases List.mem_cons.mp hw with h | h
    · rw [h]; exact hc
    · exact h
  exact ⟨List.mem_cons_of_mem _ h, al_good w h⟩
theorem gdL {a : Cond} {l ws : List Cond} (hl : ∀ w ∈ l, w ∈ AL) (h : GoodIn (a :: AL) ws) : GoodIn (a :: AL) (l ++ ws) := fun w hw => by
  rcases List.mem_append.mp hw with q | q
  · exact ⟨List.mem_cons_of_mem _ (hl w q), al_good w (hl w q)⟩
  · exact h w q
theorem gdV {a c : Cond} {own C : String} {idx : Nat} {y : MethodName} (h1 : .methodLink own idx y ∈ AL) (h2 : .instanceMethod y ∈ AL) (h3 : .selects C y y ∈ AL) (h4 : .initialized C ∈ AL) (hc : c ∈ AL) : GoodIn (a :: AL) (wsV own idx C y (c :: AL)) :=
  gdL (fun w hw => by
    simp only [List.mem_cons, List.not_mem_nil, or_false] at hw
    rcases hw with rfl | rfl | rfl | rfl
    · exact h1
    · exact h2
    · exact h3
    · exact h4) (gd0 hc)
theorem gdS {a c : Cond} {own : String} {idx : Nat} {y : MethodName} (h1 : .methodLink own idx y ∈ AL) (h2 : .static y ∈ AL) (h4 : .initialized own ∈ AL) (hc : c ∈ AL) : GoodIn (a :: AL) (wsS own idx y (c :: AL)) :=
  gdL (fun w hw => by
    simp only [List.mem_cons, List.not_mem_nil, or_false] at hw
    rcases hw with rfl | rfl | rfl
    · exact h1
    · exact h2
    · exact h4) (gd0 hc)
theorem gdO {a c : Cond} {own : String} {idx : Nat} {y : MethodName} (h1 : .methodLink own idx y ∈ AL) (h2 : .static y ∈ AL) (h4 : .initialized y.cls ∈ AL) (hc : c ∈ AL) : GoodIn (a :: AL) (va_wsS own idx y (c :: AL)) :=
  gdL (fun w hw => by
    simp only [List.mem_cons, List.not_mem_nil, or_false] at hw
    rcases hw with rfl | rfl | rfl
    · exact h1
    · exact h2
    · exact h4) (gd0 hc)
/-- the words of a nest, and the kind of the rows' array -/
def NF (U : State) : Prop := (∀ w ∈ NW, va_Nw w U) ∧ va_AO "SliceHeap$Thing" U
def isN : Cond → Bool
  | .fieldLinkNest .. => true
  | .methodLinkNest .. => true
  | _ => false
theorem nw_n : ∀ w ∈ NW, isN w = true := by decide +kernel
theorem va_Nw.sameN {w : Cond} (h : isN w = true) {u U : State} (hv : u.vm = U.vm) (hZ : va_Nw w u) : va_Nw w U := by
  cases w <;> first | (simp [isN] at h; done) | exact va_Nw.same rfl hv hZ
theorem va_Nw.warmN {w : Cond} (h : isN w = true) {s U : State} (hW : s.WarmedH U.vm) (hZ : va_Nw w s) : va_Nw w U := by
  cases w <;> first | (simp [isN] at h; done) | exact va_Nw.warmF hW hZ | exact va_Nw.warmM hW hZ
theorem NF.same {u U : State} (hv : u.vm = U.vm) (h : NF u) : NF U := ⟨fun w hw => va_Nw.sameN (nw_n w hw) hv (h.1 w hw), va_AO.moved (by rw [hv]; exact Vm.Alike.refl _) h.2⟩
theorem NF.warm {s U : State} (hW : s.WarmedH U.vm) (h : NF s) : NF U := ⟨fun w hw => va_Nw.warmN (nw_n w hw) hW (h.1 w hw), va_AO.moved hW.alike h.2⟩
theorem nw_on : ∀ w ∈ NW, w.onTables = true := by decide +kernel
theorem ao_in : Cond.arrayOver (.object "SliceHeap$Thing") ∈ lw_tbl := List.mem_of_getElem? (i := 46) (by decide +kernel)
theorem inX0 : ∀ w ∈ u_ws RX0 TX0 4, w ∈ AL := by decide +kernel
theorem imX0 {a : Cond} : ∀ w ∈ u_ws RX0 TX0 4, w ∈ a :: AL := fun w h => List.mem_cons_of_mem _ (inX0 w h)
theorem inX1 : ∀ w ∈ u_ws RX1 TX1 3, w ∈ AL := by decide +kernel
theorem imX1 {a : Cond} : ∀ w ∈ u_ws RX1 TX1 3, w ∈ a :: AL := fun w h => List.mem_cons_of_mem _ (inX1 w h)
theorem inX2 : ∀ w ∈ u_ws RX2 TX2 7, w ∈ AL := by decide +kernel
theorem imX2 {a : Cond} : ∀ w ∈ u_ws RX2 TX2 7, w ∈ a :: AL := fun w h => List.mem_cons_of_mem _ (inX2 w h)
theorem inX3 : ∀ w ∈ u_ws RX3 TX3 8, w ∈ AL := by decide +kernel
theorem imX3 {a : Cond} : ∀ w ∈ u_ws RX3 TX3 8, w ∈ a :: AL := fun w h => List.mem_cons_of_mem _ (inX3 w h)
abbrev wX2_init : List Cond := .code yX2_init cX2_init 2 none :: AL
abbrev wJ_fill : List Cond := .code yJ_fill cJ_fill 5 none :: AL
abbrev wX0_init : List Cond := .code yX0_init cX0_init 2 none :: AL
abbrev wX2_make : List Cond := .code yX2_make cX2_make 6 (some .int) :: AL
abbrev wX2_isRegister : List Cond := .code yX2_isRegister cX2_isRegister 1 (some .boolean) :: AL
abbrev wX2_hasRoomFor : List Cond := .code yX2_hasRoomFor cX2_hasRoomFor 2 (some .boolean) :: AL
abbrev wX2_walk : List Cond := .code yX2_walk cX2_walk 1 none :: AL
abbrev wX0_forgetWalk : List Cond := .code yX0_forgetWalk cX0_forgetWalk 2 none :: AL
abbrev wX0_reachAll : List Cond := .code yX0_reachAll cX0_reachAll 4 none :: AL
abbrev wX0_thingOf : List Cond := .code yX0_thingOf cX0_thingOf 5 (some (.object "SliceHeap$Thing")) :: AL
abbrev wX0_reach : List Cond := .code yX0_reach cX0_reach 2 none :: AL
abbrev wX0_followReached : List Cond := .code yX0_followReached cX0_followReached 3 none :: AL
abbrev wX0_place : List Cond := .code yX0_place cX0_place 5 (some .long) :: AL
abbrev wX0_firstUnreached : List Cond := .code yX0_firstUnreached cX0_firstUnreached 2 (some .int) :: AL
abbrev wX1_init : List Cond := .code yX1_init cX1_init 1 none :: AL
abbrev wX1_fill : List Cond := .code yX1_fill cX1_fill 5 none :: AL
abbrev wX2_tellFull : List Cond := .code yX2_tellFull cX2_tellFull 1 (some .int) :: AL
abbrev wX2_grow : List Cond := .code yX2_grow cX2_grow 4 (some .int) :: AL
abbrev wX2_thingIn : List Cond := .code yX2_thingIn cX2_thingIn 2 (some (.object "SliceHeap$Thing")) :: AL
abbrev wX2_shrink : List Cond := .code yX2_shrink cX2_shrink 3 (some .int) :: AL
abbrev wX2_number : List Cond := .code yX2_number cX2_number 3 (some .boolean) :: AL
abbrev wX2_copy : List Cond := .code yX2_copy cX2_copy 3 (some .boolean) :: AL
abbrev wX2_get : List Cond := .code yX2_get cX2_get 5 (some .boolean) :: AL
abbrev wX1_hasValue : List Cond := .code yX1_hasValue cX1_hasValue 2 (some .boolean) :: AL
abbrev wX2_set : List Cond := .code yX2_set cX2_set 5 (some .boolean) :: AL
abbrev wX2_push : List Cond := .code yX2_push cX2_push 2 (some .int) :: AL
abbrev wX2_pop : List Cond := .code yX2_pop cX2_pop 2 (some .int) :: AL
abbrev wX2_look : List Cond := .code yX2_look cX2_look 3 (some .int) :: AL
abbrev wX2_numberIn : List Cond := .code yX2_numberIn cX2_numberIn 2 (some .int) :: AL
abbrev wX2_same : List Cond := .code yX2_same cX2_same 3 (some .int) :: AL
abbrev wX2_count : List Cond := .code yX2_count cX2_count 2 (some .int) :: AL
abbrev wL_cell : List Cond := .code yL_cell cL_cell 2 (some .int) :: AL
abbrev wX3_init : List Cond := .code yX3_init cX3_init 2 none :: AL
abbrev wX3_make : List Cond := .code yX3_make cX3_make 5 (some .int) :: AL
abbrev wX3_isRegister : List Cond := .code yX3_isRegister cX3_isRegister 1 (some .boolean) :: AL
abbrev wX3_hasRoom : List Cond := .code yX3_hasRoom cX3_hasRoom 3 (some .boolean) :: AL
abbrev wX3_reachable : List Cond := .code yX3_reachable cX3_reachable 3 (some .int) :: AL
abbrev wX3_goOver : List Cond := .code yX3_goOver cX3_goOver 4 none :: AL
abbrev wX3_reach : List Cond := .code yX3_reach cX3_reach 2 (some .boolean) :: AL
abbrev wX3_placeOf : List Cond := .code yX3_placeOf cX3_placeOf 2 (some .int) :: AL
abbrev wX3_move : List Cond := .code yX3_move cX3_move 3 none :: AL
abbrev wX3_grow : List Cond := .code yX3_grow cX3_grow 4 (some .int) :: AL
abbrev wX3_hasObject : List Cond := .code yX3_hasObject cX3_hasObject 2 (some .boolean) :: AL
abbrev wX3_shrink : List Cond := .code yX3_shrink cX3_shrink 3 (some .int) :: AL
abbrev wX3_empty : List Cond := .code yX3_empty cX3_empty 2 none :: AL
abbrev wX3_number : List Cond := .code yX3_number cX3_number 3 (some .boolean) :: AL
abbrev wX3_copy : List Cond := .code yX3_copy cX3_copy 3 (some .boolean) :: AL
abbrev wX3_get : List Cond := .code yX3_get cX3_get 4 (some .boolean) :: AL
abbrev wX3_hasValue : List Cond := .code yX3_hasValue cX3_hasValue 3 (some .boolean) :: AL
abbrev wX3_set : List Cond := .code yX3_set cX3_set 4 (some .boolean) :: AL
abbrev wX3_push : List Cond := .code yX3_push cX3_push 2 (some .int) :: AL
abbrev wX3_pop : List Cond := .code yX3_pop cX3_pop 2 (some .int) :: AL
abbrev wX3_look : List Cond := .code yX3_look cX3_look 2 (some .int) :: AL
abbrev wX3_numberIn : List Cond := .code yX3_numberIn cX3_numberIn 2 (some .int) :: AL
abbrev wX3_same : List Cond := .code yX3_same cX3_same 3 (some .int) :: AL
abbrev wX3_count : List Cond := .code yX3_count cX3_count 5 (some .int) :: AL
