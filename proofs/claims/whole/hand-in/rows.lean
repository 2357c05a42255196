section
/-- a private method of a class that the tables say can be made, by its rows of tables_1 -/
def lw_okq (q : MethodName × Nat) : Prop := (q.1.cls ≠ "java/lang/invoke/MethodHandle" ∧ q.1.cls ≠ "java/lang/invoke/VarHandle") ∧ Cond.instantiable q.1.cls q.2 ∈ tables_1 ∧ Cond.privateMethod q.1 ∈ tables_1 ∧ Cond.instanceMethod q.1 ∈ tables_1
theorem lw_p0 : lw_okq (⟨"SliceHeap", "hasRoomFor", "(I)Z"⟩, 7) := ⟨⟨by decide +kernel, by decide +kernel⟩, List.mem_of_getElem? (i := 7) (by decide +kernel), List.mem_of_getElem? (i := 72) (by decide +kernel), List.mem_of_getElem? (i := 73) (by decide +kernel)⟩
theorem lw_p1 : lw_okq (⟨"SliceHeap", "walk", "()V"⟩, 7) := ⟨⟨by decide +kernel, by decide +kernel⟩, List.mem_of_getElem? (i := 7) (by decide +kernel), List.mem_of_getElem? (i := 76) (by decide +kernel), List.mem_of_getElem? (i := 77) (by decide +kernel)⟩
theorem lw_p2 : lw_okq (⟨"SliceHeap$Memory", "forgetWalk", "()V"⟩, 4) := ⟨⟨by decide +kernel, by decide +kernel⟩, List.mem_of_getElem? (i := 19) (by decide +kernel), List.mem_of_getElem? (i := 80) (by decide +kernel), List.mem_of_getElem? (i := 81) (by decide +kernel)⟩
theorem lw_p3 : lw_okq (⟨"SliceHeap$Memory", "reachAll", "([JI)V"⟩, 4) := ⟨⟨by decide +kernel, by decide +kernel⟩, List.mem_of_getElem? (i := 19) (by decide +kernel), List.mem_of_getElem? (i := 84) (by decide +kernel), List.mem_of_getElem? (i := 85) (by decide +kernel)⟩
theorem lw_p4 : lw_okq (⟨"SliceHeap$Memory", "thingOf", "(J)LSliceHeap$Thing;"⟩, 4) := ⟨⟨by decide +kernel, by decide +kernel⟩, List.mem_of_getElem? (i := 19) (by decide +kernel), List.mem_of_getElem? (i := 88) (by decide +kernel), List.mem_of_getElem? (i := 89) (by decide +kernel)⟩
theorem lw_p5 : lw_okq (⟨"SliceHeap$Memory", "reach", "(LSliceHeap$Thing;)V"⟩, 4) := ⟨⟨by decide +kernel, by decide +kernel⟩, List.mem_of_getElem? (i := 19) (by decide +kernel), List.mem_of_getElem? (i := 93) (by decide +kernel), List.mem_of_getElem? (i := 94) (by decide +kernel)⟩
theorem lw_p6 : lw_okq (⟨"SliceHeap$Memory", "followReached", "()V"⟩, 4) := ⟨⟨by decide +kernel, by decide +kernel⟩, List.mem_of_getElem? (i := 19) (by decide +kernel), List.mem_of_getElem? (i := 97) (by decide +kernel), List.mem_of_getElem? (i := 98) (by decide +kernel)⟩
theorem lw_p7 : lw_okq (⟨"SliceHeap$Memory", "place", "(IJ)J"⟩, 4) := ⟨⟨by decide +kernel, by decide +kernel⟩, List.mem_of_getElem? (i := 19) (by decide +kernel), List.mem_of_getElem? (i := 102) (by decide +kernel), List.mem_of_getElem? (i := 103) (by decide +kernel)⟩
theorem lw_p8 : lw_okq (⟨"SliceHeap$Memory", "firstUnreached", "()I"⟩, 4) := ⟨⟨by decide +kernel, by decide +kernel⟩, List.mem_of_getElem? (i := 19) (by decide +kernel), List.mem_of_getElem? (i := 106) (by decide +kernel), List.mem_of_getElem? (i := 107) (by decide +kernel)⟩
theorem lw_p9 : lw_okq (⟨"SliceHeap$Thing", "fill", "(IJ)V"⟩, 3) := ⟨⟨by decide +kernel, by decide +kernel⟩, List.mem_of_getElem? (i := 110) (by decide +kernel), List.mem_of_getElem? (i := 130) (by decide +kernel), List.mem_of_getElem? (i := 131) (by decide +kernel)⟩
theorem lw_p10 : lw_okq (⟨"SliceHeap", "tellFull", "()I"⟩, 7) := ⟨⟨by decide +kernel, by decide +kernel⟩, List.mem_of_getElem? (i := 7) (by decide +kernel), List.mem_of_getElem? (i := 134) (by decide +kernel), List.mem_of_getElem? (i := 135) (by decide +kernel)⟩
theorem lw_p11 : lw_okq (⟨"SliceHeap", "thingIn", "(I)LSliceHeap$Thing;"⟩, 7) := ⟨⟨by decide +kernel, by decide +kernel⟩, List.mem_of_getElem? (i := 7) (by decide +kernel), List.mem_of_getElem? (i := 142) (by decide +kernel), List.mem_of_getElem? (i := 143) (by decide +kernel)⟩
theorem lw_p12 : lw_okq (⟨"SliceHeap$Thing", "hasValue", "(I)Z"⟩, 3) := ⟨⟨by decide +kernel, by decide +kernel⟩, List.mem_of_getElem? (i := 110) (by decide +kernel), List.mem_of_getElem? (i := 163) (by decide +kernel), List.mem_of_getElem? (i := 164) (by decide +kernel)⟩
theorem lw_p13 : lw_okq (⟨"SliceHeapModel", "hasRoom", "(I)Z"⟩, 8) := ⟨⟨by decide +kernel, by decide +kernel⟩, List.mem_of_getElem? (i := 198) (by decide +kernel), List.mem_of_getElem? (i := 239) (by decide +kernel), List.mem_of_getElem? (i := 240) (by decide +kernel)⟩
theorem lw_p14 : lw_okq (⟨"SliceHeapModel", "reachable", "()I"⟩, 8) := ⟨⟨by decide +kernel, by decide +kernel⟩, List.mem_of_getElem? (i := 198) (by decide +kernel), List.mem_of_getElem? (i := 243) (by decide +kernel), List.mem_of_getElem? (i := 244) (by decide +kernel)⟩
theorem lw_p15 : lw_okq (⟨"SliceHeapModel", "goOver", "()V"⟩, 8) := ⟨⟨by decide +kernel, by decide +kernel⟩, List.mem_of_getElem? (i := 198) (by decide +kernel), List.mem_of_getElem? (i := 247) (by decide +kernel), List.mem_of_getElem? (i := 248) (by decide +kernel)⟩
def lw_privs_1 : List (MethodName × Nat) := [(⟨"SliceHeap", "hasRoomFor", "(I)Z"⟩, 7), (⟨"SliceHeap", "walk", "()V"⟩, 7), (⟨"SliceHeap$Memory", "forgetWalk", "()V"⟩, 4), (⟨"SliceHeap$Memory", "reachAll", "([JI)V"⟩, 4), (⟨"SliceHeap$Memory", "thingOf", "(J)LSliceHeap$Thing;"⟩, 4), (⟨"SliceHeap$Memory", "reach", "(LSliceHeap$Thing;)V"⟩, 4), (⟨"SliceHeap$Memory", "followReached", "()V"⟩, 4), (⟨"SliceHeap$Memory", "place", "(IJ)J"⟩, 4), (⟨"SliceHeap$Memory", "firstUnreached", "()I"⟩, 4), (⟨"SliceHeap$Thing", "fill", "(IJ)V"⟩, 3), (⟨"SliceHeap", "tellFull", "()I"⟩, 7), (⟨"SliceHeap", "thingIn", "(I)LSliceHeap$Thing;"⟩, 7), (⟨"SliceHeap$Thing", "hasValue", "(I)Z"⟩, 3), (⟨"SliceHeapModel", "hasRoom", "(I)Z"⟩, 8), (⟨"SliceHeapModel", "reachable", "()I"⟩, 8), (⟨"SliceHeapModel", "goOver", "()V"⟩, 8)]
theorem lw_r1 : ∀ q ∈ lw_privs_1, lw_okq q := List.forall_mem_cons.mpr ⟨lw_p0, List.forall_mem_cons.mpr ⟨lw_p1, List.forall_mem_cons.mpr ⟨lw_p2, List.forall_mem_cons.mpr ⟨lw_p3, List.forall_mem_cons.mpr ⟨lw_p4, List.forall_mem_cons.mpr ⟨lw_p5, List.forall_mem_cons.mpr ⟨lw_p6, List.forall_mem_cons.mpr ⟨lw_p7, List.forall_mem_cons.mpr ⟨lw_p8, List.forall_mem_cons.mpr ⟨lw_p9, List.forall_mem_cons.mpr ⟨lw_p10, List.forall_mem_cons.mpr ⟨lw_p11, List.forall_mem_cons.mpr ⟨lw_p12, List.forall_mem_cons.mpr ⟨lw_p13, List.forall_mem_cons.mpr ⟨lw_p14, List.forall_mem_cons.mpr ⟨lw_p15, fun _ h => absurd h List.not_mem_nil⟩⟩⟩⟩⟩⟩⟩⟩⟩⟩⟩⟩⟩⟩⟩⟩
theorem lw_p16 : lw_okq (⟨"SliceHeapModel", "reach", "(I)Z"⟩, 8) := ⟨⟨by decide +kernel, by decide +kernel⟩, List.mem_of_getElem? (i := 198) (by decide +kernel), List.mem_of_getElem? (i := 251) (by decide +kernel), List.mem_of_getElem? (i := 252) (by decide +kernel)⟩
theorem lw_p17 : lw_okq (⟨"SliceHeapModel", "move", "(II)V"⟩, 8) := ⟨⟨by decide +kernel, by decide +kernel⟩, List.mem_of_getElem? (i := 198) (by decide +kernel), List.mem_of_getElem? (i := 258) (by decide +kernel), List.mem_of_getElem? (i := 259) (by decide +kernel)⟩
theorem lw_p18 : lw_okq (⟨"SliceHeapModel", "hasObject", "(I)Z"⟩, 8) := ⟨⟨by decide +kernel, by decide +kernel⟩, List.mem_of_getElem? (i := 198) (by decide +kernel), List.mem_of_getElem? (i := 266) (by decide +kernel), List.mem_of_getElem? (i := 267) (by decide +kernel)⟩
theorem lw_p19 : lw_okq (⟨"SliceHeapModel", "empty", "(I)V"⟩, 8) := ⟨⟨by decide +kernel, by decide +kernel⟩, List.mem_of_getElem? (i := 198) (by decide +kernel), List.mem_of_getElem? (i := 274) (by decide +kernel), List.mem_of_getElem? (i := 275) (by decide +kernel)⟩
theorem lw_p20 : lw_okq (⟨"SliceHeapModel", "hasValue", "(II)Z"⟩, 8) := ⟨⟨by decide +kernel, by decide +kernel⟩, List.mem_of_getElem? (i := 198) (by decide +kernel), List.mem_of_getElem? (i := 290) (by decide +kernel), List.mem_of_getElem? (i := 291) (by decide +kernel)⟩
def lw_privs_2 : List (MethodName × Nat) := [(⟨"SliceHeapModel", "reach", "(I)Z"⟩, 8), (⟨"SliceHeapModel", "move", "(II)V"⟩, 8), (⟨"SliceHeapModel", "hasObject", "(I)Z"⟩, 8), (⟨"SliceHeapModel", "empty", "(I)V"⟩, 8), (⟨"SliceHeapModel", "hasValue", "(II)Z"⟩, 8)]
theorem lw_r2 : ∀ q ∈ lw_privs_2, lw_okq q := List.forall_mem_cons.mpr ⟨lw_p16, List.forall_mem_cons.mpr ⟨lw_p17, List.forall_mem_cons.mpr ⟨lw_p18, List.forall_mem_cons.mpr ⟨lw_p19, List.forall_mem_cons.mpr ⟨lw_p20, fun _ h => absurd h List.not_mem_nil⟩⟩⟩⟩⟩
def lw_privs : List (MethodName × Nat) := lw_privs_1 ++ (lw_privs_2)
def lw_tbl : List Cond := k2_sels lw_privs ++ tables_1
theorem lw_privs_ok : ∀ q ∈ lw_privs, lw_okq q := by
  show ∀ q ∈ lw_privs_1 ++ (lw_privs_2), lw_okq q
  exact List.forall_mem_append.mpr ⟨lw_r1, lw_r2⟩
end
section
def RX0 : String := "SliceHeap$Memory"
def TX0 : u_T := fun k => match k with
  | 0 => ("SliceHeap$Memory", "rows", "[LSliceHeap$Thing;", true)
  | 1 => ("SliceHeap$Memory", "reached", "[LSliceHeap$Thing;", true)
  | 2 => ("SliceHeap$Memory", "reachedObjects", "I", false)
  | _ => ("SliceHeap$Memory", "reachedCells", "I", false)
def tyX0 : Nat → FieldType := fun k => match k with
  | 0 => .array (.object "SliceHeap$Thing")
  | 1 => .array (.object "SliceHeap$Thing")
  | 2 => .int
  | _ => .int
abbrev wsX00 : List Cond := u_ws RX0 TX0 4
theorem nmX0 : ∀ a, a < 4 → ∀ b, b < 4 → a ≠ b → (TX0 a).2.1 ≠ (TX0 b).2.1 := by decide +kernel
theorem tyX0_ok : ∀ k, k < 4 → parseFieldDescriptor (TX0 k).2.2.1 = some (tyX0 k) := by decide +kernel
def RX1 : String := "SliceHeap$Thing"
def TX1 : u_T := fun k => match k with
  | 0 => ("SliceHeap$Thing", "values", "[J", true)
  | 1 => ("SliceHeap$Thing", "size", "I", false)
  | _ => ("SliceHeap$Thing", "reached", "Z", false)
def tyX1 : Nat → FieldType := fun k => match k with
  | 0 => .array .long
  | 1 => .int
  | _ => .boolean
abbrev wsX10 : List Cond := u_ws RX1 TX1 3
theorem nmX1 : ∀ a, a < 3 → ∀ b, b < 3 → a ≠ b → (TX1 a).2.1 ≠ (TX1 b).2.1 := by decide +kernel
theorem tyX1_ok : ∀ k, k < 3 → parseFieldDescriptor (TX1 k).2.2.1 = some (tyX1 k) := by decide +kernel
def RX2 : String := "SliceHeap"
def TX2 : u_T := fun k => match k with
  | 0 => ("SliceHeap", "cells", "I", true)
  | 1 => ("SliceHeap", "registers", "[J", true)
  | 2 => ("SliceHeap", "stack", "[J", true)
  | 3 => ("SliceHeap", "memory", "LSliceHeap$Memory;", true)
  | 4 => ("SliceHeap", "stacked", "I", false)
  | 5 => ("SliceHeap", "madeInAll", "I", false)
  | _ => ("SliceHeap", "timesFull", "I", false)
def tyX2 : Nat → FieldType := fun k => match k with
  | 0 => .int
  | 1 => .array .long
  | 2 => .array .long
  | 3 => .object "SliceHeap$Memory"
  | 4 => .int
  | 5 => .int
  | _ => .int
abbrev wsX20 : List Cond := u_ws RX2 TX2 7
theorem nmX2 : ∀ a, a < 7 → ∀ b, b < 7 → a ≠ b → (TX2 a).2.1 ≠ (TX2 b).2.1 := by decide +kernel
theorem tyX2_ok : ∀ k, k < 7 → parseFieldDescriptor (TX2 k).2.2.1 = some (tyX2 k) := by decide +kernel
def RX3 : String := "SliceHeapModel"
def TX3 : u_T := fun k => match k with
  | 0 => ("SliceHeapModel", "cells", "I", true)
  | 1 => ("SliceHeapModel", "kinds", "[B", true)
  | 2 => ("SliceHeapModel", "values", "[I", true)
  | 3 => ("SliceHeapModel", "stacked", "I", false)
  | 4 => ("SliceHeapModel", "made", "I", false)
  | 5 => ("SliceHeapModel", "sizes", "[I", true)
  | 6 => ("SliceHeapModel", "reached", "[Z", true)
  | _ => ("SliceHeapModel", "full", "I", false)
def tyX3 : Nat → FieldType := fun k => match k with
  | 0 => .int
  | 1 => .array .byte
  | 2 => .array .int
  | 3 => .int
  | 4 => .int
  | 5 => .array .int
  | 6 => .array .boolean
  | _ => .int
abbrev wsX30 : List Cond := u_ws RX3 TX3 8
theorem nmX3 : ∀ a, a < 8 → ∀ b, b < 8 → a ≠ b → (TX3 a).2.1 ≠ (TX3 b).2.1 := by decide +kernel
theorem tyX3_ok : ∀ k, k < 8 → parseFieldDescriptor (TX3 k).2.2.1 = some (tyX3 k) := by decide +kernel
def RL : String := "SliceHeapLaw"
def RJ : String := "java/util/Arrays"
abbrev cX2_init : ByteArray := prog_1_method_1_code
def yX2_init : MethodName := ⟨RX2, "<init>", "(I)V"⟩
abbrev cJ_fill : ByteArray := prog_6_method_101_code
def yJ_fill : MethodName := ⟨RJ, "fill", "([JJ)V"⟩
abbrev cX0_init : ByteArray := prog_2_method_1_code
def yX0_init : MethodName := ⟨RX0, "<init>", "(I)V"⟩
abbrev cX2_make : ByteArray := prog_1_method_2_code
def yX2_make : MethodName := ⟨RX2, "make", "(III)I"⟩
abbrev cX2_isRegister : ByteArray := prog_1_method_15_code
def yX2_isRegister : MethodName := ⟨RX2, "isRegister", "(I)Z"⟩
abbrev cX2_hasRoomFor : ByteArray := prog_1_method_18_code
def yX2_hasRoomFor : MethodName := ⟨RX2, "hasRoomFor", "(I)Z"⟩
abbrev cX2_walk : ByteArray := prog_1_method_19_code
def yX2_walk : MethodName := ⟨RX2, "walk", "()V"⟩
abbrev cX0_forgetWalk : ByteArray := prog_2_method_5_code
def yX0_forgetWalk : MethodName := ⟨RX0, "forgetWalk", "()V"⟩
abbrev cX0_reachAll : ByteArray := prog_2_method_6_code
def yX0_reachAll : MethodName := ⟨RX0, "reachAll", "([JI)V"⟩
abbrev cX0_thingOf : ByteArray := prog_2_method_2_code
def yX0_thingOf : MethodName := ⟨RX0, "thingOf", "(J)LSliceHeap$Thing;"⟩
abbrev cX0_reach : ByteArray := prog_2_method_7_code
def yX0_reach : MethodName := ⟨RX0, "reach", "(LSliceHeap$Thing;)V"⟩
abbrev cX0_followReached : ByteArray := prog_2_method_8_code
def yX0_followReached : MethodName := ⟨RX0, "followReached", "()V"⟩
abbrev cX0_place : ByteArray := prog_2_method_3_code
def yX0_place : MethodName := ⟨RX0, "place", "(IJ)J"⟩
abbrev cX0_firstUnreached : ByteArray := prog_2_method_4_code
def yX0_firstUnreached : MethodName := ⟨RX0, "firstUnreached", "()I"⟩
abbrev cX1_init : ByteArray := prog_3_method_1_code
def yX1_init : MethodName := ⟨RX1, "<init>", "()V"⟩
abbrev cX1_fill : ByteArray := prog_3_method_3_code
def yX1_fill : MethodName := ⟨RX1, "fill", "(IJ)V"⟩
abbrev cX2_tellFull : ByteArray := prog_1_method_17_code
def yX2_tellFull : MethodName := ⟨RX2, "tellFull", "()I"⟩
abbrev cX2_grow : ByteArray := prog_1_method_3_code
def yX2_grow : MethodName := ⟨RX2, "grow", "(II)I"⟩
abbrev cX2_thingIn : ByteArray := prog_1_method_16_code
def yX2_thingIn : MethodName := ⟨RX2, "thingIn", "(I)LSliceHeap$Thing;"⟩
abbrev cX2_shrink : ByteArray := prog_1_method_4_code
def yX2_shrink : MethodName := ⟨RX2, "shrink", "(I)I"⟩
abbrev cX2_number : ByteArray := prog_1_method_5_code
def yX2_number : MethodName := ⟨RX2, "number", "(II)Z"⟩
abbrev cX2_copy : ByteArray := prog_1_method_6_code
def yX2_copy : MethodName := ⟨RX2, "copy", "(II)Z"⟩
abbrev cX2_get : ByteArray := prog_1_method_7_code
def yX2_get : MethodName := ⟨RX2, "get", "(III)Z"⟩
abbrev cX1_hasValue : ByteArray := prog_3_method_2_code
def yX1_hasValue : MethodName := ⟨RX1, "hasValue", "(I)Z"⟩
abbrev cX2_set : ByteArray := prog_1_method_8_code
def yX2_set : MethodName := ⟨RX2, "set", "(III)Z"⟩
abbrev cX2_push : ByteArray := prog_1_method_9_code
def yX2_push : MethodName := ⟨RX2, "push", "(I)I"⟩
abbrev cX2_pop : ByteArray := prog_1_method_10_code
def yX2_pop : MethodName := ⟨RX2, "pop", "(I)I"⟩
abbrev cX2_look : ByteArray := prog_1_method_11_code
def yX2_look : MethodName := ⟨RX2, "look", "(I)I"⟩
abbrev cX2_numberIn : ByteArray := prog_1_method_12_code
def yX2_numberIn : MethodName := ⟨RX2, "numberIn", "(I)I"⟩
abbrev cX2_same : ByteArray := prog_1_method_13_code
def yX2_same : MethodName := ⟨RX2, "same", "(II)I"⟩
abbrev cX2_count : ByteArray := prog_1_method_14_code
def yX2_count : MethodName := ⟨RX2, "count", "(I)I"⟩
abbrev cL_cell : ByteArray := method_2_code
def yL_cell : MethodName := ⟨RL, "cell", "([II)I"⟩
abbrev cX3_init : ByteArray := prog_5_method_1_code
def yX3_init : MethodName := ⟨RX3, "<init>", "(I)V"⟩
abbrev cX3_make : ByteArray := prog_5_method_11_code
def yX3_make : MethodName := ⟨RX3, "make", "(III)I"⟩
abbrev cX3_isRegister : ByteArray := prog_5_method_2_code
def yX3_isRegister : MethodName := ⟨RX3, "isRegister", "(I)Z"⟩
abbrev cX3_hasRoom : ByteArray := prog_5_method_10_code
def yX3_hasRoom : MethodName := ⟨RX3, "hasRoom", "(I)Z"⟩
abbrev cX3_reachable : ByteArray := prog_5_method_9_code
def yX3_reachable : MethodName := ⟨RX3, "reachable", "()I"⟩
abbrev cX3_goOver : ByteArray := prog_5_method_8_code
def yX3_goOver : MethodName := ⟨RX3, "goOver", "()V"⟩
abbrev cX3_reach : ByteArray := prog_5_method_7_code
def yX3_reach : MethodName := ⟨RX3, "reach", "(I)Z"⟩
abbrev cX3_placeOf : ByteArray := prog_5_method_4_code
def yX3_placeOf : MethodName := ⟨RX3, "placeOf", "(II)I"⟩
abbrev cX3_move : ByteArray := prog_5_method_5_code
def yX3_move : MethodName := ⟨RX3, "move", "(II)V"⟩
abbrev cX3_grow : ByteArray := prog_5_method_12_code
def yX3_grow : MethodName := ⟨RX3, "grow", "(II)I"⟩
abbrev cX3_hasObject : ByteArray := prog_5_method_3_code
def yX3_hasObject : MethodName := ⟨RX3, "hasObject", "(I)Z"⟩
abbrev cX3_shrink : ByteArray := prog_5_method_13_code
def yX3_shrink : MethodName := ⟨RX3, "shrink", "(I)I"⟩
abbrev cX3_empty : ByteArray := prog_5_method_6_code
def yX3_empty : MethodName := ⟨RX3, "empty", "(I)V"⟩
abbrev cX3_number : ByteArray := prog_5_method_14_code
def yX3_number : MethodName := ⟨RX3, "number", "(II)Z"⟩
abbrev cX3_copy : ByteArray := prog_5_method_15_code
def yX3_copy : MethodName := ⟨RX3, "copy", "(II)Z"⟩
abbrev cX3_get : ByteArray := prog_5_method_17_code
def yX3_get : MethodName := ⟨RX3, "get", "(III)Z"⟩
abbrev cX3_hasValue : ByteArray := prog_5_method_16_code
def yX3_hasValue : MethodName := ⟨RX3, "hasValue", "(II)Z"⟩
abbrev cX3_set : ByteArray := prog_5_method_18_code
def yX3_set : MethodName := ⟨RX3, "set", "(III)Z"⟩
abbrev cX3_push : ByteArray := prog_5_method_19_code
def yX3_push : MethodName := ⟨RX3, "push", "(I)I"⟩
abbrev cX3_pop : ByteArray := prog_5_method_20_code
def yX3_pop : MethodName := ⟨RX3, "pop", "(I)I"⟩
abbrev cX3_look : ByteArray := prog_5_method_21_code
def yX3_look : MethodName := ⟨RX3, "look", "(I)I"⟩
abbrev cX3_numberIn : ByteArray := prog_5_method_22_code
def yX3_numberIn : MethodName := ⟨RX3, "numberIn", "(I)I"⟩
abbrev cX3_same : ByteArray := prog_5_method_23_code
def yX3_same : MethodName := ⟨RX3, "same", "(II)I"⟩
abbrev cX3_count : ByteArray := prog_5_method_24_code
def yX3_count : MethodName := ⟨RX3, "count", "(I)I"⟩
abbrev vwCl : List vw_C := [(RX0, TX0, 4), (RX1, TX1, 3), (RX2, TX2, 7), (RX3, TX3, 8)]
/-- the words of all methods -/
def AL : List Cond := [.initialized "SliceHeapLaw",
  .initialized "SliceHeap",
  .initialized "java/util/Arrays",
  .initialized "SliceHeap$Memory",
  .initialized "SliceHeapModel",
  .initialized "SliceHeap$Thing",
  .classLink "SliceHeapLaw" 7 "SliceHeap",
  .instantiable "SliceHeap" 7,
  .methodLink "SliceHeapLaw" 15 yX2_init,
  .instanceMethod yX2_init,
  .code yX2_init prog_1_method_1_code 2 (Option.none : Option Jvm.ClassFile.FieldType),
  .methodLink "SliceHeap" 3 objectInit,
  .instanceMethod objectInit,
  .code objectInit object_method_1_code 1 (Option.none : Option Jvm.ClassFile.FieldType),
  .constantLong "SliceHeap" 17 4294967296,
  .methodLink "SliceHeap" 19 yJ_fill,
  .static yJ_fill,
  .code yJ_fill prog_6_method_101_code 5 (Option.none : Option Jvm.ClassFile.FieldType),
  .classLink "SliceHeap" 28 "SliceHeap$Memory",
  .instantiable "SliceHeap$Memory" 4,
  .instanceMethod yX0_init,
  .code yX0_init prog_2_method_1_code 2 (Option.none : Option Jvm.ClassFile.FieldType),
  .methodLink "SliceHeap$Memory" 3 objectInit,
  .classLink "SliceHeap$Memory" 9 "SliceHeap$Thing",
  .fieldLink "SliceHeap$Memory" 11 "SliceHeap$Memory" "rows" "[LSliceHeap$Thing;",
  .fieldLink "SliceHeap$Memory" 17 "SliceHeap$Memory" "reached" "[LSliceHeap$Thing;",
  .fieldLink "SliceHeap$Memory" 36 "SliceHeap$Memory" "reachedObjects" "I",
  .fieldLink "SliceHeap$Memory" 40 "SliceHeap$Memory" "reachedCells" "I",
  .laysFinal "SliceHeap$Memory" "SliceHeap$Memory" "rows" "[LSliceHeap$Thing;",
  .laysFinal "SliceHeap$Memory" "SliceHeap$Memory" "reached" "[LSliceHeap$Thing;",
  .lays "SliceHeap$Memory" "SliceHeap$Memory" "reachedObjects" "I",
  .lays "SliceHeap$Memory" "SliceHeap$Memory" "reachedCells" "I",
  .arrayClass .long,
  .fieldLink "SliceHeap" 9 "SliceHeap" "cells" "I",
  .fieldLink "SliceHeap" 13 "SliceHeap" "registers" "[J",
  .fieldLink "SliceHeap" 25 "SliceHeap" "stack" "[J",
  .fieldLink "SliceHeap" 33 "SliceHeap" "memory" "LSliceHeap$Memory;",
  .fieldLink "SliceHeap" 70 "SliceHeap" "stacked" "I",
  .fieldLink "SliceHeap" 52 "SliceHeap" "madeInAll" "I",
  .fieldLink "SliceHeap" 82 "SliceHeap" "timesFull" "I",
  .laysFinal "SliceHeap" "SliceHeap" "cells" "I",
  .laysFinal "SliceHeap" "SliceHeap" "registers" "[J",
  .laysFinal "SliceHeap" "SliceHeap" "stack" "[J",
  .laysFinal "SliceHeap" "SliceHeap" "memory" "LSliceHeap$Memory;",
  .lays "SliceHeap" "SliceHeap" "stacked" "I",
  .lays "SliceHeap" "SliceHeap" "madeInAll" "I",
  .lays "SliceHeap" "SliceHeap" "timesFull" "I",
  .methodLink "SliceHeapLaw" 21 yX2_make,
  .instanceMethod yX2_make,
  .code yX2_make prog_1_method_2_code 6 (Option.some .int),
  .methodLink "SliceHeap" 37 yX2_isRegister,
  .static yX2_isRegister,
  .code yX2_isRegister prog_1_method_15_code 1 (Option.some .boolean),
  .methodLink "SliceHeap" 41 yX2_hasRoomFor,
  .instanceMethod yX2_hasRoomFor,
  .code yX2_hasRoomFor prog_1_method_18_code 2 (Option.some .boolean),
  .methodLink "SliceHeap" 73 yX2_walk,
  .instanceMethod yX2_walk,
  .code yX2_walk prog_1_method_19_code 1 (Option.none : Option Jvm.ClassFile.FieldType),
  .instanceMethod yX0_forgetWalk,
  .code yX0_forgetWalk prog_2_method_5_code 2 (Option.none : Option Jvm.ClassFile.FieldType),
  .instanceMethod yX0_reachAll,
  .code yX0_reachAll prog_2_method_6_code 4 (Option.none : Option Jvm.ClassFile.FieldType),
  .methodLink "SliceHeap$Memory" 43 yX0_thingOf,
  .instanceMethod yX0_thingOf,
  .code yX0_thingOf prog_2_method_2_code 5 (Option.some (.object "SliceHeap$Thing")),
  .constantLong "SliceHeap$Memory" 20 4294967297,
  .methodLink "SliceHeap$Memory" 47 yX0_reach,
  .instanceMethod yX0_reach,
  .code yX0_reach prog_2_method_7_code 2 (Option.none : Option Jvm.ClassFile.FieldType),
  .instanceMethod yX0_followReached,
  .code yX0_followReached prog_2_method_8_code 3 (Option.none : Option Jvm.ClassFile.FieldType),
  .methodLink "SliceHeap$Memory" 58 yX0_reachAll,
  .instanceMethod yX0_place,
  .code yX0_place prog_2_method_3_code 5 (Option.some .long),
  .methodLink "SliceHeap$Memory" 22 yX0_firstUnreached,
  .instanceMethod yX0_firstUnreached,
  .code yX0_firstUnreached prog_2_method_4_code 2 (Option.some .int),
  .constantLong "SliceHeap$Memory" 26 4294967296,
  .instantiable "SliceHeap$Thing" 3,
  .instanceMethod yX1_init,
  .code yX1_init prog_3_method_1_code 1 (Option.none : Option Jvm.ClassFile.FieldType),
  .methodLink "SliceHeap$Thing" 3 objectInit,
  .fieldLink "SliceHeap$Thing" 9 "SliceHeap$Thing" "values" "[J",
  .fieldLink "SliceHeap$Thing" 15 "SliceHeap$Thing" "size" "I",
  .laysFinal "SliceHeap$Thing" "SliceHeap$Thing" "values" "[J",
  .lays "SliceHeap$Thing" "SliceHeap$Thing" "size" "I",
  .lays "SliceHeap$Thing" "SliceHeap$Thing" "reached" "Z",
  .instanceMethod yX1_fill,
  .code yX1_fill prog_3_method_3_code 5 (Option.none : Option Jvm.ClassFile.FieldType),
  .methodLink "SliceHeap" 48 yX2_tellFull,
  .instanceMethod yX2_tellFull,
  .code yX2_tellFull prog_1_method_17_code 1 (Option.some .int),
  .methodLink "SliceHeapLaw" 26 yX2_grow,
  .instanceMethod yX2_grow,
  .code yX2_grow prog_1_method_3_code 4 (Option.some .int),
  .methodLink "SliceHeap" 55 yX2_thingIn,
  .instanceMethod yX2_thingIn,
  .code yX2_thingIn prog_1_method_16_code 2 (Option.some (.object "SliceHeap$Thing")),
  .methodLink "SliceHeapLaw" 31 yX2_shrink,
  .instanceMethod yX2_shrink,
  .code yX2_shrink prog_1_method_4_code 3 (Option.some .int),
  .methodLink "SliceHeapLaw" 36 yX2_number,
  .instanceMethod yX2_number,
  .code yX2_number prog_1_method_5_code 3 (Option.some .boolean),
  .methodLink "SliceHeapLaw" 41 yX2_copy,
  .instanceMethod yX2_copy,
  .code yX2_copy prog_1_method_6_code 3 (Option.some .boolean),
  .methodLink "SliceHeapLaw" 45 yX2_get,
  .instanceMethod yX2_get,
  .code yX2_get prog_1_method_7_code 5 (Option.some .boolean),
  .instanceMethod yX1_hasValue,
  .code yX1_hasValue prog_3_method_2_code 2 (Option.some .boolean),
  .methodLink "SliceHeapLaw" 50 yX2_set,
  .instanceMethod yX2_set,
  .code yX2_set prog_1_method_8_code 5 (Option.some .boolean),
  .methodLink "SliceHeapLaw" 54 yX2_push,
  .instanceMethod yX2_push,
  .code yX2_push prog_1_method_9_code 2 (Option.some .int),
  .methodLink "SliceHeapLaw" 58 yX2_pop,
  .instanceMethod yX2_pop,
  .code yX2_pop prog_1_method_10_code 2 (Option.some .int),
  .methodLink "SliceHeapLaw" 62 yX2_look,
  .instanceMethod yX2_look,
  .code yX2_look prog_1_method_11_code 3 (Option.some .int),
  .methodLink "SliceHeapLaw" 66 yX2_numberIn,
  .instanceMethod yX2_numberIn,
  .code yX2_numberIn prog_1_method_12_code 2 (Option.some .int),
  .methodLink "SliceHeapLaw" 70 yX2_same,
  .instanceMethod yX2_same,
  .code yX2_same prog_1_method_13_code 3 (Option.some .int),
  .methodLink "SliceHeapLaw" 74 yX2_count,
  .instanceMethod yX2_count,
  .code yX2_count prog_1_method_14_code 2 (Option.some .int),
  .methodLink "SliceHeapLaw" 9 yL_cell,
  .static yL_cell,
  .code yL_cell method_2_code 2 (Option.some .int),
  .classLink "SliceHeapLaw" 18 "SliceHeapModel",
  .instantiable "SliceHeapModel" 8,
  .methodLink "SliceHeapLaw" 20 yX3_init,
  .instanceMethod yX3_init,
  .code yX3_init prog_5_method_1_code 2 (Option.none : Option Jvm.ClassFile.FieldType),
  .methodLink "SliceHeapModel" 1 objectInit,
  .fieldLink "SliceHeapModel" 24 "SliceHeapModel" "cells" "I",
  .fieldLink "SliceHeapModel" 7 "SliceHeapModel" "kinds" "[B",
  .fieldLink "SliceHeapModel" 13 "SliceHeapModel" "values" "[I",
  .fieldLink "SliceHeapModel" 35 "SliceHeapModel" "stacked" "I",
  .fieldLink "SliceHeapModel" 32 "SliceHeapModel" "made" "I",
  .fieldLink "SliceHeapModel" 17 "SliceHeapModel" "sizes" "[I",
  .fieldLink "SliceHeapModel" 20 "SliceHeapModel" "reached" "[Z",
  .fieldLink "SliceHeapModel" 52 "SliceHeapModel" "full" "I",
  .laysFinal "SliceHeapModel" "SliceHeapModel" "cells" "I",
  .laysFinal "SliceHeapModel" "SliceHeapModel" "kinds" "[B",
  .laysFinal "SliceHeapModel" "SliceHeapModel" "values" "[I",
  .lays "SliceHeapModel" "SliceHeapModel" "stacked" "I",
  .lays "SliceHeapModel" "SliceHeapModel" "made" "I",
  .laysFinal "SliceHeapModel" "SliceHeapModel" "sizes" "[I",
  .laysFinal "SliceHeapModel" "SliceHeapModel" "reached" "[Z",
  .lays "SliceHeapModel" "SliceHeapModel" "full" "I",
  .arrayClass .byte,
  .arrayClass .int,
  .arrayClass .boolean,
  .methodLink "SliceHeapLaw" 25 yX3_make,
  .instanceMethod yX3_make,
  .code yX3_make prog_5_method_11_code 5 (Option.some .int),
  .methodLink "SliceHeapModel" 28 yX3_isRegister,
  .static yX3_isRegister,
  .code yX3_isRegister prog_5_method_2_code 1 (Option.some .boolean),
  .methodLink "SliceHeapModel" 55 yX3_hasRoom,
  .instanceMethod yX3_hasRoom,
  .code yX3_hasRoom prog_5_method_10_code 3 (Option.some .boolean),
  .methodLink "SliceHeapModel" 48 yX3_reachable,
  .instanceMethod yX3_reachable,
  .code yX3_reachable prog_5_method_9_code 3 (Option.some .int),
  .methodLink "SliceHeapModel" 45 yX3_goOver,
  .instanceMethod yX3_goOver,
  .code yX3_goOver prog_5_method_8_code 4 (Option.none : Option Jvm.ClassFile.FieldType),
  .methodLink "SliceHeapModel" 38 yX3_reach,
  .instanceMethod yX3_reach,
  .code yX3_reach prog_5_method_7_code 2 (Option.some .boolean),
  .methodLink "SliceHeapModel" 41 yX3_placeOf,
  .static yX3_placeOf,
  .code yX3_placeOf prog_5_method_4_code 2 (Option.some .int),
  .methodLink "SliceHeapModel" 58 yX3_move,
  .instanceMethod yX3_move,
  .code yX3_move prog_5_method_5_code 3 (Option.none : Option Jvm.ClassFile.FieldType),
  .methodLink "SliceHeapLaw" 30 yX3_grow,
  .instanceMethod yX3_grow,
  .code yX3_grow prog_5_method_12_code 4 (Option.some .int),
  .methodLink "SliceHeapModel" 62 yX3_hasObject,
  .instanceMethod yX3_hasObject,
  .code yX3_hasObject prog_5_method_3_code 2 (Option.some .boolean),
  .methodLink "SliceHeapLaw" 35 yX3_shrink,
  .instanceMethod yX3_shrink,
  .code yX3_shrink prog_5_method_13_code 3 (Option.some .int),
  .methodLink "SliceHeapModel" 65 yX3_empty,
  .instanceMethod yX3_empty,
  .code yX3_empty prog_5_method_6_code 2 (Option.none : Option Jvm.ClassFile.FieldType),
  .methodLink "SliceHeapLaw" 40 yX3_number,
  .instanceMethod yX3_number,
  .code yX3_number prog_5_method_14_code 3 (Option.some .boolean),
  .methodLink "SliceHeapLaw" 44 yX3_copy,
  .instanceMethod yX3_copy,
  .code yX3_copy prog_5_method_15_code 3 (Option.some .boolean),
  .methodLink "SliceHeapLaw" 49 yX3_get,
  .instanceMethod yX3_get,
  .code yX3_get prog_5_method_17_code 4 (Option.some .boolean),
  .methodLink "SliceHeapModel" 69 yX3_hasValue,
  .instanceMethod yX3_hasValue,
  .code yX3_hasValue prog_5_method_16_code 3 (Option.some .boolean),
  .methodLink "SliceHeapLaw" 53 yX3_set,
  .instanceMethod yX3_set,
  .code yX3_set prog_5_method_18_code 4 (Option.some .boolean),
  .methodLink "SliceHeapLaw" 57 yX3_push,
  .instanceMethod yX3_push,
  .code yX3_push prog_5_method_19_code 2 (Option.some .int),
  .methodLink "SliceHeapLaw" 61 yX3_pop,
  .instanceMethod yX3_pop,
  .code yX3_pop prog_5_method_20_code 2 (Option.some .int),
  .methodLink "SliceHeapLaw" 65 yX3_look,
  .instanceMethod yX3_look,
  .code yX3_look prog_5_method_21_code 2 (Option.some .int),
  .methodLink "SliceHeapLaw" 69 yX3_numberIn,
  .instanceMethod yX3_numberIn,
  .code yX3_numberIn prog_5_method_22_code 2 (Option.some .int),
  .methodLink "SliceHeapLaw" 73 yX3_same,
  .instanceMethod yX3_same,
  .code yX3_same prog_5_method_23_code 3 (Option.some .int),
  .methodLink "SliceHeapLaw" 77 yX3_count,
  .instanceMethod yX3_count,
  .code yX3_count prog_5_method_24_code 5 (Option.some .int),
  .selects "SliceHeap" yX2_hasRoomFor yX2_hasRoomFor,
  .selects "SliceHeap" yX2_walk yX2_walk,
  .selects "SliceHeap$Memory" yX0_forgetWalk yX0_forgetWalk,
  .selects "SliceHeap$Memory" yX0_reachAll yX0_reachAll,
  .selects "SliceHeap$Memory" yX0_thingOf yX0_thingOf,
  .selects "SliceHeap$Memory" yX0_reach yX0_reach,
  .selects "SliceHeap$Memory" yX0_followReached yX0_followReached,
  .selects "SliceHeap$Memory" yX0_place yX0_place,
  .selects "SliceHeap$Memory" yX0_firstUnreached yX0_firstUnreached,
  .selects "SliceHeap$Thing" yX1_fill yX1_fill,
  .selects "SliceHeap" yX2_tellFull yX2_tellFull,
  .selects "SliceHeap" yX2_thingIn yX2_thingIn,
  .selects "SliceHeap$Thing" yX1_hasValue yX1_hasValue,
  .selects "SliceHeapModel" yX3_hasRoom yX3_hasRoom,
  .selects "SliceHeapModel" yX3_reachable yX3_reachable,
  .selects "SliceHeapModel" yX3_goOver yX3_goOver,
  .selects "SliceHeapModel" yX3_reach yX3_reach,
  .selects "SliceHeapModel" yX3_move yX3_move,
  .selects "SliceHeapModel" yX3_hasObject yX3_hasObject,
  .selects "SliceHeapModel" yX3_empty yX3_empty,
  .selects "SliceHeapModel" yX3_hasValue yX3_hasValue,
  .selects "SliceHeap" yX2_make yX2_make,
  .selects "SliceHeap" yX2_grow yX2_grow,
  .selects "SliceHeap" yX2_shrink yX2_shrink,
  .selects "SliceHeap" yX2_number yX2_number,
  .selects "SliceHeap" yX2_copy yX2_copy,
  .selects "SliceHeap" yX2_get yX2_get,
  .selects "SliceHeap" yX2_set yX2_set,
  .selects "SliceHeap" yX2_push yX2_push,
  .selects "SliceHeap" yX2_pop yX2_pop,
  .selects "SliceHeap" yX2_look yX2_look,
  .selects "SliceHeap" yX2_numberIn yX2_numberIn,
  .selects "SliceHeap" yX2_same yX2_same,
  .selects "SliceHeap" yX2_count yX2_count,
  .selects "SliceHeapModel" yX3_make yX3_make,
  .selects "SliceHeapModel" yX3_grow yX3_grow,
  .selects "SliceHeapModel" yX3_shrink yX3_shrink,
  .selects "SliceHeapModel" yX3_number yX3_number,
  .selects "SliceHeapModel" yX3_copy yX3_copy,
  .selects "SliceHeapModel" yX3_get yX3_get,
  .selects "SliceHeapModel" yX3_set yX3_set,
  .selects "SliceHeapModel" yX3_push yX3_push,
  .selects "SliceHeapModel" yX3_pop yX3_pop,
  .selects "SliceHeapModel" yX3_look yX3_look,
  .selects "SliceHeapModel" yX3_numberIn yX3_numberIn,
  .selects "SliceHeapModel" yX3_same yX3_same,
  .selects "SliceHeapModel" yX3_count yX3_count]
def NW : List Cond := [.methodLinkNest "SliceHeap" 30 yX0_init "SliceHeap",
  .fieldLinkNest "SliceHeap" 79 "SliceHeap$Memory" "reachedObjects" "I" "SliceHeap",
  .fieldLinkNest "SliceHeap" 76 "SliceHeap$Memory" "reachedCells" "I" "SliceHeap",
  .methodLinkNest "SliceHeap" 89 yX0_forgetWalk "SliceHeap",
  .methodLinkNest "SliceHeap" 92 yX0_reachAll "SliceHeap",
  .methodLinkNest "SliceHeap" 96 yX0_followReached "SliceHeap",
  .methodLinkNest "SliceHeap" 44 yX0_place "SliceHeap",
  .methodLinkNest "SliceHeap$Memory" 28 yX1_init "SliceHeap",
  .fieldLinkNest "SliceHeap" 64 "SliceHeap$Thing" "values" "[J" "SliceHeap",
  .fieldLinkNest "SliceHeap$Memory" 54 "SliceHeap$Thing" "values" "[J" "SliceHeap",
  .fieldLinkNest "SliceHeap" 59 "SliceHeap$Thing" "size" "I" "SliceHeap",
  .fieldLinkNest "SliceHeap$Memory" 51 "SliceHeap$Thing" "size" "I" "SliceHeap",
  .fieldLinkNest "SliceHeap$Memory" 33 "SliceHeap$Thing" "reached" "Z" "SliceHeap",
  .methodLinkNest "SliceHeap$Memory" 29 yX1_fill "SliceHeap",
  .methodLinkNest "SliceHeap" 85 yX0_thingOf "SliceHeap",
  .methodLinkNest "SliceHeap" 67 yX1_hasValue "SliceHeap"]
set_option maxRecDepth 100000 in
theorem al_eq : AL = ([21, 22, 23, 24, 25, 26, 27, 28, 29, 30, 31, 32, 33, 34, 35, 36, 37, 38, 39, 40, 42, 43, 44, 45, 47, 48, 49, 51, 53, 55, 57, 59, 62, 63, 64, 65, 66, 67, 68, 69, 70, 72, 74, 76, 78, 80, 82, 85, 86, 88, 89, 90, 91, 92, 94, 95, 96, 98, 99, 102, 103, 106, 107, 108, 110, 111, 112, 113, 115, 116, 119, 120, 121, 124, 125, 126, 128, 129, 130, 131, 133, 134, 135, 136, 139, 143, 145, 147, 152, 153, 154, 156, 157, 158, 159, 161, 162, 164, 165, 167, 168, 170, 171, 172, 174, 175, 176, 178, 179, 180, 182, 185, 186, 187, 188, 190, 191, 192, 194, 195, 196, 198, 199, 200, 202, 203, 204, 206, 207, 208, 210, 211, 212, 214, 215, 216, 217, 218, 219, 220, 221, 222, 223, 224, 225, 226, 227, 228, 229, 230, 231, 232, 234, 236, 238, 240, 242, 244, 246, 249, 250, 251, 252, 253, 255, 256, 257, 258, 259, 261, 262, 263, 265, 266, 267, 269, 270, 271, 273, 274, 275, 276, 277, 278, 280, 281, 282, 283, 285, 286, 288, 289, 290, 291, 293, 294, 296, 297, 298, 299, 301, 302, 303, 305, 306, 307, 309, 310, 312, 313, 314, 315, 317, 318, 319, 321, 322, 323, 325, 326, 327, 329, 330, 331, 333, 334, 335, 337, 338, 339, 341, 0, 1, 2, 3, 4, 5, 6, 7, 8, 9, 10, 11, 12, 13, 14, 15, 16, 17, 18, 19, 20, 87, 160, 169, 173, 177, 181, 189, 193, 197, 201, 205, 209, 213, 254, 284, 292, 300, 304, 308, 316, 320, 324, 328, 332, 336, 340] : List Nat).filterMap (fun i => lw_tbl[i]?) := by decide +kernel
theorem al_in : ∀ w ∈ AL, w ∈ lw_tbl := by
  intro w hw
  rw [al_eq] at hw
  obtain ⟨i, -, hi⟩ := List.mem_filterMap.mp hw
  exact List.mem_of_getElem? hi
set_option maxRecDepth 100000 in
theorem nw_eq : NW = ([41, 50, 52, 100, 104, 117, 122, 132, 137, 138, 140, 141, 142, 150, 166, 183] : List Nat).filterMap (fun i => lw_tbl[i]?) := by decide +kernel
theorem nw_in : ∀ w ∈ NW, w ∈ lw_tbl := by
  intro w hw
  rw [nw_eq] at hw
  obtain ⟨i, -, hi⟩ := List.mem_filterMap.mp hw
  exact List.mem_of_getElem? hi
set_option maxRecDepth 100000 in
theorem al_all : AL.all goodWord = true := by decide +kernel
theorem al_good : ∀ w ∈ AL, (w.onTables && w.keeps) = true ∨ ∃ ty, w = .arrayClass ty := fun w h => good_of_word (List.all_eq_true.mp al_all w h)
theorem al {w : Cond} (i : Nat) (h : AL[i]? = some w) : w ∈ AL := List.mem_of_getElem? h
theorem am {a w : Cond} (i : Nat) (h : AL[i]? = some w) : w ∈ a :: AL := List.mem_cons_of_mem _ (List.mem_of_getElem? h)
theorem nw {w : Cond} (i : Nat) (h : NW[i]? = some w) : w ∈ NW := List.mem_of_getElem? h
theorem gd0 {a c : Cond} (hc : c ∈ AL) : GoodIn (a :: AL) (c :: AL) := fun w hw => by
  have h : w ∈ AL := by
    rcases List.mem_cons.mp hw with h | h
    · rw [h]; exact hc
    · exact h
  exact ⟨List.mem_cons_of_mem _ h, al_good w h⟩
theorem gdL {a : Cond} {l ws : List Cond} (hl : ∀ w ∈ l, w ∈ AL) (h : GoodIn (a :: AL) ws) : GoodIn (a :: AL) (l ++ ws) := fun w hw => by
  rcases List.mem_append.mp hw with q | q
  · exact ⟨List.mem_cons_of_mem _ (hl w q), al_good w (hl w q)⟩
  · exact h w q
theorem gdV {a c : Cond} {own C : String} {idx : Nat} {y : MethodName} (h1 : .methodLink own idx y ∈ AL) (h2 : .instanceMethod y ∈ AL) (h3 : .selects C y y ∈ AL) (h4 : .initialized C ∈ AL) (hc : c ∈ AL) : GoodIn (a :: AL) (wsV own idx C y (c :: AL)) :=
  gdL (fun w hw => by
    simp only [List.mem_cons, List.not_mem_nil, or_false] at hw
    rcases hw with rfl | rfl | rfl | rfl
    · exact h1
    · exact h2
    · exact h3
    · exact h4) (gd0 hc)
theorem gdS {a c : Cond} {own : String} {idx : Nat} {y : MethodName} (h1 : .methodLink own idx y ∈ AL) (h2 : .static y ∈ AL) (h4 : .initialized own ∈ AL) (hc : c ∈ AL) : GoodIn (a :: AL) (wsS own idx y (c :: AL)) :=
  gdL (fun w hw => by
    simp only [List.mem_cons, List.not_mem_nil, or_false] at hw
    rcases hw with rfl | rfl | rfl
    · exact h1
    · exact h2
    · exact h4) (gd0 hc)
theorem gdO {a c : Cond} {own : String} {idx : Nat} {y : MethodName} (h1 : .methodLink own idx y ∈ AL) (h2 : .static y ∈ AL) (h4 : .initialized y.cls ∈ AL) (hc : c ∈ AL) : GoodIn (a :: AL) (va_wsS own idx y (c :: AL)) :=
  gdL (fun w hw => by
    simp only [List.mem_cons, List.not_mem_nil, or_false] at hw
    rcases hw with rfl | rfl | rfl
    · exact h1
    · exact h2
    · exact h4) (gd0 hc)
/-- the words of a nest, and the kind of the rows' array -/
def NF (U : State) : Prop := (∀ w ∈ NW, va_Nw w U) ∧ va_AO "SliceHeap$Thing" U
def isN : Cond → Bool
  | .fieldLinkNest .. => true
  | .methodLinkNest .. => true
  | _ => false
theorem nw_n : ∀ w ∈ NW, isN w = true := by decide +kernel
theorem va_Nw.sameN {w : Cond} (h : isN w = true) {u U : State} (hv : u.vm = U.vm) (hZ : va_Nw w u) : va_Nw w U := by
  cases w <;> first | (simp [isN] at h; done) | exact va_Nw.same rfl hv hZ
theorem va_Nw.warmN {w : Cond} (h : isN w = true) {s U : State} (hW : s.WarmedH U.vm) (hZ : va_Nw w s) : va_Nw w U := by
  cases w <;> first | (simp [isN] at h; done) | exact va_Nw.warmF hW hZ | exact va_Nw.warmM hW hZ
theorem NF.same {u U : State} (hv : u.vm = U.vm) (h : NF u) : NF U := ⟨fun w hw => va_Nw.sameN (nw_n w hw) hv (h.1 w hw), va_AO.moved (by rw [hv]; exact Vm.Alike.refl _) h.2⟩
theorem NF.warm {s U : State} (hW : s.WarmedH U.vm) (h : NF s) : NF U := ⟨fun w hw => va_Nw.warmN (nw_n w hw) hW (h.1 w hw), va_AO.moved hW.alike h.2⟩
theorem nw_on : ∀ w ∈ NW, w.onTables = true := by decide +kernel
theorem ao_in : Cond.arrayOver (.object "SliceHeap$Thing") ∈ lw_tbl := List.mem_of_getElem? (i := 46) (by decide +kernel)
theorem inX0 : ∀ w ∈ u_ws RX0 TX0 4, w ∈ AL := by decide +kernel
theorem imX0 {a : Cond} : ∀ w ∈ u_ws RX0 TX0 4, w ∈ a :: AL := fun w h => List.mem_cons_of_mem _ (inX0 w h)
theorem inX1 : ∀ w ∈ u_ws RX1 TX1 3, w ∈ AL := by decide +kernel
theorem imX1 {a : Cond} : ∀ w ∈ u_ws RX1 TX1 3, w ∈ a :: AL := fun w h => List.mem_cons_of_mem _ (inX1 w h)
theorem inX2 : ∀ w ∈ u_ws RX2 TX2 7, w ∈ AL := by decide +kernel
theorem imX2 {a : Cond} : ∀ w ∈ u_ws RX2 TX2 7, w ∈ a :: AL := fun w h => List.mem_cons_of_mem _ (inX2 w h)
theorem inX3 : ∀ w ∈ u_ws RX3 TX3 8, w ∈ AL := by decide +kernel
theorem imX3 {a : Cond} : ∀ w ∈ u_ws RX3 TX3 8, w ∈ a :: AL := fun w h => List.mem_cons_of_mem _ (inX3 w h)
abbrev wX2_init : List Cond := .code yX2_init cX2_init 2 none :: AL
abbrev wJ_fill : List Cond := .code yJ_fill cJ_fill 5 none :: AL
abbrev wX0_init : List Cond := .code yX0_init cX0_init 2 none :: AL
abbrev wX2_make : List Cond := .code yX2_make cX2_make 6 (some .int) :: AL
abbrev wX2_isRegister : List Cond := .code yX2_isRegister cX2_isRegister 1 (some .boolean) :: AL
abbrev wX2_hasRoomFor : List Cond := .code yX2_hasRoomFor cX2_hasRoomFor 2 (some .boolean) :: AL
abbrev wX2_walk : List Cond := .code yX2_walk cX2_walk 1 none :: AL
abbrev wX0_forgetWalk : List Cond := .code yX0_forgetWalk cX0_forgetWalk 2 none :: AL
abbrev wX0_reachAll : List Cond := .code yX0_reachAll cX0_reachAll 4 none :: AL
abbrev wX0_thingOf : List Cond := .code yX0_thingOf cX0_thingOf 5 (some (.object "SliceHeap$Thing")) :: AL
abbrev wX0_reach : List Cond := .code yX0_reach cX0_reach 2 none :: AL
abbrev wX0_followReached : List Cond := .code yX0_followReached cX0_followReached 3 none :: AL
abbrev wX0_place : List Cond := .code yX0_place cX0_place 5 (some .long) :: AL
abbrev wX0_firstUnreached : List Cond := .code yX0_firstUnreached cX0_firstUnreached 2 (some .int) :: AL
abbrev wX1_init : List Cond := .code yX1_init cX1_init 1 none :: AL
abbrev wX1_fill : List Cond := .code yX1_fill cX1_fill 5 none :: AL
abbrev wX2_tellFull : List Cond := .code yX2_tellFull cX2_tellFull 1 (some .int) :: AL
abbrev wX2_grow : List Cond := .code yX2_grow cX2_grow 4 (some .int) :: AL
abbrev wX2_thingIn : List Cond := .code yX2_thingIn cX2_thingIn 2 (some (.object "SliceHeap$Thing")) :: AL
abbrev wX2_shrink : List Cond := .code yX2_shrink cX2_shrink 3 (some .int) :: AL
abbrev wX2_number : List Cond := .code yX2_number cX2_number 3 (some .boolean) :: AL
abbrev wX2_copy : List Cond := .code yX2_copy cX2_copy 3 (some .boolean) :: AL
abbrev wX2_get : List Cond := .code yX2_get cX2_get 5 (some .boolean) :: AL
abbrev wX1_hasValue : List Cond := .code yX1_hasValue cX1_hasValue 2 (some .boolean) :: AL
abbrev wX2_set : List Cond := .code yX2_set cX2_set 5 (some .boolean) :: AL
abbrev wX2_push : List Cond := .code yX2_push cX2_push 2 (some .int) :: AL
abbrev wX2_pop : List Cond := .code yX2_pop cX2_pop 2 (some .int) :: AL
abbrev wX2_look : List Cond := .code yX2_look cX2_look 3 (some .int) :: AL
abbrev wX2_numberIn : List Cond := .code yX2_numberIn cX2_numberIn 2 (some .int) :: AL
abbrev wX2_same : List Cond := .code yX2_same cX2_same 3 (some .int) :: AL
abbrev wX2_count : List Cond := .code yX2_count cX2_count 2 (some .int) :: AL
abbrev wL_cell : List Cond := .code yL_cell cL_cell 2 (some .int) :: AL
abbrev wX3_init : List Cond := .code yX3_init cX3_init 2 none :: AL
abbrev wX3_make : List Cond := .code yX3_make cX3_make 5 (some .int) :: AL
abbrev wX3_isRegister : List Cond := .code yX3_isRegister cX3_isRegister 1 (some .boolean) :: AL
abbrev wX3_hasRoom : List Cond := .code yX3_hasRoom cX3_hasRoom 3 (some .boolean) :: AL
abbrev wX3_reachable : List Cond := .code yX3_reachable cX3_reachable 3 (some .int) :: AL
abbrev wX3_goOver : List Cond := .code yX3_goOver cX3_goOver 4 none :: AL
abbrev wX3_reach : List Cond := .code yX3_reach cX3_reach 2 (some .boolean) :: AL
abbrev wX3_placeOf : List Cond := .code yX3_placeOf cX3_placeOf 2 (some .int) :: AL
abbrev wX3_move : List Cond := .code yX3_move cX3_move 3 none :: AL
abbrev wX3_grow : List Cond := .code yX3_grow cX3_grow 4 (some .int) :: AL
abbrev wX3_hasObject : List Cond := .code yX3_hasObject cX3_hasObject 2 (some .boolean) :: AL
abbrev wX3_shrink : List Cond := .code yX3_shrink cX3_shrink 3 (some .int) :: AL
abbrev wX3_empty : List Cond := .code yX3_empty cX3_empty 2 none :: AL
abbrev wX3_number : List Cond := .code yX3_number cX3_number 3 (some .boolean) :: AL
abbrev wX3_copy : List Cond := .code yX3_copy cX3_copy 3 (some .boolean) :: AL
abbrev wX3_get : List Cond := .code yX3_get cX3_get 4 (some .boolean) :: AL
abbrev wX3_hasValue : List Cond := .code yX3_hasValue cX3_hasValue 3 (some .boolean) :: AL
abbrev wX3_set : List Cond := .code yX3_set cX3_set 4 (some .boolean) :: AL
abbrev wX3_push : List Cond := .code yX3_push cX3_push 2 (some .int) :: AL
abbrev wX3_pop : List Cond := .code yX3_pop cX3_pop 2 (some .int) :: AL
abbrev wX3_look : List Cond := .code yX3_look cX3_look 2 (some .int) :: AL
abbrev wX3_numberIn : List Cond := .code yX3_numberIn cX3_numberIn 2 (some .int) :: AL
abbrev wX3_same : List Cond := .code yX3_same cX3_same 3 (some .int) :: AL
abbrev wX3_count : List Cond := .code yX3_count cX3_count 5 (some .int) :: AL
end
section
theorem dX2_init_0 : decode cX2_init 0 = .ok (.aload_n 0, 1) := by decide +kernel
theorem dX2_init_1 : decode cX2_init 1 = .ok (.invokespecial 3, 3) := by decide +kernel
theorem dX2_init_4 : decode cX2_init 4 = .ok (.aload_n 0, 1) := by decide +kernel
theorem dX2_init_5 : decode cX2_init 5 = .ok (.iload_n 1, 1) := by decide +kernel
theorem dX2_init_6 : decode cX2_init 6 = .ok (.bipush 20, 2) := by decide +kernel
theorem dX2_init_8 : decode cX2_init 8 = .ok (.if_icmp .lt 14, 3) := by decide +kernel
theorem dX2_init_11 : decode cX2_init 11 = .ok (.iload_n 1, 1) := by decide +kernel
theorem dX2_init_12 : decode cX2_init 12 = .ok (.sipush 3000, 3) := by decide +kernel
theorem dX2_init_15 : decode cX2_init 15 = .ok (.if_icmp .gt 7, 3) := by decide +kernel
theorem dX2_init_18 : decode cX2_init 18 = .ok (.iload_n 1, 1) := by decide +kernel
theorem dX2_init_19 : decode cX2_init 19 = .ok (.goto 6, 3) := by decide +kernel
theorem dX2_init_22 : decode cX2_init 22 = .ok (.sipush 300, 3) := by decide +kernel
theorem dX2_init_25 : decode cX2_init 25 = .ok (.putfield 9, 3) := by decide +kernel
theorem dX2_init_28 : decode cX2_init 28 = .ok (.aload_n 0, 1) := by decide +kernel
theorem dX2_init_29 : decode cX2_init 29 = .ok (.bipush 10, 2) := by decide +kernel
theorem dX2_init_31 : decode cX2_init 31 = .ok (.newarray .long, 2) := by decide +kernel
theorem dX2_init_33 : decode cX2_init 33 = .ok (.putfield 13, 3) := by decide +kernel
theorem dX2_init_36 : decode cX2_init 36 = .ok (.aload_n 0, 1) := by decide +kernel
theorem dX2_init_37 : decode cX2_init 37 = .ok (.getfield 13, 3) := by decide +kernel
theorem dX2_init_40 : decode cX2_init 40 = .ok (.ldc2_w 17, 3) := by decide +kernel
theorem dX2_init_43 : decode cX2_init 43 = .ok (.invokestatic 19, 3) := by decide +kernel
theorem dX2_init_46 : decode cX2_init 46 = .ok (.aload_n 0, 1) := by decide +kernel
theorem dX2_init_47 : decode cX2_init 47 = .ok (.bipush 50, 2) := by decide +kernel
theorem dX2_init_49 : decode cX2_init 49 = .ok (.newarray .long, 2) := by decide +kernel
theorem dX2_init_51 : decode cX2_init 51 = .ok (.putfield 25, 3) := by decide +kernel
theorem dX2_init_54 : decode cX2_init 54 = .ok (.aload_n 0, 1) := by decide +kernel
theorem dX2_init_55 : decode cX2_init 55 = .ok (.new 28, 3) := by decide +kernel
theorem dX2_init_58 : decode cX2_init 58 = .ok (.dup, 1) := by decide +kernel
theorem dX2_init_59 : decode cX2_init 59 = .ok (.aload_n 0, 1) := by decide +kernel
theorem dX2_init_60 : decode cX2_init 60 = .ok (.getfield 9, 3) := by decide +kernel
theorem dX2_init_63 : decode cX2_init 63 = .ok (.iconst 2, 1) := by decide +kernel
theorem dX2_init_64 : decode cX2_init 64 = .ok (.idiv, 1) := by decide +kernel
theorem dX2_init_65 : decode cX2_init 65 = .ok (.invokespecial 30, 3) := by decide +kernel
theorem dX2_init_68 : decode cX2_init 68 = .ok (.putfield 33, 3) := by decide +kernel
theorem dX2_init_71 : decode cX2_init 71 = .ok (.return_, 1) := by decide +kernel
theorem dJ_fill_0 : decode cJ_fill 0 = .ok (.iconst 0, 1) := by decide +kernel
theorem dJ_fill_1 : decode cJ_fill 1 = .ok (.istore_n 3, 1) := by decide +kernel
theorem dJ_fill_2 : decode cJ_fill 2 = .ok (.aload_n 0, 1) := by decide +kernel
theorem dJ_fill_3 : decode cJ_fill 3 = .ok (.arraylength, 1) := by decide +kernel
theorem dJ_fill_4 : decode cJ_fill 4 = .ok (.istore 4, 2) := by decide +kernel
theorem dJ_fill_6 : decode cJ_fill 6 = .ok (.iload_n 3, 1) := by decide +kernel
theorem dJ_fill_7 : decode cJ_fill 7 = .ok (.iload 4, 2) := by decide +kernel
theorem dJ_fill_9 : decode cJ_fill 9 = .ok (.if_icmp .ge 13, 3) := by decide +kernel
theorem dJ_fill_12 : decode cJ_fill 12 = .ok (.aload_n 0, 1) := by decide +kernel
theorem dJ_fill_13 : decode cJ_fill 13 = .ok (.iload_n 3, 1) := by decide +kernel
theorem dJ_fill_14 : decode cJ_fill 14 = .ok (.lload_n 1, 1) := by decide +kernel
theorem dJ_fill_15 : decode cJ_fill 15 = .ok (.lastore, 1) := by decide +kernel
theorem dJ_fill_16 : decode cJ_fill 16 = .ok (.iinc 3 1, 3) := by decide +kernel
theorem dJ_fill_19 : decode cJ_fill 19 = .ok (.goto (-13), 3) := by decide +kernel
theorem dJ_fill_22 : decode cJ_fill 22 = .ok (.return_, 1) := by decide +kernel
theorem dX0_init_0 : decode cX0_init 0 = .ok (.aload_n 0, 1) := by decide +kernel
theorem dX0_init_1 : decode cX0_init 1 = .ok (.invokespecial 3, 3) := by decide +kernel
theorem dX0_init_4 : decode cX0_init 4 = .ok (.aload_n 0, 1) := by decide +kernel
theorem dX0_init_5 : decode cX0_init 5 = .ok (.iload_n 1, 1) := by decide +kernel
theorem dX0_init_6 : decode cX0_init 6 = .ok (.anewarray 9, 3) := by decide +kernel
theorem dX0_init_9 : decode cX0_init 9 = .ok (.putfield 11, 3) := by decide +kernel
theorem dX0_init_12 : decode cX0_init 12 = .ok (.aload_n 0, 1) := by decide +kernel
theorem dX0_init_13 : decode cX0_init 13 = .ok (.iload_n 1, 1) := by decide +kernel
theorem dX0_init_14 : decode cX0_init 14 = .ok (.anewarray 9, 3) := by decide +kernel
theorem dX0_init_17 : decode cX0_init 17 = .ok (.putfield 17, 3) := by decide +kernel
theorem dX0_init_20 : decode cX0_init 20 = .ok (.return_, 1) := by decide +kernel
theorem dX2_make_0 : decode cX2_make 0 = .ok (.iload_n 1, 1) := by decide +kernel
theorem dX2_make_1 : decode cX2_make 1 = .ok (.invokestatic 37, 3) := by decide +kernel
theorem dX2_make_4 : decode cX2_make 4 = .ok (.ifCond .eq 20, 3) := by decide +kernel
theorem dX2_make_7 : decode cX2_make 7 = .ok (.iload_n 3, 1) := by decide +kernel
theorem dX2_make_8 : decode cX2_make 8 = .ok (.invokestatic 37, 3) := by decide +kernel
theorem dX2_make_11 : decode cX2_make 11 = .ok (.ifCond .eq 13, 3) := by decide +kernel
theorem dX2_make_14 : decode cX2_make 14 = .ok (.iload_n 2, 1) := by decide +kernel
theorem dX2_make_15 : decode cX2_make 15 = .ok (.ifCond .lt 9, 3) := by decide +kernel
theorem dX2_make_18 : decode cX2_make 18 = .ok (.iload_n 2, 1) := by decide +kernel
theorem dX2_make_19 : decode cX2_make 19 = .ok (.bipush 20, 2) := by decide +kernel
theorem dX2_make_21 : decode cX2_make 21 = .ok (.if_icmp .le 5, 3) := by decide +kernel
theorem dX2_make_24 : decode cX2_make 24 = .ok (.iconst (-1), 1) := by decide +kernel
theorem dX2_make_25 : decode cX2_make 25 = .ok (.ireturn, 1) := by decide +kernel
theorem dX2_make_26 : decode cX2_make 26 = .ok (.aload_n 0, 1) := by decide +kernel
theorem dX2_make_27 : decode cX2_make 27 = .ok (.iconst 2, 1) := by decide +kernel
theorem dX2_make_28 : decode cX2_make 28 = .ok (.iload_n 2, 1) := by decide +kernel
theorem dX2_make_29 : decode cX2_make 29 = .ok (.iadd, 1) := by decide +kernel
theorem dX2_make_30 : decode cX2_make 30 = .ok (.invokevirtual 41, 3) := by decide +kernel
theorem dX2_make_33 : decode cX2_make 33 = .ok (.ifCond .eq 20, 3) := by decide +kernel
theorem dX2_make_36 : decode cX2_make 36 = .ok (.aload_n 0, 1) := by decide +kernel
theorem dX2_make_37 : decode cX2_make 37 = .ok (.getfield 33, 3) := by decide +kernel
theorem dX2_make_40 : decode cX2_make 40 = .ok (.iload_n 2, 1) := by decide +kernel
theorem dX2_make_41 : decode cX2_make 41 = .ok (.aload_n 0, 1) := by decide +kernel
theorem dX2_make_42 : decode cX2_make 42 = .ok (.getfield 13, 3) := by decide +kernel
theorem dX2_make_45 : decode cX2_make 45 = .ok (.iload_n 3, 1) := by decide +kernel
theorem dX2_make_46 : decode cX2_make 46 = .ok (.laload, 1) := by decide +kernel
theorem dX2_make_47 : decode cX2_make 47 = .ok (.invokevirtual 44, 3) := by decide +kernel
theorem dX2_make_50 : decode cX2_make 50 = .ok (.goto 6, 3) := by decide +kernel
theorem dX2_make_53 : decode cX2_make 53 = .ok (.ldc2_w 17, 3) := by decide +kernel
theorem dX2_make_56 : decode cX2_make 56 = .ok (.lstore 4, 2) := by decide +kernel
theorem dX2_make_58 : decode cX2_make 58 = .ok (.lload 4, 2) := by decide +kernel
theorem dX2_make_60 : decode cX2_make 60 = .ok (.ldc2_w 17, 3) := by decide +kernel
theorem dX2_make_63 : decode cX2_make 63 = .ok (.lcmp, 1) := by decide +kernel
theorem dX2_make_64 : decode cX2_make 64 = .ok (.ifCond .ne 8, 3) := by decide +kernel
theorem dX2_make_67 : decode cX2_make 67 = .ok (.aload_n 0, 1) := by decide +kernel
theorem dX2_make_68 : decode cX2_make 68 = .ok (.invokevirtual 48, 3) := by decide +kernel
theorem dX2_make_71 : decode cX2_make 71 = .ok (.ireturn, 1) := by decide +kernel
theorem dX2_make_72 : decode cX2_make 72 = .ok (.aload_n 0, 1) := by decide +kernel
theorem dX2_make_73 : decode cX2_make 73 = .ok (.getfield 13, 3) := by decide +kernel
theorem dX2_make_76 : decode cX2_make 76 = .ok (.iload_n 1, 1) := by decide +kernel
theorem dX2_make_77 : decode cX2_make 77 = .ok (.lload 4, 2) := by decide +kernel
theorem dX2_make_79 : decode cX2_make 79 = .ok (.lastore, 1) := by decide +kernel
theorem dX2_make_80 : decode cX2_make 80 = .ok (.aload_n 0, 1) := by decide +kernel
theorem dX2_make_81 : decode cX2_make 81 = .ok (.dup, 1) := by decide +kernel
theorem dX2_make_82 : decode cX2_make 82 = .ok (.getfield 52, 3) := by decide +kernel
theorem dX2_make_85 : decode cX2_make 85 = .ok (.iconst 1, 1) := by decide +kernel
theorem dX2_make_86 : decode cX2_make 86 = .ok (.iadd, 1) := by decide +kernel
theorem dX2_make_87 : decode cX2_make 87 = .ok (.putfield 52, 3) := by decide +kernel
theorem dX2_make_90 : decode cX2_make 90 = .ok (.iconst 1, 1) := by decide +kernel
theorem dX2_make_91 : decode cX2_make 91 = .ok (.ireturn, 1) := by decide +kernel
theorem dX2_isRegister_0 : decode cX2_isRegister 0 = .ok (.iload_n 0, 1) := by decide +kernel
theorem dX2_isRegister_1 : decode cX2_isRegister 1 = .ok (.ifCond .lt 13, 3) := by decide +kernel
theorem dX2_isRegister_4 : decode cX2_isRegister 4 = .ok (.iload_n 0, 1) := by decide +kernel
theorem dX2_isRegister_5 : decode cX2_isRegister 5 = .ok (.bipush 10, 2) := by decide +kernel
theorem dX2_isRegister_7 : decode cX2_isRegister 7 = .ok (.if_icmp .ge 7, 3) := by decide +kernel
theorem dX2_isRegister_10 : decode cX2_isRegister 10 = .ok (.iconst 1, 1) := by decide +kernel
theorem dX2_isRegister_11 : decode cX2_isRegister 11 = .ok (.goto 4, 3) := by decide +kernel
theorem dX2_isRegister_14 : decode cX2_isRegister 14 = .ok (.iconst 0, 1) := by decide +kernel
theorem dX2_isRegister_15 : decode cX2_isRegister 15 = .ok (.ireturn, 1) := by decide +kernel
theorem dX2_hasRoomFor_0 : decode cX2_hasRoomFor 0 = .ok (.aload_n 0, 1) := by decide +kernel
theorem dX2_hasRoomFor_1 : decode cX2_hasRoomFor 1 = .ok (.invokevirtual 73, 3) := by decide +kernel
theorem dX2_hasRoomFor_4 : decode cX2_hasRoomFor 4 = .ok (.aload_n 0, 1) := by decide +kernel
theorem dX2_hasRoomFor_5 : decode cX2_hasRoomFor 5 = .ok (.getfield 33, 3) := by decide +kernel
theorem dX2_hasRoomFor_8 : decode cX2_hasRoomFor 8 = .ok (.getfield 76, 3) := by decide +kernel
theorem dX2_hasRoomFor_11 : decode cX2_hasRoomFor 11 = .ok (.iload_n 1, 1) := by decide +kernel
theorem dX2_hasRoomFor_12 : decode cX2_hasRoomFor 12 = .ok (.iadd, 1) := by decide +kernel
theorem dX2_hasRoomFor_13 : decode cX2_hasRoomFor 13 = .ok (.aload_n 0, 1) := by decide +kernel
theorem dX2_hasRoomFor_14 : decode cX2_hasRoomFor 14 = .ok (.getfield 9, 3) := by decide +kernel
theorem dX2_hasRoomFor_17 : decode cX2_hasRoomFor 17 = .ok (.if_icmp .gt 7, 3) := by decide +kernel
theorem dX2_hasRoomFor_20 : decode cX2_hasRoomFor 20 = .ok (.iconst 1, 1) := by decide +kernel
theorem dX2_hasRoomFor_21 : decode cX2_hasRoomFor 21 = .ok (.goto 4, 3) := by decide +kernel
theorem dX2_hasRoomFor_24 : decode cX2_hasRoomFor 24 = .ok (.iconst 0, 1) := by decide +kernel
theorem dX2_hasRoomFor_25 : decode cX2_hasRoomFor 25 = .ok (.ireturn, 1) := by decide +kernel
theorem dX2_walk_0 : decode cX2_walk 0 = .ok (.aload_n 0, 1) := by decide +kernel
theorem dX2_walk_1 : decode cX2_walk 1 = .ok (.getfield 33, 3) := by decide +kernel
theorem dX2_walk_4 : decode cX2_walk 4 = .ok (.invokevirtual 89, 3) := by decide +kernel
theorem dX2_walk_7 : decode cX2_walk 7 = .ok (.aload_n 0, 1) := by decide +kernel
theorem dX2_walk_8 : decode cX2_walk 8 = .ok (.getfield 33, 3) := by decide +kernel
theorem dX2_walk_11 : decode cX2_walk 11 = .ok (.aload_n 0, 1) := by decide +kernel
theorem dX2_walk_12 : decode cX2_walk 12 = .ok (.getfield 13, 3) := by decide +kernel
theorem dX2_walk_15 : decode cX2_walk 15 = .ok (.bipush 10, 2) := by decide +kernel
theorem dX2_walk_17 : decode cX2_walk 17 = .ok (.invokevirtual 92, 3) := by decide +kernel
theorem dX2_walk_20 : decode cX2_walk 20 = .ok (.aload_n 0, 1) := by decide +kernel
theorem dX2_walk_21 : decode cX2_walk 21 = .ok (.getfield 33, 3) := by decide +kernel
theorem dX2_walk_24 : decode cX2_walk 24 = .ok (.aload_n 0, 1) := by decide +kernel
theorem dX2_walk_25 : decode cX2_walk 25 = .ok (.getfield 25, 3) := by decide +kernel
theorem dX2_walk_28 : decode cX2_walk 28 = .ok (.aload_n 0, 1) := by decide +kernel
theorem dX2_walk_29 : decode cX2_walk 29 = .ok (.getfield 70, 3) := by decide +kernel
theorem dX2_walk_32 : decode cX2_walk 32 = .ok (.invokevirtual 92, 3) := by decide +kernel
theorem dX2_walk_35 : decode cX2_walk 35 = .ok (.aload_n 0, 1) := by decide +kernel
theorem dX2_walk_36 : decode cX2_walk 36 = .ok (.getfield 33, 3) := by decide +kernel
theorem dX2_walk_39 : decode cX2_walk 39 = .ok (.invokevirtual 96, 3) := by decide +kernel
theorem dX2_walk_42 : decode cX2_walk 42 = .ok (.return_, 1) := by decide +kernel
theorem dX0_forgetWalk_0 : decode cX0_forgetWalk 0 = .ok (.iconst 0, 1) := by decide +kernel
theorem dX0_forgetWalk_1 : decode cX0_forgetWalk 1 = .ok (.istore_n 1, 1) := by decide +kernel
theorem dX0_forgetWalk_2 : decode cX0_forgetWalk 2 = .ok (.iload_n 1, 1) := by decide +kernel
theorem dX0_forgetWalk_3 : decode cX0_forgetWalk 3 = .ok (.aload_n 0, 1) := by decide +kernel
theorem dX0_forgetWalk_4 : decode cX0_forgetWalk 4 = .ok (.getfield 11, 3) := by decide +kernel
theorem dX0_forgetWalk_7 : decode cX0_forgetWalk 7 = .ok (.arraylength, 1) := by decide +kernel
theorem dX0_forgetWalk_8 : decode cX0_forgetWalk 8 = .ok (.if_icmp .ge 28, 3) := by decide +kernel
theorem dX0_forgetWalk_11 : decode cX0_forgetWalk 11 = .ok (.aload_n 0, 1) := by decide +kernel
theorem dX0_forgetWalk_12 : decode cX0_forgetWalk 12 = .ok (.getfield 11, 3) := by decide +kernel
theorem dX0_forgetWalk_15 : decode cX0_forgetWalk 15 = .ok (.iload_n 1, 1) := by decide +kernel
theorem dX0_forgetWalk_16 : decode cX0_forgetWalk 16 = .ok (.aaload, 1) := by decide +kernel
theorem dX0_forgetWalk_17 : decode cX0_forgetWalk 17 = .ok (.ifnull 19, 3) := by decide +kernel
theorem dX0_forgetWalk_20 : decode cX0_forgetWalk 20 = .ok (.aload_n 0, 1) := by decide +kernel
theorem dX0_forgetWalk_21 : decode cX0_forgetWalk 21 = .ok (.getfield 11, 3) := by decide +kernel
theorem dX0_forgetWalk_24 : decode cX0_forgetWalk 24 = .ok (.iload_n 1, 1) := by decide +kernel
theorem dX0_forgetWalk_25 : decode cX0_forgetWalk 25 = .ok (.aaload, 1) := by decide +kernel
theorem dX0_forgetWalk_26 : decode cX0_forgetWalk 26 = .ok (.iconst 0, 1) := by decide +kernel
theorem dX0_forgetWalk_27 : decode cX0_forgetWalk 27 = .ok (.putfield 33, 3) := by decide +kernel
theorem dX0_forgetWalk_30 : decode cX0_forgetWalk 30 = .ok (.iinc 1 1, 3) := by decide +kernel
theorem dX0_forgetWalk_33 : decode cX0_forgetWalk 33 = .ok (.goto (-31), 3) := by decide +kernel
theorem dX0_forgetWalk_36 : decode cX0_forgetWalk 36 = .ok (.aload_n 0, 1) := by decide +kernel
theorem dX0_forgetWalk_37 : decode cX0_forgetWalk 37 = .ok (.iconst 0, 1) := by decide +kernel
theorem dX0_forgetWalk_38 : decode cX0_forgetWalk 38 = .ok (.putfield 36, 3) := by decide +kernel
theorem dX0_forgetWalk_41 : decode cX0_forgetWalk 41 = .ok (.aload_n 0, 1) := by decide +kernel
theorem dX0_forgetWalk_42 : decode cX0_forgetWalk 42 = .ok (.iconst 0, 1) := by decide +kernel
theorem dX0_forgetWalk_43 : decode cX0_forgetWalk 43 = .ok (.putfield 40, 3) := by decide +kernel
theorem dX0_forgetWalk_46 : decode cX0_forgetWalk 46 = .ok (.return_, 1) := by decide +kernel
theorem dX0_reachAll_0 : decode cX0_reachAll 0 = .ok (.iconst 0, 1) := by decide +kernel
theorem dX0_reachAll_1 : decode cX0_reachAll 1 = .ok (.istore_n 3, 1) := by decide +kernel
theorem dX0_reachAll_2 : decode cX0_reachAll 2 = .ok (.iload_n 3, 1) := by decide +kernel
theorem dX0_reachAll_3 : decode cX0_reachAll 3 = .ok (.iload_n 2, 1) := by decide +kernel
theorem dX0_reachAll_4 : decode cX0_reachAll 4 = .ok (.if_icmp .ge 26, 3) := by decide +kernel
theorem dX0_reachAll_7 : decode cX0_reachAll 7 = .ok (.iload_n 3, 1) := by decide +kernel
theorem dX0_reachAll_8 : decode cX0_reachAll 8 = .ok (.aload_n 1, 1) := by decide +kernel
theorem dX0_reachAll_9 : decode cX0_reachAll 9 = .ok (.arraylength, 1) := by decide +kernel
theorem dX0_reachAll_10 : decode cX0_reachAll 10 = .ok (.if_icmp .ge 20, 3) := by decide +kernel
theorem dX0_reachAll_13 : decode cX0_reachAll 13 = .ok (.aload_n 0, 1) := by decide +kernel
theorem dX0_reachAll_14 : decode cX0_reachAll 14 = .ok (.aload_n 0, 1) := by decide +kernel
theorem dX0_reachAll_15 : decode cX0_reachAll 15 = .ok (.aload_n 1, 1) := by decide +kernel
theorem dX0_reachAll_16 : decode cX0_reachAll 16 = .ok (.iload_n 3, 1) := by decide +kernel
theorem dX0_reachAll_17 : decode cX0_reachAll 17 = .ok (.laload, 1) := by decide +kernel
theorem dX0_reachAll_18 : decode cX0_reachAll 18 = .ok (.invokevirtual 43, 3) := by decide +kernel
theorem dX0_reachAll_21 : decode cX0_reachAll 21 = .ok (.invokevirtual 47, 3) := by decide +kernel
theorem dX0_reachAll_24 : decode cX0_reachAll 24 = .ok (.iinc 3 1, 3) := by decide +kernel
theorem dX0_reachAll_27 : decode cX0_reachAll 27 = .ok (.goto (-25), 3) := by decide +kernel
theorem dX0_reachAll_30 : decode cX0_reachAll 30 = .ok (.return_, 1) := by decide +kernel
theorem dX0_thingOf_0 : decode cX0_thingOf 0 = .ok (.lload_n 1, 1) := by decide +kernel
theorem dX0_thingOf_1 : decode cX0_thingOf 1 = .ok (.ldc2_w 20, 3) := by decide +kernel
theorem dX0_thingOf_4 : decode cX0_thingOf 4 = .ok (.lsub, 1) := by decide +kernel
theorem dX0_thingOf_5 : decode cX0_thingOf 5 = .ok (.lstore_n 3, 1) := by decide +kernel
theorem dX0_thingOf_6 : decode cX0_thingOf 6 = .ok (.lload_n 3, 1) := by decide +kernel
theorem dX0_thingOf_7 : decode cX0_thingOf 7 = .ok (.lconst 0, 1) := by decide +kernel
theorem dX0_thingOf_8 : decode cX0_thingOf 8 = .ok (.lcmp, 1) := by decide +kernel
theorem dX0_thingOf_9 : decode cX0_thingOf 9 = .ok (.ifCond .lt 24, 3) := by decide +kernel
theorem dX0_thingOf_12 : decode cX0_thingOf 12 = .ok (.lload_n 3, 1) := by decide +kernel
theorem dX0_thingOf_13 : decode cX0_thingOf 13 = .ok (.aload_n 0, 1) := by decide +kernel
theorem dX0_thingOf_14 : decode cX0_thingOf 14 = .ok (.getfield 11, 3) := by decide +kernel
theorem dX0_thingOf_17 : decode cX0_thingOf 17 = .ok (.arraylength, 1) := by decide +kernel
theorem dX0_thingOf_18 : decode cX0_thingOf 18 = .ok (.i2l, 1) := by decide +kernel
theorem dX0_thingOf_19 : decode cX0_thingOf 19 = .ok (.lcmp, 1) := by decide +kernel
theorem dX0_thingOf_20 : decode cX0_thingOf 20 = .ok (.ifCond .ge 13, 3) := by decide +kernel
theorem dX0_thingOf_23 : decode cX0_thingOf 23 = .ok (.aload_n 0, 1) := by decide +kernel
theorem dX0_thingOf_24 : decode cX0_thingOf 24 = .ok (.getfield 11, 3) := by decide +kernel
theorem dX0_thingOf_27 : decode cX0_thingOf 27 = .ok (.lload_n 3, 1) := by decide +kernel
theorem dX0_thingOf_28 : decode cX0_thingOf 28 = .ok (.l2i, 1) := by decide +kernel
theorem dX0_thingOf_29 : decode cX0_thingOf 29 = .ok (.aaload, 1) := by decide +kernel
theorem dX0_thingOf_30 : decode cX0_thingOf 30 = .ok (.goto 4, 3) := by decide +kernel
theorem dX0_thingOf_33 : decode cX0_thingOf 33 = .ok (.aconst_null, 1) := by decide +kernel
theorem dX0_thingOf_34 : decode cX0_thingOf 34 = .ok (.areturn, 1) := by decide +kernel
theorem dX0_reach_0 : decode cX0_reach 0 = .ok (.aload_n 1, 1) := by decide +kernel
theorem dX0_reach_1 : decode cX0_reach 1 = .ok (.ifnull 22, 3) := by decide +kernel
theorem dX0_reach_4 : decode cX0_reach 4 = .ok (.aload_n 1, 1) := by decide +kernel
theorem dX0_reach_5 : decode cX0_reach 5 = .ok (.getfield 33, 3) := by decide +kernel
theorem dX0_reach_8 : decode cX0_reach 8 = .ok (.ifCond .ne 15, 3) := by decide +kernel
theorem dX0_reach_11 : decode cX0_reach 11 = .ok (.aload_n 0, 1) := by decide +kernel
theorem dX0_reach_12 : decode cX0_reach 12 = .ok (.getfield 36, 3) := by decide +kernel
theorem dX0_reach_15 : decode cX0_reach 15 = .ok (.aload_n 0, 1) := by decide +kernel
theorem dX0_reach_16 : decode cX0_reach 16 = .ok (.getfield 17, 3) := by decide +kernel
theorem dX0_reach_19 : decode cX0_reach 19 = .ok (.arraylength, 1) := by decide +kernel
theorem dX0_reach_20 : decode cX0_reach 20 = .ok (.if_icmp .lt 4, 3) := by decide +kernel
theorem dX0_reach_23 : decode cX0_reach 23 = .ok (.return_, 1) := by decide +kernel
theorem dX0_reach_24 : decode cX0_reach 24 = .ok (.aload_n 1, 1) := by decide +kernel
theorem dX0_reach_25 : decode cX0_reach 25 = .ok (.iconst 1, 1) := by decide +kernel
theorem dX0_reach_26 : decode cX0_reach 26 = .ok (.putfield 33, 3) := by decide +kernel
theorem dX0_reach_29 : decode cX0_reach 29 = .ok (.aload_n 0, 1) := by decide +kernel
theorem dX0_reach_30 : decode cX0_reach 30 = .ok (.getfield 17, 3) := by decide +kernel
theorem dX0_reach_33 : decode cX0_reach 33 = .ok (.aload_n 0, 1) := by decide +kernel
theorem dX0_reach_34 : decode cX0_reach 34 = .ok (.getfield 36, 3) := by decide +kernel
theorem dX0_reach_37 : decode cX0_reach 37 = .ok (.aload_n 1, 1) := by decide +kernel
theorem dX0_reach_38 : decode cX0_reach 38 = .ok (.aastore, 1) := by decide +kernel
theorem dX0_reach_39 : decode cX0_reach 39 = .ok (.aload_n 0, 1) := by decide +kernel
theorem dX0_reach_40 : decode cX0_reach 40 = .ok (.dup, 1) := by decide +kernel
theorem dX0_reach_41 : decode cX0_reach 41 = .ok (.getfield 36, 3) := by decide +kernel
theorem dX0_reach_44 : decode cX0_reach 44 = .ok (.iconst 1, 1) := by decide +kernel
theorem dX0_reach_45 : decode cX0_reach 45 = .ok (.iadd, 1) := by decide +kernel
theorem dX0_reach_46 : decode cX0_reach 46 = .ok (.putfield 36, 3) := by decide +kernel
theorem dX0_reach_49 : decode cX0_reach 49 = .ok (.aload_n 0, 1) := by decide +kernel
theorem dX0_reach_50 : decode cX0_reach 50 = .ok (.dup, 1) := by decide +kernel
theorem dX0_reach_51 : decode cX0_reach 51 = .ok (.getfield 40, 3) := by decide +kernel
theorem dX0_reach_54 : decode cX0_reach 54 = .ok (.iconst 2, 1) := by decide +kernel
theorem dX0_reach_55 : decode cX0_reach 55 = .ok (.aload_n 1, 1) := by decide +kernel
theorem dX0_reach_56 : decode cX0_reach 56 = .ok (.getfield 51, 3) := by decide +kernel
theorem dX0_reach_59 : decode cX0_reach 59 = .ok (.iadd, 1) := by decide +kernel
theorem dX0_reach_60 : decode cX0_reach 60 = .ok (.iadd, 1) := by decide +kernel
theorem dX0_reach_61 : decode cX0_reach 61 = .ok (.putfield 40, 3) := by decide +kernel
theorem dX0_reach_64 : decode cX0_reach 64 = .ok (.return_, 1) := by decide +kernel
theorem dX0_followReached_0 : decode cX0_followReached 0 = .ok (.iconst 0, 1) := by decide +kernel
theorem dX0_followReached_1 : decode cX0_followReached 1 = .ok (.istore_n 1, 1) := by decide +kernel
theorem dX0_followReached_2 : decode cX0_followReached 2 = .ok (.iload_n 1, 1) := by decide +kernel
theorem dX0_followReached_3 : decode cX0_followReached 3 = .ok (.aload_n 0, 1) := by decide +kernel
theorem dX0_followReached_4 : decode cX0_followReached 4 = .ok (.getfield 36, 3) := by decide +kernel
theorem dX0_followReached_7 : decode cX0_followReached 7 = .ok (.if_icmp .ge 41, 3) := by decide +kernel
theorem dX0_followReached_10 : decode cX0_followReached 10 = .ok (.iload_n 1, 1) := by decide +kernel
theorem dX0_followReached_11 : decode cX0_followReached 11 = .ok (.aload_n 0, 1) := by decide +kernel
theorem dX0_followReached_12 : decode cX0_followReached 12 = .ok (.getfield 17, 3) := by decide +kernel
theorem dX0_followReached_15 : decode cX0_followReached 15 = .ok (.arraylength, 1) := by decide +kernel
theorem dX0_followReached_16 : decode cX0_followReached 16 = .ok (.if_icmp .ge 32, 3) := by decide +kernel
theorem dX0_followReached_19 : decode cX0_followReached 19 = .ok (.aload_n 0, 1) := by decide +kernel
theorem dX0_followReached_20 : decode cX0_followReached 20 = .ok (.getfield 17, 3) := by decide +kernel
theorem dX0_followReached_23 : decode cX0_followReached 23 = .ok (.iload_n 1, 1) := by decide +kernel
theorem dX0_followReached_24 : decode cX0_followReached 24 = .ok (.aaload, 1) := by decide +kernel
theorem dX0_followReached_25 : decode cX0_followReached 25 = .ok (.astore_n 2, 1) := by decide +kernel
theorem dX0_followReached_26 : decode cX0_followReached 26 = .ok (.aload_n 2, 1) := by decide +kernel
theorem dX0_followReached_27 : decode cX0_followReached 27 = .ok (.ifnull 15, 3) := by decide +kernel
theorem dX0_followReached_30 : decode cX0_followReached 30 = .ok (.aload_n 0, 1) := by decide +kernel
theorem dX0_followReached_31 : decode cX0_followReached 31 = .ok (.aload_n 2, 1) := by decide +kernel
theorem dX0_followReached_32 : decode cX0_followReached 32 = .ok (.getfield 54, 3) := by decide +kernel
theorem dX0_followReached_35 : decode cX0_followReached 35 = .ok (.aload_n 2, 1) := by decide +kernel
theorem dX0_followReached_36 : decode cX0_followReached 36 = .ok (.getfield 51, 3) := by decide +kernel
theorem dX0_followReached_39 : decode cX0_followReached 39 = .ok (.invokevirtual 58, 3) := by decide +kernel
theorem dX0_followReached_42 : decode cX0_followReached 42 = .ok (.iinc 1 1, 3) := by decide +kernel
theorem dX0_followReached_45 : decode cX0_followReached 45 = .ok (.goto (-43), 3) := by decide +kernel
theorem dX0_followReached_48 : decode cX0_followReached 48 = .ok (.return_, 1) := by decide +kernel
theorem dX0_place_0 : decode cX0_place 0 = .ok (.aload_n 0, 1) := by decide +kernel
theorem dX0_place_1 : decode cX0_place 1 = .ok (.invokevirtual 22, 3) := by decide +kernel
theorem dX0_place_4 : decode cX0_place 4 = .ok (.istore 4, 2) := by decide +kernel
theorem dX0_place_6 : decode cX0_place 6 = .ok (.iload 4, 2) := by decide +kernel
theorem dX0_place_8 : decode cX0_place 8 = .ok (.aload_n 0, 1) := by decide +kernel
theorem dX0_place_9 : decode cX0_place 9 = .ok (.getfield 11, 3) := by decide +kernel
theorem dX0_place_12 : decode cX0_place 12 = .ok (.arraylength, 1) := by decide +kernel
theorem dX0_place_13 : decode cX0_place 13 = .ok (.if_icmp .lt 7, 3) := by decide +kernel
theorem dX0_place_16 : decode cX0_place 16 = .ok (.ldc2_w 26, 3) := by decide +kernel
theorem dX0_place_19 : decode cX0_place 19 = .ok (.lreturn, 1) := by decide +kernel
theorem dX0_place_20 : decode cX0_place 20 = .ok (.aload_n 0, 1) := by decide +kernel
theorem dX0_place_21 : decode cX0_place 21 = .ok (.getfield 11, 3) := by decide +kernel
theorem dX0_place_24 : decode cX0_place 24 = .ok (.iload 4, 2) := by decide +kernel
end
section
theorem dX0_place_26 : decode cX0_place 26 = .ok (.aaload, 1) := by decide +kernel
theorem dX0_place_27 : decode cX0_place 27 = .ok (.ifnonnull 17, 3) := by decide +kernel
theorem dX0_place_30 : decode cX0_place 30 = .ok (.aload_n 0, 1) := by decide +kernel
theorem dX0_place_31 : decode cX0_place 31 = .ok (.getfield 11, 3) := by decide +kernel
theorem dX0_place_34 : decode cX0_place 34 = .ok (.iload 4, 2) := by decide +kernel
theorem dX0_place_36 : decode cX0_place 36 = .ok (.new 9, 3) := by decide +kernel
theorem dX0_place_39 : decode cX0_place 39 = .ok (.dup, 1) := by decide +kernel
theorem dX0_place_40 : decode cX0_place 40 = .ok (.invokespecial 28, 3) := by decide +kernel
theorem dX0_place_43 : decode cX0_place 43 = .ok (.aastore, 1) := by decide +kernel
theorem dX0_place_44 : decode cX0_place 44 = .ok (.aload_n 0, 1) := by decide +kernel
theorem dX0_place_45 : decode cX0_place 45 = .ok (.getfield 11, 3) := by decide +kernel
theorem dX0_place_48 : decode cX0_place 48 = .ok (.iload 4, 2) := by decide +kernel
theorem dX0_place_50 : decode cX0_place 50 = .ok (.aaload, 1) := by decide +kernel
theorem dX0_place_51 : decode cX0_place 51 = .ok (.iload_n 1, 1) := by decide +kernel
theorem dX0_place_52 : decode cX0_place 52 = .ok (.lload_n 2, 1) := by decide +kernel
theorem dX0_place_53 : decode cX0_place 53 = .ok (.invokevirtual 29, 3) := by decide +kernel
theorem dX0_place_56 : decode cX0_place 56 = .ok (.ldc2_w 20, 3) := by decide +kernel
theorem dX0_place_59 : decode cX0_place 59 = .ok (.iload 4, 2) := by decide +kernel
theorem dX0_place_61 : decode cX0_place 61 = .ok (.i2l, 1) := by decide +kernel
theorem dX0_place_62 : decode cX0_place 62 = .ok (.ladd, 1) := by decide +kernel
theorem dX0_place_63 : decode cX0_place 63 = .ok (.lreturn, 1) := by decide +kernel
theorem dX0_firstUnreached_0 : decode cX0_firstUnreached 0 = .ok (.iconst 0, 1) := by decide +kernel
theorem dX0_firstUnreached_1 : decode cX0_firstUnreached 1 = .ok (.istore_n 1, 1) := by decide +kernel
theorem dX0_firstUnreached_2 : decode cX0_firstUnreached 2 = .ok (.iload_n 1, 1) := by decide +kernel
theorem dX0_firstUnreached_3 : decode cX0_firstUnreached 3 = .ok (.aload_n 0, 1) := by decide +kernel
theorem dX0_firstUnreached_4 : decode cX0_firstUnreached 4 = .ok (.getfield 11, 3) := by decide +kernel
theorem dX0_firstUnreached_7 : decode cX0_firstUnreached 7 = .ok (.arraylength, 1) := by decide +kernel
theorem dX0_firstUnreached_8 : decode cX0_firstUnreached 8 = .ok (.if_icmp .ge 30, 3) := by decide +kernel
theorem dX0_firstUnreached_11 : decode cX0_firstUnreached 11 = .ok (.aload_n 0, 1) := by decide +kernel
theorem dX0_firstUnreached_12 : decode cX0_firstUnreached 12 = .ok (.getfield 11, 3) := by decide +kernel
theorem dX0_firstUnreached_15 : decode cX0_firstUnreached 15 = .ok (.iload_n 1, 1) := by decide +kernel
theorem dX0_firstUnreached_16 : decode cX0_firstUnreached 16 = .ok (.aaload, 1) := by decide +kernel
theorem dX0_firstUnreached_17 : decode cX0_firstUnreached 17 = .ok (.ifnull 21, 3) := by decide +kernel
theorem dX0_firstUnreached_20 : decode cX0_firstUnreached 20 = .ok (.aload_n 0, 1) := by decide +kernel
theorem dX0_firstUnreached_21 : decode cX0_firstUnreached 21 = .ok (.getfield 11, 3) := by decide +kernel
theorem dX0_firstUnreached_24 : decode cX0_firstUnreached 24 = .ok (.iload_n 1, 1) := by decide +kernel
theorem dX0_firstUnreached_25 : decode cX0_firstUnreached 25 = .ok (.aaload, 1) := by decide +kernel
theorem dX0_firstUnreached_26 : decode cX0_firstUnreached 26 = .ok (.getfield 33, 3) := by decide +kernel
theorem dX0_firstUnreached_29 : decode cX0_firstUnreached 29 = .ok (.ifCond .eq 9, 3) := by decide +kernel
theorem dX0_firstUnreached_32 : decode cX0_firstUnreached 32 = .ok (.iinc 1 1, 3) := by decide +kernel
theorem dX0_firstUnreached_35 : decode cX0_firstUnreached 35 = .ok (.goto (-33), 3) := by decide +kernel
theorem dX0_firstUnreached_38 : decode cX0_firstUnreached 38 = .ok (.iload_n 1, 1) := by decide +kernel
theorem dX0_firstUnreached_39 : decode cX0_firstUnreached 39 = .ok (.ireturn, 1) := by decide +kernel
theorem dX1_init_0 : decode cX1_init 0 = .ok (.aload_n 0, 1) := by decide +kernel
theorem dX1_init_1 : decode cX1_init 1 = .ok (.invokespecial 3, 3) := by decide +kernel
theorem dX1_init_4 : decode cX1_init 4 = .ok (.aload_n 0, 1) := by decide +kernel
theorem dX1_init_5 : decode cX1_init 5 = .ok (.bipush 20, 2) := by decide +kernel
theorem dX1_init_7 : decode cX1_init 7 = .ok (.newarray .long, 2) := by decide +kernel
theorem dX1_init_9 : decode cX1_init 9 = .ok (.putfield 9, 3) := by decide +kernel
theorem dX1_init_12 : decode cX1_init 12 = .ok (.return_, 1) := by decide +kernel
theorem dX1_fill_0 : decode cX1_fill 0 = .ok (.aload_n 0, 1) := by decide +kernel
theorem dX1_fill_1 : decode cX1_fill 1 = .ok (.iload_n 1, 1) := by decide +kernel
theorem dX1_fill_2 : decode cX1_fill 2 = .ok (.putfield 15, 3) := by decide +kernel
theorem dX1_fill_5 : decode cX1_fill 5 = .ok (.iconst 0, 1) := by decide +kernel
theorem dX1_fill_6 : decode cX1_fill 6 = .ok (.istore 4, 2) := by decide +kernel
theorem dX1_fill_8 : decode cX1_fill 8 = .ok (.iload 4, 2) := by decide +kernel
theorem dX1_fill_10 : decode cX1_fill 10 = .ok (.iload_n 1, 1) := by decide +kernel
theorem dX1_fill_11 : decode cX1_fill 11 = .ok (.if_icmp .ge 27, 3) := by decide +kernel
theorem dX1_fill_14 : decode cX1_fill 14 = .ok (.iload 4, 2) := by decide +kernel
theorem dX1_fill_16 : decode cX1_fill 16 = .ok (.aload_n 0, 1) := by decide +kernel
theorem dX1_fill_17 : decode cX1_fill 17 = .ok (.getfield 9, 3) := by decide +kernel
theorem dX1_fill_20 : decode cX1_fill 20 = .ok (.arraylength, 1) := by decide +kernel
theorem dX1_fill_21 : decode cX1_fill 21 = .ok (.if_icmp .ge 17, 3) := by decide +kernel
theorem dX1_fill_24 : decode cX1_fill 24 = .ok (.aload_n 0, 1) := by decide +kernel
theorem dX1_fill_25 : decode cX1_fill 25 = .ok (.getfield 9, 3) := by decide +kernel
theorem dX1_fill_28 : decode cX1_fill 28 = .ok (.iload 4, 2) := by decide +kernel
theorem dX1_fill_30 : decode cX1_fill 30 = .ok (.lload_n 2, 1) := by decide +kernel
theorem dX1_fill_31 : decode cX1_fill 31 = .ok (.lastore, 1) := by decide +kernel
theorem dX1_fill_32 : decode cX1_fill 32 = .ok (.iinc 4 1, 3) := by decide +kernel
theorem dX1_fill_35 : decode cX1_fill 35 = .ok (.goto (-27), 3) := by decide +kernel
theorem dX1_fill_38 : decode cX1_fill 38 = .ok (.return_, 1) := by decide +kernel
theorem dX2_tellFull_0 : decode cX2_tellFull 0 = .ok (.aload_n 0, 1) := by decide +kernel
theorem dX2_tellFull_1 : decode cX2_tellFull 1 = .ok (.dup, 1) := by decide +kernel
theorem dX2_tellFull_2 : decode cX2_tellFull 2 = .ok (.getfield 82, 3) := by decide +kernel
theorem dX2_tellFull_5 : decode cX2_tellFull 5 = .ok (.iconst 1, 1) := by decide +kernel
theorem dX2_tellFull_6 : decode cX2_tellFull 6 = .ok (.iadd, 1) := by decide +kernel
theorem dX2_tellFull_7 : decode cX2_tellFull 7 = .ok (.putfield 82, 3) := by decide +kernel
theorem dX2_tellFull_10 : decode cX2_tellFull 10 = .ok (.iconst 0, 1) := by decide +kernel
theorem dX2_tellFull_11 : decode cX2_tellFull 11 = .ok (.ireturn, 1) := by decide +kernel
theorem dX2_grow_0 : decode cX2_grow 0 = .ok (.aload_n 0, 1) := by decide +kernel
theorem dX2_grow_1 : decode cX2_grow 1 = .ok (.iload_n 1, 1) := by decide +kernel
theorem dX2_grow_2 : decode cX2_grow 2 = .ok (.invokevirtual 55, 3) := by decide +kernel
theorem dX2_grow_5 : decode cX2_grow 5 = .ok (.astore_n 3, 1) := by decide +kernel
theorem dX2_grow_6 : decode cX2_grow 6 = .ok (.aload_n 3, 1) := by decide +kernel
theorem dX2_grow_7 : decode cX2_grow 7 = .ok (.ifnull 19, 3) := by decide +kernel
theorem dX2_grow_10 : decode cX2_grow 10 = .ok (.iload_n 2, 1) := by decide +kernel
theorem dX2_grow_11 : decode cX2_grow 11 = .ok (.invokestatic 37, 3) := by decide +kernel
theorem dX2_grow_14 : decode cX2_grow 14 = .ok (.ifCond .eq 12, 3) := by decide +kernel
theorem dX2_grow_17 : decode cX2_grow 17 = .ok (.aload_n 3, 1) := by decide +kernel
theorem dX2_grow_18 : decode cX2_grow 18 = .ok (.getfield 59, 3) := by decide +kernel
theorem dX2_grow_21 : decode cX2_grow 21 = .ok (.bipush 20, 2) := by decide +kernel
theorem dX2_grow_23 : decode cX2_grow 23 = .ok (.if_icmp .lt 5, 3) := by decide +kernel
theorem dX2_grow_26 : decode cX2_grow 26 = .ok (.iconst (-1), 1) := by decide +kernel
theorem dX2_grow_27 : decode cX2_grow 27 = .ok (.ireturn, 1) := by decide +kernel
theorem dX2_grow_28 : decode cX2_grow 28 = .ok (.aload_n 0, 1) := by decide +kernel
theorem dX2_grow_29 : decode cX2_grow 29 = .ok (.iconst 1, 1) := by decide +kernel
theorem dX2_grow_30 : decode cX2_grow 30 = .ok (.invokevirtual 41, 3) := by decide +kernel
theorem dX2_grow_33 : decode cX2_grow 33 = .ok (.ifCond .ne 8, 3) := by decide +kernel
theorem dX2_grow_36 : decode cX2_grow 36 = .ok (.aload_n 0, 1) := by decide +kernel
theorem dX2_grow_37 : decode cX2_grow 37 = .ok (.invokevirtual 48, 3) := by decide +kernel
theorem dX2_grow_40 : decode cX2_grow 40 = .ok (.ireturn, 1) := by decide +kernel
theorem dX2_grow_41 : decode cX2_grow 41 = .ok (.aload_n 3, 1) := by decide +kernel
theorem dX2_grow_42 : decode cX2_grow 42 = .ok (.getfield 64, 3) := by decide +kernel
theorem dX2_grow_45 : decode cX2_grow 45 = .ok (.aload_n 3, 1) := by decide +kernel
theorem dX2_grow_46 : decode cX2_grow 46 = .ok (.getfield 59, 3) := by decide +kernel
theorem dX2_grow_49 : decode cX2_grow 49 = .ok (.aload_n 0, 1) := by decide +kernel
theorem dX2_grow_50 : decode cX2_grow 50 = .ok (.getfield 13, 3) := by decide +kernel
theorem dX2_grow_53 : decode cX2_grow 53 = .ok (.iload_n 2, 1) := by decide +kernel
theorem dX2_grow_54 : decode cX2_grow 54 = .ok (.laload, 1) := by decide +kernel
theorem dX2_grow_55 : decode cX2_grow 55 = .ok (.lastore, 1) := by decide +kernel
theorem dX2_grow_56 : decode cX2_grow 56 = .ok (.aload_n 3, 1) := by decide +kernel
theorem dX2_grow_57 : decode cX2_grow 57 = .ok (.dup, 1) := by decide +kernel
theorem dX2_grow_58 : decode cX2_grow 58 = .ok (.getfield 59, 3) := by decide +kernel
theorem dX2_grow_61 : decode cX2_grow 61 = .ok (.iconst 1, 1) := by decide +kernel
theorem dX2_grow_62 : decode cX2_grow 62 = .ok (.iadd, 1) := by decide +kernel
theorem dX2_grow_63 : decode cX2_grow 63 = .ok (.putfield 59, 3) := by decide +kernel
theorem dX2_grow_66 : decode cX2_grow 66 = .ok (.aload_n 3, 1) := by decide +kernel
theorem dX2_grow_67 : decode cX2_grow 67 = .ok (.getfield 59, 3) := by decide +kernel
theorem dX2_grow_70 : decode cX2_grow 70 = .ok (.ireturn, 1) := by decide +kernel
theorem dX2_thingIn_0 : decode cX2_thingIn 0 = .ok (.iload_n 1, 1) := by decide +kernel
theorem dX2_thingIn_1 : decode cX2_thingIn 1 = .ok (.invokestatic 37, 3) := by decide +kernel
theorem dX2_thingIn_4 : decode cX2_thingIn 4 = .ok (.ifCond .eq 19, 3) := by decide +kernel
theorem dX2_thingIn_7 : decode cX2_thingIn 7 = .ok (.aload_n 0, 1) := by decide +kernel
theorem dX2_thingIn_8 : decode cX2_thingIn 8 = .ok (.getfield 33, 3) := by decide +kernel
theorem dX2_thingIn_11 : decode cX2_thingIn 11 = .ok (.aload_n 0, 1) := by decide +kernel
theorem dX2_thingIn_12 : decode cX2_thingIn 12 = .ok (.getfield 13, 3) := by decide +kernel
theorem dX2_thingIn_15 : decode cX2_thingIn 15 = .ok (.iload_n 1, 1) := by decide +kernel
theorem dX2_thingIn_16 : decode cX2_thingIn 16 = .ok (.laload, 1) := by decide +kernel
theorem dX2_thingIn_17 : decode cX2_thingIn 17 = .ok (.invokevirtual 85, 3) := by decide +kernel
theorem dX2_thingIn_20 : decode cX2_thingIn 20 = .ok (.goto 4, 3) := by decide +kernel
theorem dX2_thingIn_23 : decode cX2_thingIn 23 = .ok (.aconst_null, 1) := by decide +kernel
theorem dX2_thingIn_24 : decode cX2_thingIn 24 = .ok (.areturn, 1) := by decide +kernel
theorem dX2_shrink_0 : decode cX2_shrink 0 = .ok (.aload_n 0, 1) := by decide +kernel
theorem dX2_shrink_1 : decode cX2_shrink 1 = .ok (.iload_n 1, 1) := by decide +kernel
theorem dX2_shrink_2 : decode cX2_shrink 2 = .ok (.invokevirtual 55, 3) := by decide +kernel
theorem dX2_shrink_5 : decode cX2_shrink 5 = .ok (.astore_n 2, 1) := by decide +kernel
theorem dX2_shrink_6 : decode cX2_shrink 6 = .ok (.aload_n 2, 1) := by decide +kernel
theorem dX2_shrink_7 : decode cX2_shrink 7 = .ok (.ifnull 10, 3) := by decide +kernel
theorem dX2_shrink_10 : decode cX2_shrink 10 = .ok (.aload_n 2, 1) := by decide +kernel
theorem dX2_shrink_11 : decode cX2_shrink 11 = .ok (.getfield 59, 3) := by decide +kernel
theorem dX2_shrink_14 : decode cX2_shrink 14 = .ok (.ifCond .gt 5, 3) := by decide +kernel
theorem dX2_shrink_17 : decode cX2_shrink 17 = .ok (.iconst (-1), 1) := by decide +kernel
theorem dX2_shrink_18 : decode cX2_shrink 18 = .ok (.ireturn, 1) := by decide +kernel
theorem dX2_shrink_19 : decode cX2_shrink 19 = .ok (.aload_n 2, 1) := by decide +kernel
theorem dX2_shrink_20 : decode cX2_shrink 20 = .ok (.dup, 1) := by decide +kernel
theorem dX2_shrink_21 : decode cX2_shrink 21 = .ok (.getfield 59, 3) := by decide +kernel
theorem dX2_shrink_24 : decode cX2_shrink 24 = .ok (.iconst 1, 1) := by decide +kernel
theorem dX2_shrink_25 : decode cX2_shrink 25 = .ok (.isub, 1) := by decide +kernel
theorem dX2_shrink_26 : decode cX2_shrink 26 = .ok (.putfield 59, 3) := by decide +kernel
theorem dX2_shrink_29 : decode cX2_shrink 29 = .ok (.aload_n 2, 1) := by decide +kernel
theorem dX2_shrink_30 : decode cX2_shrink 30 = .ok (.getfield 59, 3) := by decide +kernel
theorem dX2_shrink_33 : decode cX2_shrink 33 = .ok (.ireturn, 1) := by decide +kernel
theorem dX2_number_0 : decode cX2_number 0 = .ok (.iload_n 1, 1) := by decide +kernel
theorem dX2_number_1 : decode cX2_number 1 = .ok (.invokestatic 37, 3) := by decide +kernel
theorem dX2_number_4 : decode cX2_number 4 = .ok (.ifCond .ne 5, 3) := by decide +kernel
theorem dX2_number_7 : decode cX2_number 7 = .ok (.iconst 0, 1) := by decide +kernel
theorem dX2_number_8 : decode cX2_number 8 = .ok (.ireturn, 1) := by decide +kernel
theorem dX2_number_9 : decode cX2_number 9 = .ok (.aload_n 0, 1) := by decide +kernel
theorem dX2_number_10 : decode cX2_number 10 = .ok (.getfield 13, 3) := by decide +kernel
theorem dX2_number_13 : decode cX2_number 13 = .ok (.iload_n 1, 1) := by decide +kernel
theorem dX2_number_14 : decode cX2_number 14 = .ok (.iload_n 2, 1) := by decide +kernel
theorem dX2_number_15 : decode cX2_number 15 = .ok (.i2l, 1) := by decide +kernel
theorem dX2_number_16 : decode cX2_number 16 = .ok (.lastore, 1) := by decide +kernel
theorem dX2_number_17 : decode cX2_number 17 = .ok (.iconst 1, 1) := by decide +kernel
theorem dX2_number_18 : decode cX2_number 18 = .ok (.ireturn, 1) := by decide +kernel
theorem dX2_copy_0 : decode cX2_copy 0 = .ok (.iload_n 1, 1) := by decide +kernel
theorem dX2_copy_1 : decode cX2_copy 1 = .ok (.invokestatic 37, 3) := by decide +kernel
theorem dX2_copy_4 : decode cX2_copy 4 = .ok (.ifCond .eq 15, 3) := by decide +kernel
theorem dX2_copy_7 : decode cX2_copy 7 = .ok (.iload_n 2, 1) := by decide +kernel
theorem dX2_copy_8 : decode cX2_copy 8 = .ok (.iconst (-1), 1) := by decide +kernel
theorem dX2_copy_9 : decode cX2_copy 9 = .ok (.if_icmp .eq 12, 3) := by decide +kernel
theorem dX2_copy_12 : decode cX2_copy 12 = .ok (.iload_n 2, 1) := by decide +kernel
theorem dX2_copy_13 : decode cX2_copy 13 = .ok (.invokestatic 37, 3) := by decide +kernel
theorem dX2_copy_16 : decode cX2_copy 16 = .ok (.ifCond .ne 5, 3) := by decide +kernel
theorem dX2_copy_19 : decode cX2_copy 19 = .ok (.iconst 0, 1) := by decide +kernel
theorem dX2_copy_20 : decode cX2_copy 20 = .ok (.ireturn, 1) := by decide +kernel
theorem dX2_copy_21 : decode cX2_copy 21 = .ok (.aload_n 0, 1) := by decide +kernel
theorem dX2_copy_22 : decode cX2_copy 22 = .ok (.getfield 13, 3) := by decide +kernel
theorem dX2_copy_25 : decode cX2_copy 25 = .ok (.iload_n 1, 1) := by decide +kernel
theorem dX2_copy_26 : decode cX2_copy 26 = .ok (.iload_n 2, 1) := by decide +kernel
theorem dX2_copy_27 : decode cX2_copy 27 = .ok (.iconst (-1), 1) := by decide +kernel
theorem dX2_copy_28 : decode cX2_copy 28 = .ok (.if_icmp .ne 9, 3) := by decide +kernel
theorem dX2_copy_31 : decode cX2_copy 31 = .ok (.ldc2_w 17, 3) := by decide +kernel
theorem dX2_copy_34 : decode cX2_copy 34 = .ok (.goto 9, 3) := by decide +kernel
theorem dX2_copy_37 : decode cX2_copy 37 = .ok (.aload_n 0, 1) := by decide +kernel
theorem dX2_copy_38 : decode cX2_copy 38 = .ok (.getfield 13, 3) := by decide +kernel
theorem dX2_copy_41 : decode cX2_copy 41 = .ok (.iload_n 2, 1) := by decide +kernel
theorem dX2_copy_42 : decode cX2_copy 42 = .ok (.laload, 1) := by decide +kernel
theorem dX2_copy_43 : decode cX2_copy 43 = .ok (.lastore, 1) := by decide +kernel
theorem dX2_copy_44 : decode cX2_copy 44 = .ok (.iconst 1, 1) := by decide +kernel
theorem dX2_copy_45 : decode cX2_copy 45 = .ok (.ireturn, 1) := by decide +kernel
theorem dX2_get_0 : decode cX2_get 0 = .ok (.aload_n 0, 1) := by decide +kernel
theorem dX2_get_1 : decode cX2_get 1 = .ok (.iload_n 2, 1) := by decide +kernel
theorem dX2_get_2 : decode cX2_get 2 = .ok (.invokevirtual 55, 3) := by decide +kernel
theorem dX2_get_5 : decode cX2_get 5 = .ok (.astore 4, 2) := by decide +kernel
theorem dX2_get_7 : decode cX2_get 7 = .ok (.iload_n 1, 1) := by decide +kernel
theorem dX2_get_8 : decode cX2_get 8 = .ok (.invokestatic 37, 3) := by decide +kernel
theorem dX2_get_11 : decode cX2_get 11 = .ok (.ifCond .eq 17, 3) := by decide +kernel
theorem dX2_get_14 : decode cX2_get 14 = .ok (.aload 4, 2) := by decide +kernel
theorem dX2_get_16 : decode cX2_get 16 = .ok (.ifnull 12, 3) := by decide +kernel
theorem dX2_get_19 : decode cX2_get 19 = .ok (.aload 4, 2) := by decide +kernel
theorem dX2_get_21 : decode cX2_get 21 = .ok (.iload_n 3, 1) := by decide +kernel
theorem dX2_get_22 : decode cX2_get 22 = .ok (.invokevirtual 67, 3) := by decide +kernel
theorem dX2_get_25 : decode cX2_get 25 = .ok (.ifCond .ne 5, 3) := by decide +kernel
theorem dX2_get_28 : decode cX2_get 28 = .ok (.iconst 0, 1) := by decide +kernel
theorem dX2_get_29 : decode cX2_get 29 = .ok (.ireturn, 1) := by decide +kernel
theorem dX2_get_30 : decode cX2_get 30 = .ok (.aload_n 0, 1) := by decide +kernel
theorem dX2_get_31 : decode cX2_get 31 = .ok (.getfield 13, 3) := by decide +kernel
theorem dX2_get_34 : decode cX2_get 34 = .ok (.iload_n 1, 1) := by decide +kernel
theorem dX2_get_35 : decode cX2_get 35 = .ok (.aload 4, 2) := by decide +kernel
theorem dX2_get_37 : decode cX2_get 37 = .ok (.getfield 64, 3) := by decide +kernel
theorem dX2_get_40 : decode cX2_get 40 = .ok (.iload_n 3, 1) := by decide +kernel
theorem dX2_get_41 : decode cX2_get 41 = .ok (.laload, 1) := by decide +kernel
theorem dX2_get_42 : decode cX2_get 42 = .ok (.lastore, 1) := by decide +kernel
theorem dX2_get_43 : decode cX2_get 43 = .ok (.iconst 1, 1) := by decide +kernel
theorem dX2_get_44 : decode cX2_get 44 = .ok (.ireturn, 1) := by decide +kernel
theorem dX1_hasValue_0 : decode cX1_hasValue 0 = .ok (.iload_n 1, 1) := by decide +kernel
theorem dX1_hasValue_1 : decode cX1_hasValue 1 = .ok (.ifCond .lt 15, 3) := by decide +kernel
theorem dX1_hasValue_4 : decode cX1_hasValue 4 = .ok (.iload_n 1, 1) := by decide +kernel
theorem dX1_hasValue_5 : decode cX1_hasValue 5 = .ok (.aload_n 0, 1) := by decide +kernel
theorem dX1_hasValue_6 : decode cX1_hasValue 6 = .ok (.getfield 15, 3) := by decide +kernel
theorem dX1_hasValue_9 : decode cX1_hasValue 9 = .ok (.if_icmp .ge 7, 3) := by decide +kernel
theorem dX1_hasValue_12 : decode cX1_hasValue 12 = .ok (.iconst 1, 1) := by decide +kernel
theorem dX1_hasValue_13 : decode cX1_hasValue 13 = .ok (.goto 4, 3) := by decide +kernel
theorem dX1_hasValue_16 : decode cX1_hasValue 16 = .ok (.iconst 0, 1) := by decide +kernel
theorem dX1_hasValue_17 : decode cX1_hasValue 17 = .ok (.ireturn, 1) := by decide +kernel
theorem dX2_set_0 : decode cX2_set 0 = .ok (.aload_n 0, 1) := by decide +kernel
theorem dX2_set_1 : decode cX2_set 1 = .ok (.iload_n 1, 1) := by decide +kernel
theorem dX2_set_2 : decode cX2_set 2 = .ok (.invokevirtual 55, 3) := by decide +kernel
theorem dX2_set_5 : decode cX2_set 5 = .ok (.astore 4, 2) := by decide +kernel
theorem dX2_set_7 : decode cX2_set 7 = .ok (.iload_n 3, 1) := by decide +kernel
theorem dX2_set_8 : decode cX2_set 8 = .ok (.invokestatic 37, 3) := by decide +kernel
theorem dX2_set_11 : decode cX2_set 11 = .ok (.ifCond .eq 17, 3) := by decide +kernel
theorem dX2_set_14 : decode cX2_set 14 = .ok (.aload 4, 2) := by decide +kernel
theorem dX2_set_16 : decode cX2_set 16 = .ok (.ifnull 12, 3) := by decide +kernel
theorem dX2_set_19 : decode cX2_set 19 = .ok (.aload 4, 2) := by decide +kernel
theorem dX2_set_21 : decode cX2_set 21 = .ok (.iload_n 2, 1) := by decide +kernel
theorem dX2_set_22 : decode cX2_set 22 = .ok (.invokevirtual 67, 3) := by decide +kernel
theorem dX2_set_25 : decode cX2_set 25 = .ok (.ifCond .ne 5, 3) := by decide +kernel
theorem dX2_set_28 : decode cX2_set 28 = .ok (.iconst 0, 1) := by decide +kernel
theorem dX2_set_29 : decode cX2_set 29 = .ok (.ireturn, 1) := by decide +kernel
theorem dX2_set_30 : decode cX2_set 30 = .ok (.aload 4, 2) := by decide +kernel
theorem dX2_set_32 : decode cX2_set 32 = .ok (.getfield 64, 3) := by decide +kernel
theorem dX2_set_35 : decode cX2_set 35 = .ok (.iload_n 2, 1) := by decide +kernel
theorem dX2_set_36 : decode cX2_set 36 = .ok (.aload_n 0, 1) := by decide +kernel
theorem dX2_set_37 : decode cX2_set 37 = .ok (.getfield 13, 3) := by decide +kernel
theorem dX2_set_40 : decode cX2_set 40 = .ok (.iload_n 3, 1) := by decide +kernel
theorem dX2_set_41 : decode cX2_set 41 = .ok (.laload, 1) := by decide +kernel
theorem dX2_set_42 : decode cX2_set 42 = .ok (.lastore, 1) := by decide +kernel
theorem dX2_set_43 : decode cX2_set 43 = .ok (.iconst 1, 1) := by decide +kernel
theorem dX2_set_44 : decode cX2_set 44 = .ok (.ireturn, 1) := by decide +kernel
theorem dX2_push_0 : decode cX2_push 0 = .ok (.iload_n 1, 1) := by decide +kernel
theorem dX2_push_1 : decode cX2_push 1 = .ok (.invokestatic 37, 3) := by decide +kernel
theorem dX2_push_4 : decode cX2_push 4 = .ok (.ifCond .eq 12, 3) := by decide +kernel
theorem dX2_push_7 : decode cX2_push 7 = .ok (.aload_n 0, 1) := by decide +kernel
theorem dX2_push_8 : decode cX2_push 8 = .ok (.getfield 70, 3) := by decide +kernel
theorem dX2_push_11 : decode cX2_push 11 = .ok (.bipush 50, 2) := by decide +kernel
theorem dX2_push_13 : decode cX2_push 13 = .ok (.if_icmp .lt 5, 3) := by decide +kernel
theorem dX2_push_16 : decode cX2_push 16 = .ok (.iconst (-1), 1) := by decide +kernel
theorem dX2_push_17 : decode cX2_push 17 = .ok (.ireturn, 1) := by decide +kernel
theorem dX2_push_18 : decode cX2_push 18 = .ok (.aload_n 0, 1) := by decide +kernel
theorem dX2_push_19 : decode cX2_push 19 = .ok (.getfield 25, 3) := by decide +kernel
theorem dX2_push_22 : decode cX2_push 22 = .ok (.aload_n 0, 1) := by decide +kernel
theorem dX2_push_23 : decode cX2_push 23 = .ok (.getfield 70, 3) := by decide +kernel
theorem dX2_push_26 : decode cX2_push 26 = .ok (.aload_n 0, 1) := by decide +kernel
theorem dX2_push_27 : decode cX2_push 27 = .ok (.getfield 13, 3) := by decide +kernel
theorem dX2_push_30 : decode cX2_push 30 = .ok (.iload_n 1, 1) := by decide +kernel
theorem dX2_push_31 : decode cX2_push 31 = .ok (.laload, 1) := by decide +kernel
theorem dX2_push_32 : decode cX2_push 32 = .ok (.lastore, 1) := by decide +kernel
theorem dX2_push_33 : decode cX2_push 33 = .ok (.aload_n 0, 1) := by decide +kernel
theorem dX2_push_34 : decode cX2_push 34 = .ok (.dup, 1) := by decide +kernel
theorem dX2_push_35 : decode cX2_push 35 = .ok (.getfield 70, 3) := by decide +kernel
theorem dX2_push_38 : decode cX2_push 38 = .ok (.iconst 1, 1) := by decide +kernel
theorem dX2_push_39 : decode cX2_push 39 = .ok (.iadd, 1) := by decide +kernel
theorem dX2_push_40 : decode cX2_push 40 = .ok (.putfield 70, 3) := by decide +kernel
theorem dX2_push_43 : decode cX2_push 43 = .ok (.aload_n 0, 1) := by decide +kernel
theorem dX2_push_44 : decode cX2_push 44 = .ok (.getfield 13, 3) := by decide +kernel
theorem dX2_push_47 : decode cX2_push 47 = .ok (.iload_n 1, 1) := by decide +kernel
theorem dX2_push_48 : decode cX2_push 48 = .ok (.ldc2_w 17, 3) := by decide +kernel
theorem dX2_push_51 : decode cX2_push 51 = .ok (.lastore, 1) := by decide +kernel
theorem dX2_push_52 : decode cX2_push 52 = .ok (.aload_n 0, 1) := by decide +kernel
theorem dX2_push_53 : decode cX2_push 53 = .ok (.getfield 70, 3) := by decide +kernel
theorem dX2_push_56 : decode cX2_push 56 = .ok (.ireturn, 1) := by decide +kernel
theorem dX2_pop_0 : decode cX2_pop 0 = .ok (.iload_n 1, 1) := by decide +kernel
theorem dX2_pop_1 : decode cX2_pop 1 = .ok (.invokestatic 37, 3) := by decide +kernel
theorem dX2_pop_4 : decode cX2_pop 4 = .ok (.ifCond .eq 10, 3) := by decide +kernel
theorem dX2_pop_7 : decode cX2_pop 7 = .ok (.aload_n 0, 1) := by decide +kernel
theorem dX2_pop_8 : decode cX2_pop 8 = .ok (.getfield 70, 3) := by decide +kernel
theorem dX2_pop_11 : decode cX2_pop 11 = .ok (.ifCond .gt 5, 3) := by decide +kernel
theorem dX2_pop_14 : decode cX2_pop 14 = .ok (.iconst (-1), 1) := by decide +kernel
theorem dX2_pop_15 : decode cX2_pop 15 = .ok (.ireturn, 1) := by decide +kernel
theorem dX2_pop_16 : decode cX2_pop 16 = .ok (.aload_n 0, 1) := by decide +kernel
theorem dX2_pop_17 : decode cX2_pop 17 = .ok (.dup, 1) := by decide +kernel
theorem dX2_pop_18 : decode cX2_pop 18 = .ok (.getfield 70, 3) := by decide +kernel
theorem dX2_pop_21 : decode cX2_pop 21 = .ok (.iconst 1, 1) := by decide +kernel
theorem dX2_pop_22 : decode cX2_pop 22 = .ok (.isub, 1) := by decide +kernel
theorem dX2_pop_23 : decode cX2_pop 23 = .ok (.putfield 70, 3) := by decide +kernel
theorem dX2_pop_26 : decode cX2_pop 26 = .ok (.aload_n 0, 1) := by decide +kernel
theorem dX2_pop_27 : decode cX2_pop 27 = .ok (.getfield 13, 3) := by decide +kernel
theorem dX2_pop_30 : decode cX2_pop 30 = .ok (.iload_n 1, 1) := by decide +kernel
end
section
theorem dX2_pop_31 : decode cX2_pop 31 = .ok (.aload_n 0, 1) := by decide +kernel
theorem dX2_pop_32 : decode cX2_pop 32 = .ok (.getfield 25, 3) := by decide +kernel
theorem dX2_pop_35 : decode cX2_pop 35 = .ok (.aload_n 0, 1) := by decide +kernel
theorem dX2_pop_36 : decode cX2_pop 36 = .ok (.getfield 70, 3) := by decide +kernel
theorem dX2_pop_39 : decode cX2_pop 39 = .ok (.laload, 1) := by decide +kernel
theorem dX2_pop_40 : decode cX2_pop 40 = .ok (.lastore, 1) := by decide +kernel
theorem dX2_pop_41 : decode cX2_pop 41 = .ok (.aload_n 0, 1) := by decide +kernel
theorem dX2_pop_42 : decode cX2_pop 42 = .ok (.getfield 70, 3) := by decide +kernel
theorem dX2_pop_45 : decode cX2_pop 45 = .ok (.ireturn, 1) := by decide +kernel
theorem dX2_look_0 : decode cX2_look 0 = .ok (.iload_n 1, 1) := by decide +kernel
theorem dX2_look_1 : decode cX2_look 1 = .ok (.invokestatic 37, 3) := by decide +kernel
theorem dX2_look_4 : decode cX2_look 4 = .ok (.ifCond .ne 5, 3) := by decide +kernel
theorem dX2_look_7 : decode cX2_look 7 = .ok (.iconst (-1), 1) := by decide +kernel
theorem dX2_look_8 : decode cX2_look 8 = .ok (.ireturn, 1) := by decide +kernel
theorem dX2_look_9 : decode cX2_look 9 = .ok (.aload_n 0, 1) := by decide +kernel
theorem dX2_look_10 : decode cX2_look 10 = .ok (.iload_n 1, 1) := by decide +kernel
theorem dX2_look_11 : decode cX2_look 11 = .ok (.invokevirtual 55, 3) := by decide +kernel
theorem dX2_look_14 : decode cX2_look 14 = .ok (.astore_n 2, 1) := by decide +kernel
theorem dX2_look_15 : decode cX2_look 15 = .ok (.aload_n 2, 1) := by decide +kernel
theorem dX2_look_16 : decode cX2_look 16 = .ok (.ifnull 8, 3) := by decide +kernel
theorem dX2_look_19 : decode cX2_look 19 = .ok (.aload_n 2, 1) := by decide +kernel
theorem dX2_look_20 : decode cX2_look 20 = .ok (.getfield 59, 3) := by decide +kernel
theorem dX2_look_23 : decode cX2_look 23 = .ok (.ireturn, 1) := by decide +kernel
theorem dX2_look_24 : decode cX2_look 24 = .ok (.aload_n 0, 1) := by decide +kernel
theorem dX2_look_25 : decode cX2_look 25 = .ok (.getfield 13, 3) := by decide +kernel
theorem dX2_look_28 : decode cX2_look 28 = .ok (.iload_n 1, 1) := by decide +kernel
theorem dX2_look_29 : decode cX2_look 29 = .ok (.laload, 1) := by decide +kernel
theorem dX2_look_30 : decode cX2_look 30 = .ok (.ldc2_w 17, 3) := by decide +kernel
theorem dX2_look_33 : decode cX2_look 33 = .ok (.lcmp, 1) := by decide +kernel
theorem dX2_look_34 : decode cX2_look 34 = .ok (.ifCond .ne 8, 3) := by decide +kernel
theorem dX2_look_37 : decode cX2_look 37 = .ok (.bipush (-2), 2) := by decide +kernel
theorem dX2_look_39 : decode cX2_look 39 = .ok (.goto 5, 3) := by decide +kernel
theorem dX2_look_42 : decode cX2_look 42 = .ok (.bipush (-3), 2) := by decide +kernel
theorem dX2_look_44 : decode cX2_look 44 = .ok (.ireturn, 1) := by decide +kernel
theorem dX2_numberIn_0 : decode cX2_numberIn 0 = .ok (.iload_n 1, 1) := by decide +kernel
theorem dX2_numberIn_1 : decode cX2_numberIn 1 = .ok (.invokestatic 37, 3) := by decide +kernel
theorem dX2_numberIn_4 : decode cX2_numberIn 4 = .ok (.ifCond .eq 26, 3) := by decide +kernel
theorem dX2_numberIn_7 : decode cX2_numberIn 7 = .ok (.aload_n 0, 1) := by decide +kernel
theorem dX2_numberIn_8 : decode cX2_numberIn 8 = .ok (.getfield 13, 3) := by decide +kernel
theorem dX2_numberIn_11 : decode cX2_numberIn 11 = .ok (.iload_n 1, 1) := by decide +kernel
theorem dX2_numberIn_12 : decode cX2_numberIn 12 = .ok (.laload, 1) := by decide +kernel
theorem dX2_numberIn_13 : decode cX2_numberIn 13 = .ok (.ldc2_w 17, 3) := by decide +kernel
theorem dX2_numberIn_16 : decode cX2_numberIn 16 = .ok (.lcmp, 1) := by decide +kernel
theorem dX2_numberIn_17 : decode cX2_numberIn 17 = .ok (.ifCond .ge 13, 3) := by decide +kernel
theorem dX2_numberIn_20 : decode cX2_numberIn 20 = .ok (.aload_n 0, 1) := by decide +kernel
theorem dX2_numberIn_21 : decode cX2_numberIn 21 = .ok (.getfield 13, 3) := by decide +kernel
theorem dX2_numberIn_24 : decode cX2_numberIn 24 = .ok (.iload_n 1, 1) := by decide +kernel
theorem dX2_numberIn_25 : decode cX2_numberIn 25 = .ok (.laload, 1) := by decide +kernel
theorem dX2_numberIn_26 : decode cX2_numberIn 26 = .ok (.l2i, 1) := by decide +kernel
theorem dX2_numberIn_27 : decode cX2_numberIn 27 = .ok (.goto 4, 3) := by decide +kernel
theorem dX2_numberIn_30 : decode cX2_numberIn 30 = .ok (.iconst 0, 1) := by decide +kernel
theorem dX2_numberIn_31 : decode cX2_numberIn 31 = .ok (.ireturn, 1) := by decide +kernel
theorem dX2_same_0 : decode cX2_same 0 = .ok (.iload_n 1, 1) := by decide +kernel
theorem dX2_same_1 : decode cX2_same 1 = .ok (.invokestatic 37, 3) := by decide +kernel
theorem dX2_same_4 : decode cX2_same 4 = .ok (.ifCond .eq 10, 3) := by decide +kernel
theorem dX2_same_7 : decode cX2_same 7 = .ok (.iload_n 2, 1) := by decide +kernel
theorem dX2_same_8 : decode cX2_same 8 = .ok (.invokestatic 37, 3) := by decide +kernel
theorem dX2_same_11 : decode cX2_same 11 = .ok (.ifCond .ne 5, 3) := by decide +kernel
theorem dX2_same_14 : decode cX2_same 14 = .ok (.iconst (-1), 1) := by decide +kernel
theorem dX2_same_15 : decode cX2_same 15 = .ok (.ireturn, 1) := by decide +kernel
theorem dX2_same_16 : decode cX2_same 16 = .ok (.aload_n 0, 1) := by decide +kernel
theorem dX2_same_17 : decode cX2_same 17 = .ok (.getfield 13, 3) := by decide +kernel
theorem dX2_same_20 : decode cX2_same 20 = .ok (.iload_n 1, 1) := by decide +kernel
theorem dX2_same_21 : decode cX2_same 21 = .ok (.laload, 1) := by decide +kernel
theorem dX2_same_22 : decode cX2_same 22 = .ok (.aload_n 0, 1) := by decide +kernel
theorem dX2_same_23 : decode cX2_same 23 = .ok (.getfield 13, 3) := by decide +kernel
theorem dX2_same_26 : decode cX2_same 26 = .ok (.iload_n 2, 1) := by decide +kernel
theorem dX2_same_27 : decode cX2_same 27 = .ok (.laload, 1) := by decide +kernel
theorem dX2_same_28 : decode cX2_same 28 = .ok (.lcmp, 1) := by decide +kernel
theorem dX2_same_29 : decode cX2_same 29 = .ok (.ifCond .ne 7, 3) := by decide +kernel
theorem dX2_same_32 : decode cX2_same 32 = .ok (.iconst 1, 1) := by decide +kernel
theorem dX2_same_33 : decode cX2_same 33 = .ok (.goto 4, 3) := by decide +kernel
theorem dX2_same_36 : decode cX2_same 36 = .ok (.iconst 0, 1) := by decide +kernel
theorem dX2_same_37 : decode cX2_same 37 = .ok (.ireturn, 1) := by decide +kernel
theorem dX2_count_0 : decode cX2_count 0 = .ok (.iload_n 1, 1) := by decide +kernel
theorem dX2_count_1 : decode cX2_count 1 = .ok (.tableswitch 74 0 4 #[35, 47, 59, 64, 69], 35) := by decide +kernel
theorem dX2_count_36 : decode cX2_count 36 = .ok (.aload_n 0, 1) := by decide +kernel
theorem dX2_count_37 : decode cX2_count 37 = .ok (.invokevirtual 73, 3) := by decide +kernel
theorem dX2_count_40 : decode cX2_count 40 = .ok (.aload_n 0, 1) := by decide +kernel
theorem dX2_count_41 : decode cX2_count 41 = .ok (.getfield 33, 3) := by decide +kernel
theorem dX2_count_44 : decode cX2_count 44 = .ok (.getfield 76, 3) := by decide +kernel
theorem dX2_count_47 : decode cX2_count 47 = .ok (.ireturn, 1) := by decide +kernel
theorem dX2_count_48 : decode cX2_count 48 = .ok (.aload_n 0, 1) := by decide +kernel
theorem dX2_count_49 : decode cX2_count 49 = .ok (.invokevirtual 73, 3) := by decide +kernel
theorem dX2_count_52 : decode cX2_count 52 = .ok (.aload_n 0, 1) := by decide +kernel
theorem dX2_count_53 : decode cX2_count 53 = .ok (.getfield 33, 3) := by decide +kernel
theorem dX2_count_56 : decode cX2_count 56 = .ok (.getfield 79, 3) := by decide +kernel
theorem dX2_count_59 : decode cX2_count 59 = .ok (.ireturn, 1) := by decide +kernel
theorem dX2_count_60 : decode cX2_count 60 = .ok (.aload_n 0, 1) := by decide +kernel
theorem dX2_count_61 : decode cX2_count 61 = .ok (.getfield 70, 3) := by decide +kernel
theorem dX2_count_64 : decode cX2_count 64 = .ok (.ireturn, 1) := by decide +kernel
theorem dX2_count_65 : decode cX2_count 65 = .ok (.aload_n 0, 1) := by decide +kernel
theorem dX2_count_66 : decode cX2_count 66 = .ok (.getfield 52, 3) := by decide +kernel
theorem dX2_count_69 : decode cX2_count 69 = .ok (.ireturn, 1) := by decide +kernel
theorem dX2_count_70 : decode cX2_count 70 = .ok (.aload_n 0, 1) := by decide +kernel
theorem dX2_count_71 : decode cX2_count 71 = .ok (.getfield 82, 3) := by decide +kernel
theorem dX2_count_74 : decode cX2_count 74 = .ok (.ireturn, 1) := by decide +kernel
theorem dX2_count_75 : decode cX2_count 75 = .ok (.iconst (-1), 1) := by decide +kernel
theorem dX2_count_76 : decode cX2_count 76 = .ok (.ireturn, 1) := by decide +kernel
theorem dL_cell_0 : decode cL_cell 0 = .ok (.iload_n 1, 1) := by decide +kernel
theorem dL_cell_1 : decode cL_cell 1 = .ok (.aload_n 0, 1) := by decide +kernel
theorem dL_cell_2 : decode cL_cell 2 = .ok (.arraylength, 1) := by decide +kernel
theorem dL_cell_3 : decode cL_cell 3 = .ok (.if_icmp .ge 9, 3) := by decide +kernel
theorem dL_cell_6 : decode cL_cell 6 = .ok (.aload_n 0, 1) := by decide +kernel
theorem dL_cell_7 : decode cL_cell 7 = .ok (.iload_n 1, 1) := by decide +kernel
theorem dL_cell_8 : decode cL_cell 8 = .ok (.iaload, 1) := by decide +kernel
theorem dL_cell_9 : decode cL_cell 9 = .ok (.goto 4, 3) := by decide +kernel
theorem dL_cell_12 : decode cL_cell 12 = .ok (.iconst 0, 1) := by decide +kernel
theorem dL_cell_13 : decode cL_cell 13 = .ok (.ireturn, 1) := by decide +kernel
theorem dX3_init_0 : decode cX3_init 0 = .ok (.aload_n 0, 1) := by decide +kernel
theorem dX3_init_1 : decode cX3_init 1 = .ok (.invokespecial 1, 3) := by decide +kernel
theorem dX3_init_4 : decode cX3_init 4 = .ok (.aload_n 0, 1) := by decide +kernel
theorem dX3_init_5 : decode cX3_init 5 = .ok (.sipush 10460, 3) := by decide +kernel
theorem dX3_init_8 : decode cX3_init 8 = .ok (.newarray .byte, 2) := by decide +kernel
theorem dX3_init_10 : decode cX3_init 10 = .ok (.putfield 7, 3) := by decide +kernel
theorem dX3_init_13 : decode cX3_init 13 = .ok (.aload_n 0, 1) := by decide +kernel
theorem dX3_init_14 : decode cX3_init 14 = .ok (.sipush 10460, 3) := by decide +kernel
theorem dX3_init_17 : decode cX3_init 17 = .ok (.newarray .int, 2) := by decide +kernel
theorem dX3_init_19 : decode cX3_init 19 = .ok (.putfield 13, 3) := by decide +kernel
theorem dX3_init_22 : decode cX3_init 22 = .ok (.aload_n 0, 1) := by decide +kernel
theorem dX3_init_23 : decode cX3_init 23 = .ok (.sipush 520, 3) := by decide +kernel
theorem dX3_init_26 : decode cX3_init 26 = .ok (.newarray .int, 2) := by decide +kernel
theorem dX3_init_28 : decode cX3_init 28 = .ok (.putfield 17, 3) := by decide +kernel
theorem dX3_init_31 : decode cX3_init 31 = .ok (.aload_n 0, 1) := by decide +kernel
theorem dX3_init_32 : decode cX3_init 32 = .ok (.sipush 520, 3) := by decide +kernel
theorem dX3_init_35 : decode cX3_init 35 = .ok (.newarray .boolean, 2) := by decide +kernel
theorem dX3_init_37 : decode cX3_init 37 = .ok (.putfield 20, 3) := by decide +kernel
theorem dX3_init_40 : decode cX3_init 40 = .ok (.aload_n 0, 1) := by decide +kernel
theorem dX3_init_41 : decode cX3_init 41 = .ok (.iload_n 1, 1) := by decide +kernel
theorem dX3_init_42 : decode cX3_init 42 = .ok (.bipush 20, 2) := by decide +kernel
theorem dX3_init_44 : decode cX3_init 44 = .ok (.if_icmp .lt 14, 3) := by decide +kernel
theorem dX3_init_47 : decode cX3_init 47 = .ok (.iload_n 1, 1) := by decide +kernel
theorem dX3_init_48 : decode cX3_init 48 = .ok (.sipush 3000, 3) := by decide +kernel
theorem dX3_init_51 : decode cX3_init 51 = .ok (.if_icmp .gt 7, 3) := by decide +kernel
theorem dX3_init_54 : decode cX3_init 54 = .ok (.iload_n 1, 1) := by decide +kernel
theorem dX3_init_55 : decode cX3_init 55 = .ok (.goto 6, 3) := by decide +kernel
theorem dX3_init_58 : decode cX3_init 58 = .ok (.sipush 300, 3) := by decide +kernel
theorem dX3_init_61 : decode cX3_init 61 = .ok (.putfield 24, 3) := by decide +kernel
theorem dX3_init_64 : decode cX3_init 64 = .ok (.return_, 1) := by decide +kernel
theorem dX3_make_0 : decode cX3_make 0 = .ok (.iload_n 1, 1) := by decide +kernel
theorem dX3_make_1 : decode cX3_make 1 = .ok (.invokestatic 28, 3) := by decide +kernel
theorem dX3_make_4 : decode cX3_make 4 = .ok (.ifCond .eq 20, 3) := by decide +kernel
theorem dX3_make_7 : decode cX3_make 7 = .ok (.iload_n 3, 1) := by decide +kernel
theorem dX3_make_8 : decode cX3_make 8 = .ok (.invokestatic 28, 3) := by decide +kernel
theorem dX3_make_11 : decode cX3_make 11 = .ok (.ifCond .eq 13, 3) := by decide +kernel
theorem dX3_make_14 : decode cX3_make 14 = .ok (.iload_n 2, 1) := by decide +kernel
theorem dX3_make_15 : decode cX3_make 15 = .ok (.ifCond .lt 9, 3) := by decide +kernel
theorem dX3_make_18 : decode cX3_make 18 = .ok (.iload_n 2, 1) := by decide +kernel
theorem dX3_make_19 : decode cX3_make 19 = .ok (.bipush 20, 2) := by decide +kernel
theorem dX3_make_21 : decode cX3_make 21 = .ok (.if_icmp .le 5, 3) := by decide +kernel
theorem dX3_make_24 : decode cX3_make 24 = .ok (.iconst (-1), 1) := by decide +kernel
theorem dX3_make_25 : decode cX3_make 25 = .ok (.ireturn, 1) := by decide +kernel
theorem dX3_make_26 : decode cX3_make 26 = .ok (.aload_n 0, 1) := by decide +kernel
theorem dX3_make_27 : decode cX3_make 27 = .ok (.iconst 2, 1) := by decide +kernel
theorem dX3_make_28 : decode cX3_make 28 = .ok (.iload_n 2, 1) := by decide +kernel
theorem dX3_make_29 : decode cX3_make 29 = .ok (.iadd, 1) := by decide +kernel
theorem dX3_make_30 : decode cX3_make 30 = .ok (.invokevirtual 55, 3) := by decide +kernel
theorem dX3_make_33 : decode cX3_make 33 = .ok (.ifCond .ne 5, 3) := by decide +kernel
theorem dX3_make_36 : decode cX3_make 36 = .ok (.iconst 0, 1) := by decide +kernel
theorem dX3_make_37 : decode cX3_make 37 = .ok (.ireturn, 1) := by decide +kernel
theorem dX3_make_38 : decode cX3_make 38 = .ok (.iconst 0, 1) := by decide +kernel
theorem dX3_make_39 : decode cX3_make 39 = .ok (.istore 4, 2) := by decide +kernel
theorem dX3_make_41 : decode cX3_make 41 = .ok (.iload 4, 2) := by decide +kernel
theorem dX3_make_43 : decode cX3_make 43 = .ok (.iload_n 2, 1) := by decide +kernel
theorem dX3_make_44 : decode cX3_make 44 = .ok (.if_icmp .ge 23, 3) := by decide +kernel
theorem dX3_make_47 : decode cX3_make 47 = .ok (.aload_n 0, 1) := by decide +kernel
theorem dX3_make_48 : decode cX3_make 48 = .ok (.aload_n 0, 1) := by decide +kernel
theorem dX3_make_49 : decode cX3_make 49 = .ok (.getfield 32, 3) := by decide +kernel
theorem dX3_make_52 : decode cX3_make 52 = .ok (.iload 4, 2) := by decide +kernel
theorem dX3_make_54 : decode cX3_make 54 = .ok (.invokestatic 41, 3) := by decide +kernel
theorem dX3_make_57 : decode cX3_make 57 = .ok (.iload_n 3, 1) := by decide +kernel
theorem dX3_make_58 : decode cX3_make 58 = .ok (.invokevirtual 58, 3) := by decide +kernel
theorem dX3_make_61 : decode cX3_make 61 = .ok (.iinc 4 1, 3) := by decide +kernel
theorem dX3_make_64 : decode cX3_make 64 = .ok (.goto (-23), 3) := by decide +kernel
theorem dX3_make_67 : decode cX3_make 67 = .ok (.aload_n 0, 1) := by decide +kernel
theorem dX3_make_68 : decode cX3_make 68 = .ok (.getfield 17, 3) := by decide +kernel
theorem dX3_make_71 : decode cX3_make 71 = .ok (.aload_n 0, 1) := by decide +kernel
theorem dX3_make_72 : decode cX3_make 72 = .ok (.getfield 32, 3) := by decide +kernel
theorem dX3_make_75 : decode cX3_make 75 = .ok (.iload_n 2, 1) := by decide +kernel
theorem dX3_make_76 : decode cX3_make 76 = .ok (.iastore, 1) := by decide +kernel
theorem dX3_make_77 : decode cX3_make 77 = .ok (.aload_n 0, 1) := by decide +kernel
theorem dX3_make_78 : decode cX3_make 78 = .ok (.getfield 7, 3) := by decide +kernel
theorem dX3_make_81 : decode cX3_make 81 = .ok (.iload_n 1, 1) := by decide +kernel
theorem dX3_make_82 : decode cX3_make 82 = .ok (.iconst 2, 1) := by decide +kernel
theorem dX3_make_83 : decode cX3_make 83 = .ok (.bastore, 1) := by decide +kernel
theorem dX3_make_84 : decode cX3_make 84 = .ok (.aload_n 0, 1) := by decide +kernel
theorem dX3_make_85 : decode cX3_make 85 = .ok (.getfield 13, 3) := by decide +kernel
theorem dX3_make_88 : decode cX3_make 88 = .ok (.iload_n 1, 1) := by decide +kernel
theorem dX3_make_89 : decode cX3_make 89 = .ok (.aload_n 0, 1) := by decide +kernel
theorem dX3_make_90 : decode cX3_make 90 = .ok (.getfield 32, 3) := by decide +kernel
theorem dX3_make_93 : decode cX3_make 93 = .ok (.iastore, 1) := by decide +kernel
theorem dX3_make_94 : decode cX3_make 94 = .ok (.aload_n 0, 1) := by decide +kernel
theorem dX3_make_95 : decode cX3_make 95 = .ok (.dup, 1) := by decide +kernel
theorem dX3_make_96 : decode cX3_make 96 = .ok (.getfield 32, 3) := by decide +kernel
theorem dX3_make_99 : decode cX3_make 99 = .ok (.iconst 1, 1) := by decide +kernel
theorem dX3_make_100 : decode cX3_make 100 = .ok (.iadd, 1) := by decide +kernel
theorem dX3_make_101 : decode cX3_make 101 = .ok (.putfield 32, 3) := by decide +kernel
theorem dX3_make_104 : decode cX3_make 104 = .ok (.iconst 1, 1) := by decide +kernel
theorem dX3_make_105 : decode cX3_make 105 = .ok (.ireturn, 1) := by decide +kernel
theorem dX3_isRegister_0 : decode cX3_isRegister 0 = .ok (.iload_n 0, 1) := by decide +kernel
theorem dX3_isRegister_1 : decode cX3_isRegister 1 = .ok (.ifCond .lt 13, 3) := by decide +kernel
theorem dX3_isRegister_4 : decode cX3_isRegister 4 = .ok (.iload_n 0, 1) := by decide +kernel
theorem dX3_isRegister_5 : decode cX3_isRegister 5 = .ok (.bipush 10, 2) := by decide +kernel
theorem dX3_isRegister_7 : decode cX3_isRegister 7 = .ok (.if_icmp .ge 7, 3) := by decide +kernel
theorem dX3_isRegister_10 : decode cX3_isRegister 10 = .ok (.iconst 1, 1) := by decide +kernel
theorem dX3_isRegister_11 : decode cX3_isRegister 11 = .ok (.goto 4, 3) := by decide +kernel
theorem dX3_isRegister_14 : decode cX3_isRegister 14 = .ok (.iconst 0, 1) := by decide +kernel
theorem dX3_isRegister_15 : decode cX3_isRegister 15 = .ok (.ireturn, 1) := by decide +kernel
theorem dX3_hasRoom_0 : decode cX3_hasRoom 0 = .ok (.aload_n 0, 1) := by decide +kernel
theorem dX3_hasRoom_1 : decode cX3_hasRoom 1 = .ok (.invokevirtual 48, 3) := by decide +kernel
theorem dX3_hasRoom_4 : decode cX3_hasRoom 4 = .ok (.iload_n 1, 1) := by decide +kernel
theorem dX3_hasRoom_5 : decode cX3_hasRoom 5 = .ok (.iadd, 1) := by decide +kernel
theorem dX3_hasRoom_6 : decode cX3_hasRoom 6 = .ok (.aload_n 0, 1) := by decide +kernel
theorem dX3_hasRoom_7 : decode cX3_hasRoom 7 = .ok (.getfield 24, 3) := by decide +kernel
theorem dX3_hasRoom_10 : decode cX3_hasRoom 10 = .ok (.if_icmp .gt 7, 3) := by decide +kernel
theorem dX3_hasRoom_13 : decode cX3_hasRoom 13 = .ok (.iconst 1, 1) := by decide +kernel
theorem dX3_hasRoom_14 : decode cX3_hasRoom 14 = .ok (.goto 4, 3) := by decide +kernel
theorem dX3_hasRoom_17 : decode cX3_hasRoom 17 = .ok (.iconst 0, 1) := by decide +kernel
theorem dX3_hasRoom_18 : decode cX3_hasRoom 18 = .ok (.istore_n 2, 1) := by decide +kernel
theorem dX3_hasRoom_19 : decode cX3_hasRoom 19 = .ok (.aload_n 0, 1) := by decide +kernel
theorem dX3_hasRoom_20 : decode cX3_hasRoom 20 = .ok (.iload_n 2, 1) := by decide +kernel
theorem dX3_hasRoom_21 : decode cX3_hasRoom 21 = .ok (.ifCond .eq 10, 3) := by decide +kernel
theorem dX3_hasRoom_24 : decode cX3_hasRoom 24 = .ok (.aload_n 0, 1) := by decide +kernel
theorem dX3_hasRoom_25 : decode cX3_hasRoom 25 = .ok (.getfield 52, 3) := by decide +kernel
theorem dX3_hasRoom_28 : decode cX3_hasRoom 28 = .ok (.goto 9, 3) := by decide +kernel
theorem dX3_hasRoom_31 : decode cX3_hasRoom 31 = .ok (.aload_n 0, 1) := by decide +kernel
theorem dX3_hasRoom_32 : decode cX3_hasRoom 32 = .ok (.getfield 52, 3) := by decide +kernel
theorem dX3_hasRoom_35 : decode cX3_hasRoom 35 = .ok (.iconst 1, 1) := by decide +kernel
theorem dX3_hasRoom_36 : decode cX3_hasRoom 36 = .ok (.iadd, 1) := by decide +kernel
theorem dX3_hasRoom_37 : decode cX3_hasRoom 37 = .ok (.putfield 52, 3) := by decide +kernel
theorem dX3_hasRoom_40 : decode cX3_hasRoom 40 = .ok (.iload_n 2, 1) := by decide +kernel
theorem dX3_hasRoom_41 : decode cX3_hasRoom 41 = .ok (.ireturn, 1) := by decide +kernel
theorem dX3_reachable_0 : decode cX3_reachable 0 = .ok (.aload_n 0, 1) := by decide +kernel
theorem dX3_reachable_1 : decode cX3_reachable 1 = .ok (.invokevirtual 45, 3) := by decide +kernel
theorem dX3_reachable_4 : decode cX3_reachable 4 = .ok (.iconst 0, 1) := by decide +kernel
theorem dX3_reachable_5 : decode cX3_reachable 5 = .ok (.istore_n 1, 1) := by decide +kernel
theorem dX3_reachable_6 : decode cX3_reachable 6 = .ok (.iconst 0, 1) := by decide +kernel
theorem dX3_reachable_7 : decode cX3_reachable 7 = .ok (.istore_n 2, 1) := by decide +kernel
theorem dX3_reachable_8 : decode cX3_reachable 8 = .ok (.iload_n 2, 1) := by decide +kernel
theorem dX3_reachable_9 : decode cX3_reachable 9 = .ok (.aload_n 0, 1) := by decide +kernel
theorem dX3_reachable_10 : decode cX3_reachable 10 = .ok (.getfield 32, 3) := by decide +kernel
theorem dX3_reachable_13 : decode cX3_reachable 13 = .ok (.if_icmp .ge 33, 3) := by decide +kernel
theorem dX3_reachable_16 : decode cX3_reachable 16 = .ok (.aload_n 0, 1) := by decide +kernel
theorem dX3_reachable_17 : decode cX3_reachable 17 = .ok (.getfield 20, 3) := by decide +kernel
theorem dX3_reachable_20 : decode cX3_reachable 20 = .ok (.iload_n 2, 1) := by decide +kernel
theorem dX3_reachable_21 : decode cX3_reachable 21 = .ok (.baload, 1) := by decide +kernel
theorem dX3_reachable_22 : decode cX3_reachable 22 = .ok (.ifCond .eq 16, 3) := by decide +kernel
theorem dX3_reachable_25 : decode cX3_reachable 25 = .ok (.iload_n 1, 1) := by decide +kernel
theorem dX3_reachable_26 : decode cX3_reachable 26 = .ok (.iconst 2, 1) := by decide +kernel
theorem dX3_reachable_27 : decode cX3_reachable 27 = .ok (.iadd, 1) := by decide +kernel
theorem dX3_reachable_28 : decode cX3_reachable 28 = .ok (.aload_n 0, 1) := by decide +kernel
theorem dX3_reachable_29 : decode cX3_reachable 29 = .ok (.getfield 17, 3) := by decide +kernel
theorem dX3_reachable_32 : decode cX3_reachable 32 = .ok (.iload_n 2, 1) := by decide +kernel
theorem dX3_reachable_33 : decode cX3_reachable 33 = .ok (.iaload, 1) := by decide +kernel
theorem dX3_reachable_34 : decode cX3_reachable 34 = .ok (.iadd, 1) := by decide +kernel
theorem dX3_reachable_35 : decode cX3_reachable 35 = .ok (.goto 4, 3) := by decide +kernel
theorem dX3_reachable_38 : decode cX3_reachable 38 = .ok (.iload_n 1, 1) := by decide +kernel
theorem dX3_reachable_39 : decode cX3_reachable 39 = .ok (.istore_n 1, 1) := by decide +kernel
theorem dX3_reachable_40 : decode cX3_reachable 40 = .ok (.iinc 2 1, 3) := by decide +kernel
theorem dX3_reachable_43 : decode cX3_reachable 43 = .ok (.goto (-35), 3) := by decide +kernel
theorem dX3_reachable_46 : decode cX3_reachable 46 = .ok (.iload_n 1, 1) := by decide +kernel
theorem dX3_reachable_47 : decode cX3_reachable 47 = .ok (.ireturn, 1) := by decide +kernel
theorem dX3_goOver_0 : decode cX3_goOver 0 = .ok (.iconst 0, 1) := by decide +kernel
theorem dX3_goOver_1 : decode cX3_goOver 1 = .ok (.istore_n 1, 1) := by decide +kernel
theorem dX3_goOver_2 : decode cX3_goOver 2 = .ok (.iload_n 1, 1) := by decide +kernel
theorem dX3_goOver_3 : decode cX3_goOver 3 = .ok (.aload_n 0, 1) := by decide +kernel
theorem dX3_goOver_4 : decode cX3_goOver 4 = .ok (.getfield 32, 3) := by decide +kernel
theorem dX3_goOver_7 : decode cX3_goOver 7 = .ok (.if_icmp .ge 16, 3) := by decide +kernel
theorem dX3_goOver_10 : decode cX3_goOver 10 = .ok (.aload_n 0, 1) := by decide +kernel
theorem dX3_goOver_11 : decode cX3_goOver 11 = .ok (.getfield 20, 3) := by decide +kernel
theorem dX3_goOver_14 : decode cX3_goOver 14 = .ok (.iload_n 1, 1) := by decide +kernel
theorem dX3_goOver_15 : decode cX3_goOver 15 = .ok (.iconst 0, 1) := by decide +kernel
theorem dX3_goOver_16 : decode cX3_goOver 16 = .ok (.bastore, 1) := by decide +kernel
theorem dX3_goOver_17 : decode cX3_goOver 17 = .ok (.iinc 1 1, 3) := by decide +kernel
theorem dX3_goOver_20 : decode cX3_goOver 20 = .ok (.goto (-18), 3) := by decide +kernel
theorem dX3_goOver_23 : decode cX3_goOver 23 = .ok (.iconst 0, 1) := by decide +kernel
theorem dX3_goOver_24 : decode cX3_goOver 24 = .ok (.istore_n 1, 1) := by decide +kernel
theorem dX3_goOver_25 : decode cX3_goOver 25 = .ok (.iload_n 1, 1) := by decide +kernel
theorem dX3_goOver_26 : decode cX3_goOver 26 = .ok (.bipush 10, 2) := by decide +kernel
theorem dX3_goOver_28 : decode cX3_goOver 28 = .ok (.aload_n 0, 1) := by decide +kernel
theorem dX3_goOver_29 : decode cX3_goOver 29 = .ok (.getfield 35, 3) := by decide +kernel
theorem dX3_goOver_32 : decode cX3_goOver 32 = .ok (.iadd, 1) := by decide +kernel
theorem dX3_goOver_33 : decode cX3_goOver 33 = .ok (.if_icmp .ge 15, 3) := by decide +kernel
theorem dX3_goOver_36 : decode cX3_goOver 36 = .ok (.aload_n 0, 1) := by decide +kernel
theorem dX3_goOver_37 : decode cX3_goOver 37 = .ok (.iload_n 1, 1) := by decide +kernel
theorem dX3_goOver_38 : decode cX3_goOver 38 = .ok (.invokevirtual 38, 3) := by decide +kernel
theorem dX3_goOver_41 : decode cX3_goOver 41 = .ok (.pop, 1) := by decide +kernel
theorem dX3_goOver_42 : decode cX3_goOver 42 = .ok (.iinc 1 1, 3) := by decide +kernel
theorem dX3_goOver_45 : decode cX3_goOver 45 = .ok (.goto (-20), 3) := by decide +kernel
theorem dX3_goOver_48 : decode cX3_goOver 48 = .ok (.iconst 1, 1) := by decide +kernel
theorem dX3_goOver_49 : decode cX3_goOver 49 = .ok (.istore_n 1, 1) := by decide +kernel
theorem dX3_goOver_50 : decode cX3_goOver 50 = .ok (.iload_n 1, 1) := by decide +kernel
theorem dX3_goOver_51 : decode cX3_goOver 51 = .ok (.ifCond .eq 73, 3) := by decide +kernel
theorem dX3_goOver_54 : decode cX3_goOver 54 = .ok (.iconst 0, 1) := by decide +kernel
theorem dX3_goOver_55 : decode cX3_goOver 55 = .ok (.istore_n 1, 1) := by decide +kernel
theorem dX3_goOver_56 : decode cX3_goOver 56 = .ok (.iconst 0, 1) := by decide +kernel
theorem dX3_goOver_57 : decode cX3_goOver 57 = .ok (.istore_n 2, 1) := by decide +kernel
theorem dX3_goOver_58 : decode cX3_goOver 58 = .ok (.iload_n 2, 1) := by decide +kernel
theorem dX3_goOver_59 : decode cX3_goOver 59 = .ok (.aload_n 0, 1) := by decide +kernel
theorem dX3_goOver_60 : decode cX3_goOver 60 = .ok (.getfield 32, 3) := by decide +kernel
end
section
theorem dX3_goOver_63 : decode cX3_goOver 63 = .ok (.if_icmp .ge 58, 3) := by decide +kernel
theorem dX3_goOver_66 : decode cX3_goOver 66 = .ok (.iconst 0, 1) := by decide +kernel
theorem dX3_goOver_67 : decode cX3_goOver 67 = .ok (.istore_n 3, 1) := by decide +kernel
theorem dX3_goOver_68 : decode cX3_goOver 68 = .ok (.iload_n 3, 1) := by decide +kernel
theorem dX3_goOver_69 : decode cX3_goOver 69 = .ok (.aload_n 0, 1) := by decide +kernel
theorem dX3_goOver_70 : decode cX3_goOver 70 = .ok (.getfield 17, 3) := by decide +kernel
theorem dX3_goOver_73 : decode cX3_goOver 73 = .ok (.iload_n 2, 1) := by decide +kernel
theorem dX3_goOver_74 : decode cX3_goOver 74 = .ok (.iaload, 1) := by decide +kernel
theorem dX3_goOver_75 : decode cX3_goOver 75 = .ok (.if_icmp .ge 40, 3) := by decide +kernel
theorem dX3_goOver_78 : decode cX3_goOver 78 = .ok (.aload_n 0, 1) := by decide +kernel
theorem dX3_goOver_79 : decode cX3_goOver 79 = .ok (.getfield 20, 3) := by decide +kernel
theorem dX3_goOver_82 : decode cX3_goOver 82 = .ok (.iload_n 2, 1) := by decide +kernel
theorem dX3_goOver_83 : decode cX3_goOver 83 = .ok (.baload, 1) := by decide +kernel
theorem dX3_goOver_84 : decode cX3_goOver 84 = .ok (.ifCond .eq 31, 3) := by decide +kernel
theorem dX3_goOver_87 : decode cX3_goOver 87 = .ok (.aload_n 0, 1) := by decide +kernel
theorem dX3_goOver_88 : decode cX3_goOver 88 = .ok (.iload_n 2, 1) := by decide +kernel
theorem dX3_goOver_89 : decode cX3_goOver 89 = .ok (.iload_n 3, 1) := by decide +kernel
theorem dX3_goOver_90 : decode cX3_goOver 90 = .ok (.invokestatic 41, 3) := by decide +kernel
theorem dX3_goOver_93 : decode cX3_goOver 93 = .ok (.invokevirtual 38, 3) := by decide +kernel
theorem dX3_goOver_96 : decode cX3_goOver 96 = .ok (.ifCond .ne 7, 3) := by decide +kernel
theorem dX3_goOver_99 : decode cX3_goOver 99 = .ok (.iload_n 1, 1) := by decide +kernel
theorem dX3_goOver_100 : decode cX3_goOver 100 = .ok (.ifCond .eq 7, 3) := by decide +kernel
theorem dX3_goOver_103 : decode cX3_goOver 103 = .ok (.iconst 1, 1) := by decide +kernel
theorem dX3_goOver_104 : decode cX3_goOver 104 = .ok (.goto 4, 3) := by decide +kernel
theorem dX3_goOver_107 : decode cX3_goOver 107 = .ok (.iconst 0, 1) := by decide +kernel
theorem dX3_goOver_108 : decode cX3_goOver 108 = .ok (.istore_n 1, 1) := by decide +kernel
theorem dX3_goOver_109 : decode cX3_goOver 109 = .ok (.iinc 3 1, 3) := by decide +kernel
theorem dX3_goOver_112 : decode cX3_goOver 112 = .ok (.goto (-44), 3) := by decide +kernel
theorem dX3_goOver_115 : decode cX3_goOver 115 = .ok (.iinc 2 1, 3) := by decide +kernel
theorem dX3_goOver_118 : decode cX3_goOver 118 = .ok (.goto (-60), 3) := by decide +kernel
theorem dX3_goOver_121 : decode cX3_goOver 121 = .ok (.goto (-71), 3) := by decide +kernel
theorem dX3_goOver_124 : decode cX3_goOver 124 = .ok (.return_, 1) := by decide +kernel
theorem dX3_reach_0 : decode cX3_reach 0 = .ok (.aload_n 0, 1) := by decide +kernel
theorem dX3_reach_1 : decode cX3_reach 1 = .ok (.getfield 7, 3) := by decide +kernel
theorem dX3_reach_4 : decode cX3_reach 4 = .ok (.iload_n 1, 1) := by decide +kernel
theorem dX3_reach_5 : decode cX3_reach 5 = .ok (.baload, 1) := by decide +kernel
theorem dX3_reach_6 : decode cX3_reach 6 = .ok (.iconst 2, 1) := by decide +kernel
theorem dX3_reach_7 : decode cX3_reach 7 = .ok (.if_icmp .ne 17, 3) := by decide +kernel
theorem dX3_reach_10 : decode cX3_reach 10 = .ok (.aload_n 0, 1) := by decide +kernel
theorem dX3_reach_11 : decode cX3_reach 11 = .ok (.getfield 20, 3) := by decide +kernel
theorem dX3_reach_14 : decode cX3_reach 14 = .ok (.aload_n 0, 1) := by decide +kernel
theorem dX3_reach_15 : decode cX3_reach 15 = .ok (.getfield 13, 3) := by decide +kernel
theorem dX3_reach_18 : decode cX3_reach 18 = .ok (.iload_n 1, 1) := by decide +kernel
theorem dX3_reach_19 : decode cX3_reach 19 = .ok (.iaload, 1) := by decide +kernel
theorem dX3_reach_20 : decode cX3_reach 20 = .ok (.baload, 1) := by decide +kernel
theorem dX3_reach_21 : decode cX3_reach 21 = .ok (.ifCond .eq 5, 3) := by decide +kernel
theorem dX3_reach_24 : decode cX3_reach 24 = .ok (.iconst 0, 1) := by decide +kernel
theorem dX3_reach_25 : decode cX3_reach 25 = .ok (.ireturn, 1) := by decide +kernel
theorem dX3_reach_26 : decode cX3_reach 26 = .ok (.aload_n 0, 1) := by decide +kernel
theorem dX3_reach_27 : decode cX3_reach 27 = .ok (.getfield 20, 3) := by decide +kernel
theorem dX3_reach_30 : decode cX3_reach 30 = .ok (.aload_n 0, 1) := by decide +kernel
theorem dX3_reach_31 : decode cX3_reach 31 = .ok (.getfield 13, 3) := by decide +kernel
theorem dX3_reach_34 : decode cX3_reach 34 = .ok (.iload_n 1, 1) := by decide +kernel
theorem dX3_reach_35 : decode cX3_reach 35 = .ok (.iaload, 1) := by decide +kernel
theorem dX3_reach_36 : decode cX3_reach 36 = .ok (.iconst 1, 1) := by decide +kernel
theorem dX3_reach_37 : decode cX3_reach 37 = .ok (.bastore, 1) := by decide +kernel
theorem dX3_reach_38 : decode cX3_reach 38 = .ok (.iconst 1, 1) := by decide +kernel
theorem dX3_reach_39 : decode cX3_reach 39 = .ok (.ireturn, 1) := by decide +kernel
theorem dX3_placeOf_0 : decode cX3_placeOf 0 = .ok (.bipush 60, 2) := by decide +kernel
theorem dX3_placeOf_2 : decode cX3_placeOf 2 = .ok (.bipush 20, 2) := by decide +kernel
theorem dX3_placeOf_4 : decode cX3_placeOf 4 = .ok (.iload_n 0, 1) := by decide +kernel
theorem dX3_placeOf_5 : decode cX3_placeOf 5 = .ok (.imul, 1) := by decide +kernel
theorem dX3_placeOf_6 : decode cX3_placeOf 6 = .ok (.iadd, 1) := by decide +kernel
theorem dX3_placeOf_7 : decode cX3_placeOf 7 = .ok (.iload_n 1, 1) := by decide +kernel
theorem dX3_placeOf_8 : decode cX3_placeOf 8 = .ok (.iadd, 1) := by decide +kernel
theorem dX3_placeOf_9 : decode cX3_placeOf 9 = .ok (.ireturn, 1) := by decide +kernel
theorem dX3_move_0 : decode cX3_move 0 = .ok (.aload_n 0, 1) := by decide +kernel
theorem dX3_move_1 : decode cX3_move 1 = .ok (.getfield 7, 3) := by decide +kernel
theorem dX3_move_4 : decode cX3_move 4 = .ok (.iload_n 1, 1) := by decide +kernel
theorem dX3_move_5 : decode cX3_move 5 = .ok (.aload_n 0, 1) := by decide +kernel
theorem dX3_move_6 : decode cX3_move 6 = .ok (.getfield 7, 3) := by decide +kernel
theorem dX3_move_9 : decode cX3_move 9 = .ok (.iload_n 2, 1) := by decide +kernel
theorem dX3_move_10 : decode cX3_move 10 = .ok (.baload, 1) := by decide +kernel
theorem dX3_move_11 : decode cX3_move 11 = .ok (.bastore, 1) := by decide +kernel
theorem dX3_move_12 : decode cX3_move 12 = .ok (.aload_n 0, 1) := by decide +kernel
theorem dX3_move_13 : decode cX3_move 13 = .ok (.getfield 13, 3) := by decide +kernel
theorem dX3_move_16 : decode cX3_move 16 = .ok (.iload_n 1, 1) := by decide +kernel
theorem dX3_move_17 : decode cX3_move 17 = .ok (.aload_n 0, 1) := by decide +kernel
theorem dX3_move_18 : decode cX3_move 18 = .ok (.getfield 13, 3) := by decide +kernel
theorem dX3_move_21 : decode cX3_move 21 = .ok (.iload_n 2, 1) := by decide +kernel
theorem dX3_move_22 : decode cX3_move 22 = .ok (.iaload, 1) := by decide +kernel
theorem dX3_move_23 : decode cX3_move 23 = .ok (.iastore, 1) := by decide +kernel
theorem dX3_move_24 : decode cX3_move 24 = .ok (.return_, 1) := by decide +kernel
theorem dX3_grow_0 : decode cX3_grow 0 = .ok (.aload_n 0, 1) := by decide +kernel
theorem dX3_grow_1 : decode cX3_grow 1 = .ok (.iload_n 1, 1) := by decide +kernel
theorem dX3_grow_2 : decode cX3_grow 2 = .ok (.invokevirtual 62, 3) := by decide +kernel
theorem dX3_grow_5 : decode cX3_grow 5 = .ok (.ifCond .eq 26, 3) := by decide +kernel
theorem dX3_grow_8 : decode cX3_grow 8 = .ok (.iload_n 2, 1) := by decide +kernel
theorem dX3_grow_9 : decode cX3_grow 9 = .ok (.invokestatic 28, 3) := by decide +kernel
theorem dX3_grow_12 : decode cX3_grow 12 = .ok (.ifCond .eq 19, 3) := by decide +kernel
theorem dX3_grow_15 : decode cX3_grow 15 = .ok (.aload_n 0, 1) := by decide +kernel
theorem dX3_grow_16 : decode cX3_grow 16 = .ok (.getfield 17, 3) := by decide +kernel
theorem dX3_grow_19 : decode cX3_grow 19 = .ok (.aload_n 0, 1) := by decide +kernel
theorem dX3_grow_20 : decode cX3_grow 20 = .ok (.getfield 13, 3) := by decide +kernel
theorem dX3_grow_23 : decode cX3_grow 23 = .ok (.iload_n 1, 1) := by decide +kernel
theorem dX3_grow_24 : decode cX3_grow 24 = .ok (.iaload, 1) := by decide +kernel
theorem dX3_grow_25 : decode cX3_grow 25 = .ok (.iaload, 1) := by decide +kernel
theorem dX3_grow_26 : decode cX3_grow 26 = .ok (.bipush 20, 2) := by decide +kernel
theorem dX3_grow_28 : decode cX3_grow 28 = .ok (.if_icmp .ne 5, 3) := by decide +kernel
theorem dX3_grow_31 : decode cX3_grow 31 = .ok (.iconst (-1), 1) := by decide +kernel
theorem dX3_grow_32 : decode cX3_grow 32 = .ok (.ireturn, 1) := by decide +kernel
theorem dX3_grow_33 : decode cX3_grow 33 = .ok (.aload_n 0, 1) := by decide +kernel
theorem dX3_grow_34 : decode cX3_grow 34 = .ok (.iconst 1, 1) := by decide +kernel
theorem dX3_grow_35 : decode cX3_grow 35 = .ok (.invokevirtual 55, 3) := by decide +kernel
theorem dX3_grow_38 : decode cX3_grow 38 = .ok (.ifCond .ne 5, 3) := by decide +kernel
theorem dX3_grow_41 : decode cX3_grow 41 = .ok (.iconst 0, 1) := by decide +kernel
theorem dX3_grow_42 : decode cX3_grow 42 = .ok (.ireturn, 1) := by decide +kernel
theorem dX3_grow_43 : decode cX3_grow 43 = .ok (.aload_n 0, 1) := by decide +kernel
theorem dX3_grow_44 : decode cX3_grow 44 = .ok (.getfield 13, 3) := by decide +kernel
theorem dX3_grow_47 : decode cX3_grow 47 = .ok (.iload_n 1, 1) := by decide +kernel
theorem dX3_grow_48 : decode cX3_grow 48 = .ok (.iaload, 1) := by decide +kernel
theorem dX3_grow_49 : decode cX3_grow 49 = .ok (.istore_n 3, 1) := by decide +kernel
theorem dX3_grow_50 : decode cX3_grow 50 = .ok (.aload_n 0, 1) := by decide +kernel
theorem dX3_grow_51 : decode cX3_grow 51 = .ok (.iload_n 3, 1) := by decide +kernel
theorem dX3_grow_52 : decode cX3_grow 52 = .ok (.aload_n 0, 1) := by decide +kernel
theorem dX3_grow_53 : decode cX3_grow 53 = .ok (.getfield 17, 3) := by decide +kernel
theorem dX3_grow_56 : decode cX3_grow 56 = .ok (.iload_n 3, 1) := by decide +kernel
theorem dX3_grow_57 : decode cX3_grow 57 = .ok (.iaload, 1) := by decide +kernel
theorem dX3_grow_58 : decode cX3_grow 58 = .ok (.invokestatic 41, 3) := by decide +kernel
theorem dX3_grow_61 : decode cX3_grow 61 = .ok (.iload_n 2, 1) := by decide +kernel
theorem dX3_grow_62 : decode cX3_grow 62 = .ok (.invokevirtual 58, 3) := by decide +kernel
theorem dX3_grow_65 : decode cX3_grow 65 = .ok (.aload_n 0, 1) := by decide +kernel
theorem dX3_grow_66 : decode cX3_grow 66 = .ok (.getfield 17, 3) := by decide +kernel
theorem dX3_grow_69 : decode cX3_grow 69 = .ok (.iload_n 3, 1) := by decide +kernel
theorem dX3_grow_70 : decode cX3_grow 70 = .ok (.dup2, 1) := by decide +kernel
theorem dX3_grow_71 : decode cX3_grow 71 = .ok (.iaload, 1) := by decide +kernel
theorem dX3_grow_72 : decode cX3_grow 72 = .ok (.iconst 1, 1) := by decide +kernel
theorem dX3_grow_73 : decode cX3_grow 73 = .ok (.iadd, 1) := by decide +kernel
theorem dX3_grow_74 : decode cX3_grow 74 = .ok (.iastore, 1) := by decide +kernel
theorem dX3_grow_75 : decode cX3_grow 75 = .ok (.aload_n 0, 1) := by decide +kernel
theorem dX3_grow_76 : decode cX3_grow 76 = .ok (.getfield 17, 3) := by decide +kernel
theorem dX3_grow_79 : decode cX3_grow 79 = .ok (.iload_n 3, 1) := by decide +kernel
theorem dX3_grow_80 : decode cX3_grow 80 = .ok (.iaload, 1) := by decide +kernel
theorem dX3_grow_81 : decode cX3_grow 81 = .ok (.ireturn, 1) := by decide +kernel
theorem dX3_hasObject_0 : decode cX3_hasObject 0 = .ok (.iload_n 1, 1) := by decide +kernel
theorem dX3_hasObject_1 : decode cX3_hasObject 1 = .ok (.invokestatic 28, 3) := by decide +kernel
theorem dX3_hasObject_4 : decode cX3_hasObject 4 = .ok (.ifCond .eq 17, 3) := by decide +kernel
theorem dX3_hasObject_7 : decode cX3_hasObject 7 = .ok (.aload_n 0, 1) := by decide +kernel
theorem dX3_hasObject_8 : decode cX3_hasObject 8 = .ok (.getfield 7, 3) := by decide +kernel
theorem dX3_hasObject_11 : decode cX3_hasObject 11 = .ok (.iload_n 1, 1) := by decide +kernel
theorem dX3_hasObject_12 : decode cX3_hasObject 12 = .ok (.baload, 1) := by decide +kernel
theorem dX3_hasObject_13 : decode cX3_hasObject 13 = .ok (.iconst 2, 1) := by decide +kernel
theorem dX3_hasObject_14 : decode cX3_hasObject 14 = .ok (.if_icmp .ne 7, 3) := by decide +kernel
theorem dX3_hasObject_17 : decode cX3_hasObject 17 = .ok (.iconst 1, 1) := by decide +kernel
theorem dX3_hasObject_18 : decode cX3_hasObject 18 = .ok (.goto 4, 3) := by decide +kernel
theorem dX3_hasObject_21 : decode cX3_hasObject 21 = .ok (.iconst 0, 1) := by decide +kernel
theorem dX3_hasObject_22 : decode cX3_hasObject 22 = .ok (.ireturn, 1) := by decide +kernel
theorem dX3_shrink_0 : decode cX3_shrink 0 = .ok (.aload_n 0, 1) := by decide +kernel
theorem dX3_shrink_1 : decode cX3_shrink 1 = .ok (.iload_n 1, 1) := by decide +kernel
theorem dX3_shrink_2 : decode cX3_shrink 2 = .ok (.invokevirtual 62, 3) := by decide +kernel
theorem dX3_shrink_5 : decode cX3_shrink 5 = .ok (.ifCond .eq 17, 3) := by decide +kernel
theorem dX3_shrink_8 : decode cX3_shrink 8 = .ok (.aload_n 0, 1) := by decide +kernel
theorem dX3_shrink_9 : decode cX3_shrink 9 = .ok (.getfield 17, 3) := by decide +kernel
theorem dX3_shrink_12 : decode cX3_shrink 12 = .ok (.aload_n 0, 1) := by decide +kernel
theorem dX3_shrink_13 : decode cX3_shrink 13 = .ok (.getfield 13, 3) := by decide +kernel
theorem dX3_shrink_16 : decode cX3_shrink 16 = .ok (.iload_n 1, 1) := by decide +kernel
theorem dX3_shrink_17 : decode cX3_shrink 17 = .ok (.iaload, 1) := by decide +kernel
theorem dX3_shrink_18 : decode cX3_shrink 18 = .ok (.iaload, 1) := by decide +kernel
theorem dX3_shrink_19 : decode cX3_shrink 19 = .ok (.ifCond .ne 5, 3) := by decide +kernel
theorem dX3_shrink_22 : decode cX3_shrink 22 = .ok (.iconst (-1), 1) := by decide +kernel
theorem dX3_shrink_23 : decode cX3_shrink 23 = .ok (.ireturn, 1) := by decide +kernel
theorem dX3_shrink_24 : decode cX3_shrink 24 = .ok (.aload_n 0, 1) := by decide +kernel
theorem dX3_shrink_25 : decode cX3_shrink 25 = .ok (.getfield 13, 3) := by decide +kernel
theorem dX3_shrink_28 : decode cX3_shrink 28 = .ok (.iload_n 1, 1) := by decide +kernel
theorem dX3_shrink_29 : decode cX3_shrink 29 = .ok (.iaload, 1) := by decide +kernel
theorem dX3_shrink_30 : decode cX3_shrink 30 = .ok (.istore_n 2, 1) := by decide +kernel
theorem dX3_shrink_31 : decode cX3_shrink 31 = .ok (.aload_n 0, 1) := by decide +kernel
theorem dX3_shrink_32 : decode cX3_shrink 32 = .ok (.getfield 17, 3) := by decide +kernel
theorem dX3_shrink_35 : decode cX3_shrink 35 = .ok (.iload_n 2, 1) := by decide +kernel
theorem dX3_shrink_36 : decode cX3_shrink 36 = .ok (.dup2, 1) := by decide +kernel
theorem dX3_shrink_37 : decode cX3_shrink 37 = .ok (.iaload, 1) := by decide +kernel
theorem dX3_shrink_38 : decode cX3_shrink 38 = .ok (.iconst 1, 1) := by decide +kernel
theorem dX3_shrink_39 : decode cX3_shrink 39 = .ok (.isub, 1) := by decide +kernel
theorem dX3_shrink_40 : decode cX3_shrink 40 = .ok (.iastore, 1) := by decide +kernel
theorem dX3_shrink_41 : decode cX3_shrink 41 = .ok (.aload_n 0, 1) := by decide +kernel
theorem dX3_shrink_42 : decode cX3_shrink 42 = .ok (.iload_n 2, 1) := by decide +kernel
theorem dX3_shrink_43 : decode cX3_shrink 43 = .ok (.aload_n 0, 1) := by decide +kernel
theorem dX3_shrink_44 : decode cX3_shrink 44 = .ok (.getfield 17, 3) := by decide +kernel
theorem dX3_shrink_47 : decode cX3_shrink 47 = .ok (.iload_n 2, 1) := by decide +kernel
theorem dX3_shrink_48 : decode cX3_shrink 48 = .ok (.iaload, 1) := by decide +kernel
theorem dX3_shrink_49 : decode cX3_shrink 49 = .ok (.invokestatic 41, 3) := by decide +kernel
theorem dX3_shrink_52 : decode cX3_shrink 52 = .ok (.invokevirtual 65, 3) := by decide +kernel
theorem dX3_shrink_55 : decode cX3_shrink 55 = .ok (.aload_n 0, 1) := by decide +kernel
theorem dX3_shrink_56 : decode cX3_shrink 56 = .ok (.getfield 17, 3) := by decide +kernel
theorem dX3_shrink_59 : decode cX3_shrink 59 = .ok (.iload_n 2, 1) := by decide +kernel
theorem dX3_shrink_60 : decode cX3_shrink 60 = .ok (.iaload, 1) := by decide +kernel
theorem dX3_shrink_61 : decode cX3_shrink 61 = .ok (.ireturn, 1) := by decide +kernel
theorem dX3_empty_0 : decode cX3_empty 0 = .ok (.aload_n 0, 1) := by decide +kernel
theorem dX3_empty_1 : decode cX3_empty 1 = .ok (.getfield 7, 3) := by decide +kernel
theorem dX3_empty_4 : decode cX3_empty 4 = .ok (.iload_n 1, 1) := by decide +kernel
theorem dX3_empty_5 : decode cX3_empty 5 = .ok (.iconst 0, 1) := by decide +kernel
theorem dX3_empty_6 : decode cX3_empty 6 = .ok (.bastore, 1) := by decide +kernel
theorem dX3_empty_7 : decode cX3_empty 7 = .ok (.aload_n 0, 1) := by decide +kernel
theorem dX3_empty_8 : decode cX3_empty 8 = .ok (.getfield 13, 3) := by decide +kernel
theorem dX3_empty_11 : decode cX3_empty 11 = .ok (.iload_n 1, 1) := by decide +kernel
theorem dX3_empty_12 : decode cX3_empty 12 = .ok (.iconst 0, 1) := by decide +kernel
theorem dX3_empty_13 : decode cX3_empty 13 = .ok (.iastore, 1) := by decide +kernel
theorem dX3_empty_14 : decode cX3_empty 14 = .ok (.return_, 1) := by decide +kernel
theorem dX3_number_0 : decode cX3_number 0 = .ok (.iload_n 1, 1) := by decide +kernel
theorem dX3_number_1 : decode cX3_number 1 = .ok (.invokestatic 28, 3) := by decide +kernel
theorem dX3_number_4 : decode cX3_number 4 = .ok (.ifCond .ne 5, 3) := by decide +kernel
theorem dX3_number_7 : decode cX3_number 7 = .ok (.iconst 0, 1) := by decide +kernel
theorem dX3_number_8 : decode cX3_number 8 = .ok (.ireturn, 1) := by decide +kernel
theorem dX3_number_9 : decode cX3_number 9 = .ok (.aload_n 0, 1) := by decide +kernel
theorem dX3_number_10 : decode cX3_number 10 = .ok (.getfield 7, 3) := by decide +kernel
theorem dX3_number_13 : decode cX3_number 13 = .ok (.iload_n 1, 1) := by decide +kernel
theorem dX3_number_14 : decode cX3_number 14 = .ok (.iconst 1, 1) := by decide +kernel
theorem dX3_number_15 : decode cX3_number 15 = .ok (.bastore, 1) := by decide +kernel
theorem dX3_number_16 : decode cX3_number 16 = .ok (.aload_n 0, 1) := by decide +kernel
theorem dX3_number_17 : decode cX3_number 17 = .ok (.getfield 13, 3) := by decide +kernel
theorem dX3_number_20 : decode cX3_number 20 = .ok (.iload_n 1, 1) := by decide +kernel
theorem dX3_number_21 : decode cX3_number 21 = .ok (.iload_n 2, 1) := by decide +kernel
theorem dX3_number_22 : decode cX3_number 22 = .ok (.iastore, 1) := by decide +kernel
theorem dX3_number_23 : decode cX3_number 23 = .ok (.iconst 1, 1) := by decide +kernel
theorem dX3_number_24 : decode cX3_number 24 = .ok (.ireturn, 1) := by decide +kernel
theorem dX3_copy_0 : decode cX3_copy 0 = .ok (.iload_n 1, 1) := by decide +kernel
theorem dX3_copy_1 : decode cX3_copy 1 = .ok (.invokestatic 28, 3) := by decide +kernel
theorem dX3_copy_4 : decode cX3_copy 4 = .ok (.ifCond .eq 15, 3) := by decide +kernel
theorem dX3_copy_7 : decode cX3_copy 7 = .ok (.iload_n 2, 1) := by decide +kernel
theorem dX3_copy_8 : decode cX3_copy 8 = .ok (.iconst (-1), 1) := by decide +kernel
theorem dX3_copy_9 : decode cX3_copy 9 = .ok (.if_icmp .eq 12, 3) := by decide +kernel
theorem dX3_copy_12 : decode cX3_copy 12 = .ok (.iload_n 2, 1) := by decide +kernel
theorem dX3_copy_13 : decode cX3_copy 13 = .ok (.invokestatic 28, 3) := by decide +kernel
theorem dX3_copy_16 : decode cX3_copy 16 = .ok (.ifCond .ne 5, 3) := by decide +kernel
theorem dX3_copy_19 : decode cX3_copy 19 = .ok (.iconst 0, 1) := by decide +kernel
theorem dX3_copy_20 : decode cX3_copy 20 = .ok (.ireturn, 1) := by decide +kernel
theorem dX3_copy_21 : decode cX3_copy 21 = .ok (.iload_n 2, 1) := by decide +kernel
theorem dX3_copy_22 : decode cX3_copy 22 = .ok (.iconst (-1), 1) := by decide +kernel
theorem dX3_copy_23 : decode cX3_copy 23 = .ok (.if_icmp .ne 11, 3) := by decide +kernel
theorem dX3_copy_26 : decode cX3_copy 26 = .ok (.aload_n 0, 1) := by decide +kernel
theorem dX3_copy_27 : decode cX3_copy 27 = .ok (.iload_n 1, 1) := by decide +kernel
theorem dX3_copy_28 : decode cX3_copy 28 = .ok (.invokevirtual 65, 3) := by decide +kernel
theorem dX3_copy_31 : decode cX3_copy 31 = .ok (.goto 9, 3) := by decide +kernel
theorem dX3_copy_34 : decode cX3_copy 34 = .ok (.aload_n 0, 1) := by decide +kernel
theorem dX3_copy_35 : decode cX3_copy 35 = .ok (.iload_n 1, 1) := by decide +kernel
theorem dX3_copy_36 : decode cX3_copy 36 = .ok (.iload_n 2, 1) := by decide +kernel
theorem dX3_copy_37 : decode cX3_copy 37 = .ok (.invokevirtual 58, 3) := by decide +kernel
theorem dX3_copy_40 : decode cX3_copy 40 = .ok (.iconst 1, 1) := by decide +kernel
theorem dX3_copy_41 : decode cX3_copy 41 = .ok (.ireturn, 1) := by decide +kernel
theorem dX3_get_0 : decode cX3_get 0 = .ok (.iload_n 1, 1) := by decide +kernel
theorem dX3_get_1 : decode cX3_get 1 = .ok (.invokestatic 28, 3) := by decide +kernel
theorem dX3_get_4 : decode cX3_get 4 = .ok (.ifCond .eq 12, 3) := by decide +kernel
theorem dX3_get_7 : decode cX3_get 7 = .ok (.aload_n 0, 1) := by decide +kernel
theorem dX3_get_8 : decode cX3_get 8 = .ok (.iload_n 2, 1) := by decide +kernel
theorem dX3_get_9 : decode cX3_get 9 = .ok (.iload_n 3, 1) := by decide +kernel
theorem dX3_get_10 : decode cX3_get 10 = .ok (.invokevirtual 69, 3) := by decide +kernel
theorem dX3_get_13 : decode cX3_get 13 = .ok (.ifCond .ne 5, 3) := by decide +kernel
theorem dX3_get_16 : decode cX3_get 16 = .ok (.iconst 0, 1) := by decide +kernel
theorem dX3_get_17 : decode cX3_get 17 = .ok (.ireturn, 1) := by decide +kernel
theorem dX3_get_18 : decode cX3_get 18 = .ok (.aload_n 0, 1) := by decide +kernel
theorem dX3_get_19 : decode cX3_get 19 = .ok (.iload_n 1, 1) := by decide +kernel
theorem dX3_get_20 : decode cX3_get 20 = .ok (.aload_n 0, 1) := by decide +kernel
theorem dX3_get_21 : decode cX3_get 21 = .ok (.getfield 13, 3) := by decide +kernel
theorem dX3_get_24 : decode cX3_get 24 = .ok (.iload_n 2, 1) := by decide +kernel
theorem dX3_get_25 : decode cX3_get 25 = .ok (.iaload, 1) := by decide +kernel
theorem dX3_get_26 : decode cX3_get 26 = .ok (.iload_n 3, 1) := by decide +kernel
theorem dX3_get_27 : decode cX3_get 27 = .ok (.invokestatic 41, 3) := by decide +kernel
theorem dX3_get_30 : decode cX3_get 30 = .ok (.invokevirtual 58, 3) := by decide +kernel
theorem dX3_get_33 : decode cX3_get 33 = .ok (.iconst 1, 1) := by decide +kernel
theorem dX3_get_34 : decode cX3_get 34 = .ok (.ireturn, 1) := by decide +kernel
theorem dX3_hasValue_0 : decode cX3_hasValue 0 = .ok (.aload_n 0, 1) := by decide +kernel
theorem dX3_hasValue_1 : decode cX3_hasValue 1 = .ok (.iload_n 1, 1) := by decide +kernel
theorem dX3_hasValue_2 : decode cX3_hasValue 2 = .ok (.invokevirtual 62, 3) := by decide +kernel
theorem dX3_hasValue_5 : decode cX3_hasValue 5 = .ok (.ifCond .eq 26, 3) := by decide +kernel
theorem dX3_hasValue_8 : decode cX3_hasValue 8 = .ok (.iload_n 2, 1) := by decide +kernel
theorem dX3_hasValue_9 : decode cX3_hasValue 9 = .ok (.ifCond .lt 22, 3) := by decide +kernel
theorem dX3_hasValue_12 : decode cX3_hasValue 12 = .ok (.iload_n 2, 1) := by decide +kernel
theorem dX3_hasValue_13 : decode cX3_hasValue 13 = .ok (.aload_n 0, 1) := by decide +kernel
theorem dX3_hasValue_14 : decode cX3_hasValue 14 = .ok (.getfield 17, 3) := by decide +kernel
theorem dX3_hasValue_17 : decode cX3_hasValue 17 = .ok (.aload_n 0, 1) := by decide +kernel
theorem dX3_hasValue_18 : decode cX3_hasValue 18 = .ok (.getfield 13, 3) := by decide +kernel
theorem dX3_hasValue_21 : decode cX3_hasValue 21 = .ok (.iload_n 1, 1) := by decide +kernel
theorem dX3_hasValue_22 : decode cX3_hasValue 22 = .ok (.iaload, 1) := by decide +kernel
theorem dX3_hasValue_23 : decode cX3_hasValue 23 = .ok (.iaload, 1) := by decide +kernel
theorem dX3_hasValue_24 : decode cX3_hasValue 24 = .ok (.if_icmp .ge 7, 3) := by decide +kernel
theorem dX3_hasValue_27 : decode cX3_hasValue 27 = .ok (.iconst 1, 1) := by decide +kernel
theorem dX3_hasValue_28 : decode cX3_hasValue 28 = .ok (.goto 4, 3) := by decide +kernel
theorem dX3_hasValue_31 : decode cX3_hasValue 31 = .ok (.iconst 0, 1) := by decide +kernel
theorem dX3_hasValue_32 : decode cX3_hasValue 32 = .ok (.ireturn, 1) := by decide +kernel
theorem dX3_set_0 : decode cX3_set 0 = .ok (.iload_n 3, 1) := by decide +kernel
theorem dX3_set_1 : decode cX3_set 1 = .ok (.invokestatic 28, 3) := by decide +kernel
theorem dX3_set_4 : decode cX3_set 4 = .ok (.ifCond .eq 12, 3) := by decide +kernel
theorem dX3_set_7 : decode cX3_set 7 = .ok (.aload_n 0, 1) := by decide +kernel
theorem dX3_set_8 : decode cX3_set 8 = .ok (.iload_n 1, 1) := by decide +kernel
theorem dX3_set_9 : decode cX3_set 9 = .ok (.iload_n 2, 1) := by decide +kernel
theorem dX3_set_10 : decode cX3_set 10 = .ok (.invokevirtual 69, 3) := by decide +kernel
theorem dX3_set_13 : decode cX3_set 13 = .ok (.ifCond .ne 5, 3) := by decide +kernel
theorem dX3_set_16 : decode cX3_set 16 = .ok (.iconst 0, 1) := by decide +kernel
theorem dX3_set_17 : decode cX3_set 17 = .ok (.ireturn, 1) := by decide +kernel
theorem dX3_set_18 : decode cX3_set 18 = .ok (.aload_n 0, 1) := by decide +kernel
theorem dX3_set_19 : decode cX3_set 19 = .ok (.aload_n 0, 1) := by decide +kernel
theorem dX3_set_20 : decode cX3_set 20 = .ok (.getfield 13, 3) := by decide +kernel
theorem dX3_set_23 : decode cX3_set 23 = .ok (.iload_n 1, 1) := by decide +kernel
theorem dX3_set_24 : decode cX3_set 24 = .ok (.iaload, 1) := by decide +kernel
theorem dX3_set_25 : decode cX3_set 25 = .ok (.iload_n 2, 1) := by decide +kernel
theorem dX3_set_26 : decode cX3_set 26 = .ok (.invokestatic 41, 3) := by decide +kernel
theorem dX3_set_29 : decode cX3_set 29 = .ok (.iload_n 3, 1) := by decide +kernel
theorem dX3_set_30 : decode cX3_set 30 = .ok (.invokevirtual 58, 3) := by decide +kernel
theorem dX3_set_33 : decode cX3_set 33 = .ok (.iconst 1, 1) := by decide +kernel
theorem dX3_set_34 : decode cX3_set 34 = .ok (.ireturn, 1) := by decide +kernel
end
section
theorem dX3_push_0 : decode cX3_push 0 = .ok (.iload_n 1, 1) := by decide +kernel
theorem dX3_push_1 : decode cX3_push 1 = .ok (.invokestatic 28, 3) := by decide +kernel
theorem dX3_push_4 : decode cX3_push 4 = .ok (.ifCond .eq 12, 3) := by decide +kernel
theorem dX3_push_7 : decode cX3_push 7 = .ok (.aload_n 0, 1) := by decide +kernel
theorem dX3_push_8 : decode cX3_push 8 = .ok (.getfield 35, 3) := by decide +kernel
theorem dX3_push_11 : decode cX3_push 11 = .ok (.bipush 50, 2) := by decide +kernel
theorem dX3_push_13 : decode cX3_push 13 = .ok (.if_icmp .ne 5, 3) := by decide +kernel
theorem dX3_push_16 : decode cX3_push 16 = .ok (.iconst (-1), 1) := by decide +kernel
theorem dX3_push_17 : decode cX3_push 17 = .ok (.ireturn, 1) := by decide +kernel
theorem dX3_push_18 : decode cX3_push 18 = .ok (.aload_n 0, 1) := by decide +kernel
theorem dX3_push_19 : decode cX3_push 19 = .ok (.bipush 10, 2) := by decide +kernel
theorem dX3_push_21 : decode cX3_push 21 = .ok (.aload_n 0, 1) := by decide +kernel
theorem dX3_push_22 : decode cX3_push 22 = .ok (.getfield 35, 3) := by decide +kernel
theorem dX3_push_25 : decode cX3_push 25 = .ok (.iadd, 1) := by decide +kernel
theorem dX3_push_26 : decode cX3_push 26 = .ok (.iload_n 1, 1) := by decide +kernel
theorem dX3_push_27 : decode cX3_push 27 = .ok (.invokevirtual 58, 3) := by decide +kernel
theorem dX3_push_30 : decode cX3_push 30 = .ok (.aload_n 0, 1) := by decide +kernel
theorem dX3_push_31 : decode cX3_push 31 = .ok (.iload_n 1, 1) := by decide +kernel
theorem dX3_push_32 : decode cX3_push 32 = .ok (.invokevirtual 65, 3) := by decide +kernel
theorem dX3_push_35 : decode cX3_push 35 = .ok (.aload_n 0, 1) := by decide +kernel
theorem dX3_push_36 : decode cX3_push 36 = .ok (.dup, 1) := by decide +kernel
theorem dX3_push_37 : decode cX3_push 37 = .ok (.getfield 35, 3) := by decide +kernel
theorem dX3_push_40 : decode cX3_push 40 = .ok (.iconst 1, 1) := by decide +kernel
theorem dX3_push_41 : decode cX3_push 41 = .ok (.iadd, 1) := by decide +kernel
theorem dX3_push_42 : decode cX3_push 42 = .ok (.putfield 35, 3) := by decide +kernel
theorem dX3_push_45 : decode cX3_push 45 = .ok (.aload_n 0, 1) := by decide +kernel
theorem dX3_push_46 : decode cX3_push 46 = .ok (.getfield 35, 3) := by decide +kernel
theorem dX3_push_49 : decode cX3_push 49 = .ok (.ireturn, 1) := by decide +kernel
theorem dX3_pop_0 : decode cX3_pop 0 = .ok (.iload_n 1, 1) := by decide +kernel
theorem dX3_pop_1 : decode cX3_pop 1 = .ok (.invokestatic 28, 3) := by decide +kernel
theorem dX3_pop_4 : decode cX3_pop 4 = .ok (.ifCond .eq 10, 3) := by decide +kernel
theorem dX3_pop_7 : decode cX3_pop 7 = .ok (.aload_n 0, 1) := by decide +kernel
theorem dX3_pop_8 : decode cX3_pop 8 = .ok (.getfield 35, 3) := by decide +kernel
theorem dX3_pop_11 : decode cX3_pop 11 = .ok (.ifCond .ne 5, 3) := by decide +kernel
theorem dX3_pop_14 : decode cX3_pop 14 = .ok (.iconst (-1), 1) := by decide +kernel
theorem dX3_pop_15 : decode cX3_pop 15 = .ok (.ireturn, 1) := by decide +kernel
theorem dX3_pop_16 : decode cX3_pop 16 = .ok (.aload_n 0, 1) := by decide +kernel
theorem dX3_pop_17 : decode cX3_pop 17 = .ok (.dup, 1) := by decide +kernel
theorem dX3_pop_18 : decode cX3_pop 18 = .ok (.getfield 35, 3) := by decide +kernel
theorem dX3_pop_21 : decode cX3_pop 21 = .ok (.iconst 1, 1) := by decide +kernel
theorem dX3_pop_22 : decode cX3_pop 22 = .ok (.isub, 1) := by decide +kernel
theorem dX3_pop_23 : decode cX3_pop 23 = .ok (.putfield 35, 3) := by decide +kernel
theorem dX3_pop_26 : decode cX3_pop 26 = .ok (.aload_n 0, 1) := by decide +kernel
theorem dX3_pop_27 : decode cX3_pop 27 = .ok (.iload_n 1, 1) := by decide +kernel
theorem dX3_pop_28 : decode cX3_pop 28 = .ok (.bipush 10, 2) := by decide +kernel
theorem dX3_pop_30 : decode cX3_pop 30 = .ok (.aload_n 0, 1) := by decide +kernel
theorem dX3_pop_31 : decode cX3_pop 31 = .ok (.getfield 35, 3) := by decide +kernel
theorem dX3_pop_34 : decode cX3_pop 34 = .ok (.iadd, 1) := by decide +kernel
theorem dX3_pop_35 : decode cX3_pop 35 = .ok (.invokevirtual 58, 3) := by decide +kernel
theorem dX3_pop_38 : decode cX3_pop 38 = .ok (.aload_n 0, 1) := by decide +kernel
theorem dX3_pop_39 : decode cX3_pop 39 = .ok (.getfield 35, 3) := by decide +kernel
theorem dX3_pop_42 : decode cX3_pop 42 = .ok (.ireturn, 1) := by decide +kernel
theorem dX3_look_0 : decode cX3_look 0 = .ok (.iload_n 1, 1) := by decide +kernel
theorem dX3_look_1 : decode cX3_look 1 = .ok (.invokestatic 28, 3) := by decide +kernel
theorem dX3_look_4 : decode cX3_look 4 = .ok (.ifCond .ne 7, 3) := by decide +kernel
theorem dX3_look_7 : decode cX3_look 7 = .ok (.iconst (-1), 1) := by decide +kernel
theorem dX3_look_8 : decode cX3_look 8 = .ok (.goto 43, 3) := by decide +kernel
theorem dX3_look_11 : decode cX3_look 11 = .ok (.aload_n 0, 1) := by decide +kernel
theorem dX3_look_12 : decode cX3_look 12 = .ok (.getfield 7, 3) := by decide +kernel
theorem dX3_look_15 : decode cX3_look 15 = .ok (.iload_n 1, 1) := by decide +kernel
theorem dX3_look_16 : decode cX3_look 16 = .ok (.baload, 1) := by decide +kernel
theorem dX3_look_17 : decode cX3_look 17 = .ok (.ifCond .ne 8, 3) := by decide +kernel
theorem dX3_look_20 : decode cX3_look 20 = .ok (.bipush (-2), 2) := by decide +kernel
theorem dX3_look_22 : decode cX3_look 22 = .ok (.goto 29, 3) := by decide +kernel
theorem dX3_look_25 : decode cX3_look 25 = .ok (.aload_n 0, 1) := by decide +kernel
theorem dX3_look_26 : decode cX3_look 26 = .ok (.getfield 7, 3) := by decide +kernel
theorem dX3_look_29 : decode cX3_look 29 = .ok (.iload_n 1, 1) := by decide +kernel
theorem dX3_look_30 : decode cX3_look 30 = .ok (.baload, 1) := by decide +kernel
theorem dX3_look_31 : decode cX3_look 31 = .ok (.iconst 1, 1) := by decide +kernel
theorem dX3_look_32 : decode cX3_look 32 = .ok (.if_icmp .ne 8, 3) := by decide +kernel
theorem dX3_look_35 : decode cX3_look 35 = .ok (.bipush (-3), 2) := by decide +kernel
theorem dX3_look_37 : decode cX3_look 37 = .ok (.goto 14, 3) := by decide +kernel
theorem dX3_look_40 : decode cX3_look 40 = .ok (.aload_n 0, 1) := by decide +kernel
theorem dX3_look_41 : decode cX3_look 41 = .ok (.getfield 17, 3) := by decide +kernel
theorem dX3_look_44 : decode cX3_look 44 = .ok (.aload_n 0, 1) := by decide +kernel
theorem dX3_look_45 : decode cX3_look 45 = .ok (.getfield 13, 3) := by decide +kernel
theorem dX3_look_48 : decode cX3_look 48 = .ok (.iload_n 1, 1) := by decide +kernel
theorem dX3_look_49 : decode cX3_look 49 = .ok (.iaload, 1) := by decide +kernel
theorem dX3_look_50 : decode cX3_look 50 = .ok (.iaload, 1) := by decide +kernel
theorem dX3_look_51 : decode cX3_look 51 = .ok (.ireturn, 1) := by decide +kernel
theorem dX3_numberIn_0 : decode cX3_numberIn 0 = .ok (.iload_n 1, 1) := by decide +kernel
theorem dX3_numberIn_1 : decode cX3_numberIn 1 = .ok (.invokestatic 28, 3) := by decide +kernel
theorem dX3_numberIn_4 : decode cX3_numberIn 4 = .ok (.ifCond .eq 22, 3) := by decide +kernel
theorem dX3_numberIn_7 : decode cX3_numberIn 7 = .ok (.aload_n 0, 1) := by decide +kernel
theorem dX3_numberIn_8 : decode cX3_numberIn 8 = .ok (.getfield 7, 3) := by decide +kernel
theorem dX3_numberIn_11 : decode cX3_numberIn 11 = .ok (.iload_n 1, 1) := by decide +kernel
theorem dX3_numberIn_12 : decode cX3_numberIn 12 = .ok (.baload, 1) := by decide +kernel
theorem dX3_numberIn_13 : decode cX3_numberIn 13 = .ok (.iconst 1, 1) := by decide +kernel
theorem dX3_numberIn_14 : decode cX3_numberIn 14 = .ok (.if_icmp .ne 12, 3) := by decide +kernel
theorem dX3_numberIn_17 : decode cX3_numberIn 17 = .ok (.aload_n 0, 1) := by decide +kernel
theorem dX3_numberIn_18 : decode cX3_numberIn 18 = .ok (.getfield 13, 3) := by decide +kernel
theorem dX3_numberIn_21 : decode cX3_numberIn 21 = .ok (.iload_n 1, 1) := by decide +kernel
theorem dX3_numberIn_22 : decode cX3_numberIn 22 = .ok (.iaload, 1) := by decide +kernel
theorem dX3_numberIn_23 : decode cX3_numberIn 23 = .ok (.goto 4, 3) := by decide +kernel
theorem dX3_numberIn_26 : decode cX3_numberIn 26 = .ok (.iconst 0, 1) := by decide +kernel
theorem dX3_numberIn_27 : decode cX3_numberIn 27 = .ok (.ireturn, 1) := by decide +kernel
theorem dX3_same_0 : decode cX3_same 0 = .ok (.iload_n 1, 1) := by decide +kernel
theorem dX3_same_1 : decode cX3_same 1 = .ok (.invokestatic 28, 3) := by decide +kernel
theorem dX3_same_4 : decode cX3_same 4 = .ok (.ifCond .eq 10, 3) := by decide +kernel
theorem dX3_same_7 : decode cX3_same 7 = .ok (.iload_n 2, 1) := by decide +kernel
theorem dX3_same_8 : decode cX3_same 8 = .ok (.invokestatic 28, 3) := by decide +kernel
theorem dX3_same_11 : decode cX3_same 11 = .ok (.ifCond .ne 7, 3) := by decide +kernel
theorem dX3_same_14 : decode cX3_same 14 = .ok (.iconst (-1), 1) := by decide +kernel
theorem dX3_same_15 : decode cX3_same 15 = .ok (.goto 38, 3) := by decide +kernel
theorem dX3_same_18 : decode cX3_same 18 = .ok (.aload_n 0, 1) := by decide +kernel
theorem dX3_same_19 : decode cX3_same 19 = .ok (.getfield 7, 3) := by decide +kernel
theorem dX3_same_22 : decode cX3_same 22 = .ok (.iload_n 1, 1) := by decide +kernel
theorem dX3_same_23 : decode cX3_same 23 = .ok (.baload, 1) := by decide +kernel
theorem dX3_same_24 : decode cX3_same 24 = .ok (.aload_n 0, 1) := by decide +kernel
theorem dX3_same_25 : decode cX3_same 25 = .ok (.getfield 7, 3) := by decide +kernel
theorem dX3_same_28 : decode cX3_same 28 = .ok (.iload_n 2, 1) := by decide +kernel
theorem dX3_same_29 : decode cX3_same 29 = .ok (.baload, 1) := by decide +kernel
theorem dX3_same_30 : decode cX3_same 30 = .ok (.if_icmp .ne 22, 3) := by decide +kernel
theorem dX3_same_33 : decode cX3_same 33 = .ok (.aload_n 0, 1) := by decide +kernel
theorem dX3_same_34 : decode cX3_same 34 = .ok (.getfield 13, 3) := by decide +kernel
theorem dX3_same_37 : decode cX3_same 37 = .ok (.iload_n 1, 1) := by decide +kernel
theorem dX3_same_38 : decode cX3_same 38 = .ok (.iaload, 1) := by decide +kernel
theorem dX3_same_39 : decode cX3_same 39 = .ok (.aload_n 0, 1) := by decide +kernel
theorem dX3_same_40 : decode cX3_same 40 = .ok (.getfield 13, 3) := by decide +kernel
theorem dX3_same_43 : decode cX3_same 43 = .ok (.iload_n 2, 1) := by decide +kernel
theorem dX3_same_44 : decode cX3_same 44 = .ok (.iaload, 1) := by decide +kernel
theorem dX3_same_45 : decode cX3_same 45 = .ok (.if_icmp .ne 7, 3) := by decide +kernel
theorem dX3_same_48 : decode cX3_same 48 = .ok (.iconst 1, 1) := by decide +kernel
theorem dX3_same_49 : decode cX3_same 49 = .ok (.goto 4, 3) := by decide +kernel
theorem dX3_same_52 : decode cX3_same 52 = .ok (.iconst 0, 1) := by decide +kernel
theorem dX3_same_53 : decode cX3_same 53 = .ok (.ireturn, 1) := by decide +kernel
theorem dX3_count_0 : decode cX3_count 0 = .ok (.iconst 0, 1) := by decide +kernel
theorem dX3_count_1 : decode cX3_count 1 = .ok (.istore_n 2, 1) := by decide +kernel
theorem dX3_count_2 : decode cX3_count 2 = .ok (.aload_n 0, 1) := by decide +kernel
theorem dX3_count_3 : decode cX3_count 3 = .ok (.invokevirtual 48, 3) := by decide +kernel
theorem dX3_count_6 : decode cX3_count 6 = .ok (.istore_n 3, 1) := by decide +kernel
theorem dX3_count_7 : decode cX3_count 7 = .ok (.iconst 0, 1) := by decide +kernel
theorem dX3_count_8 : decode cX3_count 8 = .ok (.istore 4, 2) := by decide +kernel
theorem dX3_count_10 : decode cX3_count 10 = .ok (.iload 4, 2) := by decide +kernel
theorem dX3_count_12 : decode cX3_count 12 = .ok (.aload_n 0, 1) := by decide +kernel
theorem dX3_count_13 : decode cX3_count 13 = .ok (.getfield 32, 3) := by decide +kernel
theorem dX3_count_16 : decode cX3_count 16 = .ok (.if_icmp .ge 27, 3) := by decide +kernel
theorem dX3_count_19 : decode cX3_count 19 = .ok (.aload_n 0, 1) := by decide +kernel
theorem dX3_count_20 : decode cX3_count 20 = .ok (.getfield 20, 3) := by decide +kernel
theorem dX3_count_23 : decode cX3_count 23 = .ok (.iload 4, 2) := by decide +kernel
theorem dX3_count_25 : decode cX3_count 25 = .ok (.baload, 1) := by decide +kernel
theorem dX3_count_26 : decode cX3_count 26 = .ok (.ifCond .eq 9, 3) := by decide +kernel
theorem dX3_count_29 : decode cX3_count 29 = .ok (.iload_n 2, 1) := by decide +kernel
theorem dX3_count_30 : decode cX3_count 30 = .ok (.iconst 1, 1) := by decide +kernel
theorem dX3_count_31 : decode cX3_count 31 = .ok (.iadd, 1) := by decide +kernel
theorem dX3_count_32 : decode cX3_count 32 = .ok (.goto 4, 3) := by decide +kernel
theorem dX3_count_35 : decode cX3_count 35 = .ok (.iload_n 2, 1) := by decide +kernel
theorem dX3_count_36 : decode cX3_count 36 = .ok (.istore_n 2, 1) := by decide +kernel
theorem dX3_count_37 : decode cX3_count 37 = .ok (.iinc 4 1, 3) := by decide +kernel
theorem dX3_count_40 : decode cX3_count 40 = .ok (.goto (-30), 3) := by decide +kernel
theorem dX3_count_43 : decode cX3_count 43 = .ok (.iload_n 1, 1) := by decide +kernel
theorem dX3_count_44 : decode cX3_count 44 = .ok (.ifCond .ne 7, 3) := by decide +kernel
theorem dX3_count_47 : decode cX3_count 47 = .ok (.iload_n 3, 1) := by decide +kernel
theorem dX3_count_48 : decode cX3_count 48 = .ok (.goto 49, 3) := by decide +kernel
theorem dX3_count_51 : decode cX3_count 51 = .ok (.iload_n 1, 1) := by decide +kernel
theorem dX3_count_52 : decode cX3_count 52 = .ok (.iconst 1, 1) := by decide +kernel
theorem dX3_count_53 : decode cX3_count 53 = .ok (.if_icmp .ne 7, 3) := by decide +kernel
theorem dX3_count_56 : decode cX3_count 56 = .ok (.iload_n 2, 1) := by decide +kernel
theorem dX3_count_57 : decode cX3_count 57 = .ok (.goto 40, 3) := by decide +kernel
theorem dX3_count_60 : decode cX3_count 60 = .ok (.iload_n 1, 1) := by decide +kernel
theorem dX3_count_61 : decode cX3_count 61 = .ok (.iconst 2, 1) := by decide +kernel
theorem dX3_count_62 : decode cX3_count 62 = .ok (.if_icmp .ne 10, 3) := by decide +kernel
theorem dX3_count_65 : decode cX3_count 65 = .ok (.aload_n 0, 1) := by decide +kernel
theorem dX3_count_66 : decode cX3_count 66 = .ok (.getfield 35, 3) := by decide +kernel
theorem dX3_count_69 : decode cX3_count 69 = .ok (.goto 28, 3) := by decide +kernel
theorem dX3_count_72 : decode cX3_count 72 = .ok (.iload_n 1, 1) := by decide +kernel
theorem dX3_count_73 : decode cX3_count 73 = .ok (.iconst 3, 1) := by decide +kernel
theorem dX3_count_74 : decode cX3_count 74 = .ok (.if_icmp .ne 10, 3) := by decide +kernel
theorem dX3_count_77 : decode cX3_count 77 = .ok (.aload_n 0, 1) := by decide +kernel
theorem dX3_count_78 : decode cX3_count 78 = .ok (.getfield 32, 3) := by decide +kernel
theorem dX3_count_81 : decode cX3_count 81 = .ok (.goto 16, 3) := by decide +kernel
theorem dX3_count_84 : decode cX3_count 84 = .ok (.iload_n 1, 1) := by decide +kernel
theorem dX3_count_85 : decode cX3_count 85 = .ok (.iconst 4, 1) := by decide +kernel
theorem dX3_count_86 : decode cX3_count 86 = .ok (.if_icmp .ne 10, 3) := by decide +kernel
theorem dX3_count_89 : decode cX3_count 89 = .ok (.aload_n 0, 1) := by decide +kernel
theorem dX3_count_90 : decode cX3_count 90 = .ok (.getfield 52, 3) := by decide +kernel
theorem dX3_count_93 : decode cX3_count 93 = .ok (.goto 4, 3) := by decide +kernel
theorem dX3_count_96 : decode cX3_count 96 = .ok (.iconst (-1), 1) := by decide +kernel
theorem dX3_count_97 : decode cX3_count 97 = .ok (.ireturn, 1) := by decide +kernel
end
section
/-- the machine of one method: world, locals, stack; heap and old writes are left out -/
def gg (p : Program) (l : Launch) (e : Env) (R : Room) (s : State) (m : MethodId) (args : Array Value) (below : List Frame) (meth : Method) (c : Code) (cells slots : Nat) (Q : State → Prop) (D : va_G) (cl : List vw_C) (A : Nat → Prop) (nL : Nat) (ws : va_W) (lv : List (Nat × Value)) (pc : Nat) (st : List Value) : Prop :=
  ∀ (H : Heap) (locs : List Loc) (ls : Array Slot), va_P D cl ws H → va_D A ws → va_S A s.heap H locs → lv_has ls nL lv → W p l e R s m args below meth c H locs cells slots Q (F0 m pc ls st)
/-- what holds all through a method -/
abbrev gx (p : Program) (s : State) (m : MethodId) (args : Array Value) (c : Code) (cc : ByteArray) (nL : Nat) (own : String) (Ts : List Cond) (D : va_G) (cl : List vw_C) (tys : List (ClassId × FieldType)) (A : Nat → Prop) : Prop :=
  p.tables.exec = Jvm.exec ∧ c.code = cc ∧ c.maxLocals = nL ∧ s.vm.findClass own = some m.cls ∧ (∀ w ∈ Ts, w.before args s = true) ∧ va_K D cl tys s ∧ (∀ q : Nat, s.heap.size ≤ q → A q) ∧ NF s
/-- a contract's start -/
def gP (D : va_G) (cl : List vw_C) (tys : List (ClassId × FieldType)) (sz : Nat) (ws : va_W) (U : State) : Prop := U.heap.size = sz ∧ va_P D cl ws U.heap ∧ va_K D cl tys U ∧ va_D (fun _ => True) ws ∧ NF U
theorem gP_blind {D : va_G} {cl : List vw_C} {tys : List (ClassId × FieldType)} {sz : Nat} {ws : va_W} {av : List Value} : FrameBlind (va_Pc av (gP D cl tys sz ws)) := fun a U g mk q => by
  obtain ⟨q0, q1, qP, qK, qD, qN⟩ := q
  exact ⟨q0, q1, qP, va_K.moved (u := U) (U := U.calling g mk a) (Vm.Alike.refl U.vm) qK, qD, NF.same (u := U) (U := U.calling g mk a) rfl qN⟩
theorem gP_at {D : va_G} {cl : List vw_C} {tys : List (ClassId × FieldType)} {ws : va_W} {s : State} {H : Heap} {A : Nat → Prop} {av : List Value} (hK : va_K D cl tys s) (hN : NF s) (hP : va_P D cl ws H) (hD : va_D A ws) : ∀ U : State, U.heap = H → s.WarmedH U.vm → va_Pc av (gP D cl tys H.size ws) av.toArray U :=
  fun U hU hW => ⟨rfl, by rw [hU], by rw [hU]; exact hP, va_K.moved hW.alike hK, hD.weaken (fun _ _ _ _ => trivial), NF.warm hW hN⟩
/-- a contract over a world -/
abbrev mG (l : Launch) (y : MethodName) (wds : List Cond) (rm : Room) (D : va_G) (cl : List vw_C) (tys : List (ClassId × FieldType)) (av : List Value) (ws : va_W) (QQ : (Nat → Prop) → Array Value → State → Outcome → State → Prop) : Prop :=
  ∀ sz : Nat, Met l y wds rm (va_Pc av (gP D cl tys sz ws)) (QQ (va_A ws sz)) rm.cells rm.slots (va_A ws sz)
abbrev qI {S : Type} (D : va_G) (cl : List vw_C) (post : Int32 → S → Prop) (wo : S → va_W) : (Nat → Prop) → Array Value → State → Outcome → State → Prop := fun A => va_Qi post (fun u t => va_P D cl (wo u) t.heap ∧ va_D A (wo u)) A
abbrev qL {S : Type} (D : va_G) (cl : List vw_C) (post : Int64 → S → Prop) (wo : S → va_W) : (Nat → Prop) → Array Value → State → Outcome → State → Prop := fun A => va_Ql post (fun u t => va_P D cl (wo u) t.heap ∧ va_D A (wo u)) A
abbrev qV {S : Type} (D : va_G) (cl : List vw_C) (post : S → Prop) (wo : S → va_W) : (Nat → Prop) → Array Value → State → Outcome → State → Prop := fun A => va_Qv post (fun u t => va_P D cl (wo u) t.heap ∧ va_D A (wo u)) A
abbrev qQ {S : Type} (D : va_G) (cl : List vw_C) (post : Option Nat → S → Prop) (wo : S → va_W) : (Nat → Prop) → Array Value → State → Outcome → State → Prop := fun A => va_Qq post (fun u t => va_P D cl (wo u) t.heap ∧ va_D A (wo u)) A
theorem gg_met {l : Launch} {y : MethodName} {wds wds' : List Cond} {rm : Room} {D : va_G} {cl : List vw_C} {tys : List (ClassId × FieldType)} {av : List Value} {ws : va_W} {QQ : (Nat → Prop) → Array Value → State → Outcome → State → Prop} {cc : ByteArray} {nL : Nat} {ret : Option FieldType} {lv : List (Nat × Value)}
    (hy : plainName y.cls = true) (hw : wds = Cond.code y cc nL ret :: wds') (hlv : lv_args 0 av = lv) (hlen : (lg_sl av).length ≤ nL)
    (body : ∀ (p : Program) (e : Env) (s : State) (m : MethodId) (below : List Frame) (meth : Method) (c : Code) (A : Nat → Prop), gx p s m av.toArray c cc nL y.cls wds D cl tys A → meth.sig.returnType = ret → meth.locks = false → meth.name = y.name →
      gg p l e rm s m av.toArray below meth c 0 0 (MQ below (QQ A) av.toArray s rm.cells rm.slots A) D cl A nL ws lv 0 []) : mG l y wds rm D cl tys av ws QQ := by
  intro sz
  refine Met.ofW (cc := cc) (maxL := nL) (ret := ret) hy hw ?_
  intro p e s m args below meth c s₁ B hml hv
  obtain ⟨rfl, hsz, hP, hK, hD0, hN⟩ := hv
  subst hsz
  have hD := hD0.self (sz := s.heap.size)
  have hl := lv_entry av (n := nL) hlen
  rw [hlv] at hl
  rw [lg_entry_eq]
  exact body p e s m below meth c (va_A ws s.heap.size) ⟨B.exec, B.bytes, hml, findClass_of_methodNamed B.named, atoms_spec (ws := wds) B.pre, hK, fun q h => Or.inr h, hN⟩ B.returns B.notSynchronized (name_of_methodNamed B.named B.method).1 s.heap [] _ hP hD va_S.rf hl
theorem va_D.left {A : Nat → Prop} {w1 w2 : va_W} (hD : va_D A (w1 ++ w2)) : va_D A w1 :=
  hD.by id (fun k q hq => by show (w1 ++ w2)[k]? = some q; rw [List.getElem?_append_left (List.getElem?_eq_some_iff.mp hq).1]; exact hq) (fun _ _ _ _ h => h)
theorem gj_at {w1 w2 : va_W} {k : Nat} {q : Nat × va_E} (hq : w2[k]? = some q) : (w1 ++ w2)[w1.length + k]? = some q := by
  rw [List.getElem?_append_right (Nat.le_add_right _ _), Nat.add_sub_cancel_left]; exact hq
theorem gj_at1 {w1 w2 : va_W} {k : Nat} {q : Nat × va_E} (hq : w1[k]? = some q) : (w1 ++ w2)[k]? = some q := by
  rw [List.getElem?_append_left (List.getElem?_eq_some_iff.mp hq).1]; exact hq
theorem va_D.right {A : Nat → Prop} {w1 w2 : va_W} (hD : va_D A (w1 ++ w2)) : va_D A w2 :=
  hD.by (fun k => w1.length + k) (fun _ _ hq => gj_at hq) (fun i j _ _ h => by omega)
theorem va_P.left {D : va_G} {cl : List vw_C} {w1 w2 : va_W} {H : Heap} (hP : va_P D cl (w1 ++ w2) H) : va_P D cl w1 H := fun k q hq => hP k q (gj_at1 hq)
theorem va_P.right {D : va_G} {cl : List vw_C} {w1 w2 : va_W} {H : Heap} (hP : va_P D cl (w1 ++ w2) H) : va_P D cl w2 H := fun k q hq => hP _ q (gj_at hq)
theorem gj_L {A : Nat → Prop} {D : va_G} {cl : List vw_C} {wc wr w1 : va_W} {H H1 : Heap} (hP : va_P D cl (wc ++ wr) H) (hD : va_D A (wc ++ wr)) (hk : ∀ q : Nat, q < H.size → ¬ va_A wc H.size q → H1[q]? = H[q]?) (hF : ∀ q, va_A wc H.size q → A q) (hP1 : va_P D cl w1 H1) (hD1 : va_D (va_A wc H.size) w1) : va_P D cl (w1 ++ wr) H1 ∧ va_D A (w1 ++ wr) := by
  have apart : ∀ (k : Nat) (q : Nat × va_E), wr[k]? = some q → q.1 < H.size ∧ ¬ va_A wc H.size q.1 := by
    intro k q hq
    have h2 := gj_at (w1 := wc) hq
    refine ⟨(hP _ q h2).lt, fun h => ?_⟩
    rcases h with ⟨j, x, h⟩ | h
    · have h3 := gj_at1 (w2 := wr) h
      have h4 := hD.1 _ _ q (q.1, x) h2 h3 rfl
      have h5 := (List.getElem?_eq_some_iff.mp h).1
      omega
    · have := (hP _ q h2).lt
      omega
  refine ⟨va_P.app hP1 (fun k q hq => ?_), va_D.app (hD1.weaken (fun k q _ h => hF q.1 h)) hD.right (fun i j x y hx hy hxy => ?_)⟩
  · exact (hP _ q (gj_at hq)).kept (hk q.1 (apart k q hq).1 (apart k q hq).2)
  · exact (apart j y hy).2 (by rw [← hxy]; exact hD1.2 i x hx)
theorem gj_R {A : Nat → Prop} {D : va_G} {cl : List vw_C} {wc wl w1 : va_W} {H H1 : Heap} (hP : va_P D cl (wl ++ wc) H) (hD : va_D A (wl ++ wc)) (hk : ∀ q : Nat, q < H.size → ¬ va_A wc H.size q → H1[q]? = H[q]?) (hF : ∀ q, va_A wc H.size q → A q) (hP1 : va_P D cl w1 H1) (hD1 : va_D (va_A wc H.size) w1) : va_P D cl (wl ++ w1) H1 ∧ va_D A (wl ++ w1) := by
  have apart : ∀ (k : Nat) (q : Nat × va_E), wl[k]? = some q → q.1 < H.size ∧ ¬ va_A wc H.size q.1 := by
    intro k q hq
    have h2 := gj_at1 (w2 := wc) hq
    have h5 := (List.getElem?_eq_some_iff.mp hq).1
    refine ⟨(hP _ q h2).lt, fun h => ?_⟩
    rcases h with ⟨j, x, h⟩ | h
    · have h3 := gj_at (w1 := wl) h
      have h4 := hD.1 _ _ q (q.1, x) h2 h3 rfl
      omega
    · have := (hP _ q h2).lt
      omega
  refine ⟨va_P.app (fun k q hq => ?_) hP1, va_D.app hD.left (hD1.weaken (fun k q _ h => hF q.1 h)) (fun i j x y hx hy hxy => ?_)⟩
  · exact (hP _ q (gj_at1 hq)).kept (hk q.1 (apart k q hq).1 (apart k q hq).2)
  · exact (apart i x hx).2 (by rw [hxy]; exact hD1.2 j y hy)
theorem gg_in {n N : Nat} (h : n < N) (hN : N < 2147483648) : vp_in (nI n) N := vp_in_nI h (by omega)

section GG
variable {p : Program} {l : Launch} {e : Env} {R : Room} {s : State} {m : MethodId} {args : Array Value} {below : List Frame} {meth : Method} {c : Code} {cells slots : Nat} {Q : State → Prop}
variable {cc : ByteArray} {nL : Nat} {own : String} {Ts : List Cond} {D : va_G} {cl : List vw_C} {tys : List (ClassId × FieldType)} {A : Nat → Prop} {ws : va_W} {lv : List (Nat × Value)} {pc : Nat} {st : List Value}

theorem gg_ws {ws' : va_W} (h : ws = ws') (k : gg p l e R s m args below meth c cells slots Q D cl A nL ws' lv pc st) : gg p l e R s m args below meth c cells slots Q D cl A nL ws lv pc st := by subst h; exact k
theorem gg_st {st' : List Value} (h : st = st') (k : gg p l e R s m args below meth c cells slots Q D cl A nL ws lv pc st') : gg p l e R s m args below meth c cells slots Q D cl A nL ws lv pc st := by subst h; exact k
theorem gg_lv {lv' : List (Nat × Value)} (ks : List Nat) (h : lv_pick lv ks = lv') (k : gg p l e R s m args below meth c cells slots Q D cl A nL ws lv' pc st) : gg p l e R s m args below meth c cells slots Q D cl A nL ws lv pc st := fun H locs ls hP hD hS hl => k H locs ls hP hD hS (lv_sub hl ks h)
theorem gg_lve {lv' : List (Nat × Value)} (h : lv = lv') (k : gg p l e R s m args below meth c cells slots Q D cl A nL ws lv' pc st) : gg p l e R s m args below meth c cells slots Q D cl A nL ws lv pc st := by subst h; exact k
theorem gg_wide {k n : Nat} (h1 : cells ≤ k) (h2 : slots ≤ n) (kk : gg p l e R s m args below meth c k n Q D cl A nL ws lv pc st) : gg p l e R s m args below meth c cells slots Q D cl A nL ws lv pc st := fun H locs ls hP hD hS hl => W.widen h1 h2 (kk H locs ls hP hD hS hl)
theorem gg_apart {i j a b : Nat} {x y : va_E} (hi : ws[i]? = some (a, x)) (hj : ws[j]? = some (b, y)) (hne : i ≠ j) (k : a ≠ b → gg p l e R s m args below meth c cells slots Q D cl A nL ws lv pc st) : gg p l e R s m args below meth c cells slots Q D cl A nL ws lv pc st := fun H locs ls hP hD hS hl => k (fun q => hne (hD.1 i j _ _ hi hj q)) H locs ls hP hD hS hl
theorem gg_D (k : va_D A ws → gg p l e R s m args below meth c cells slots Q D cl A nL ws lv pc st) : gg p l e R s m args below meth c cells slots Q D cl A nL ws lv pc st := fun H locs ls hP hD hS hl => k hD H locs ls hP hD hS hl
theorem gg_iconst (X : gx p s m args c cc nL own Ts D cl tys A) {n : Int} {v : Int32} (hdg : decode cc pc = .ok (.iconst n, 1)) (hv : Int32.ofInt n = v) (k : gg p l e R s m args below meth c cells slots Q D cl A nL ws lv (pc + 1) (.int v :: st)) : gg p l e R s m args below meth c cells slots Q D cl A nL ws lv pc (st) := fun H locs ls hP hD hS hl => lv_iconst X.1 X.2.1 hdg hv (k H locs ls hP hD hS hl)
theorem gg_bipush (X : gx p s m args c cc nL own Ts D cl tys A) {n : Int} {v : Int32} (hdg : decode cc pc = .ok (.bipush n, 2)) (hv : (Int8.ofInt n).toInt32 = v) (k : gg p l e R s m args below meth c cells slots Q D cl A nL ws lv (pc + 2) (.int v :: st)) : gg p l e R s m args below meth c cells slots Q D cl A nL ws lv pc (st) := fun H locs ls hP hD hS hl => lv_bipush X.1 X.2.1 hdg hv (k H locs ls hP hD hS hl)
theorem gg_sipush (X : gx p s m args c cc nL own Ts D cl tys A) {n : Int} {v : Int32} (hdg : decode cc pc = .ok (.sipush n, 3)) (hv : (Int16.ofInt n).toInt32 = v) (k : gg p l e R s m args below meth c cells slots Q D cl A nL ws lv (pc + 3) (.int v :: st)) : gg p l e R s m args below meth c cells slots Q D cl A nL ws lv pc (st) := fun H locs ls hP hD hS hl => lv_sipush X.1 X.2.1 hdg hv (k H locs ls hP hD hS hl)
theorem gg_lconst (X : gx p s m args c cc nL own Ts D cl tys A) {n : Fin 2} {v : Int64} (hdg : decode cc pc = .ok (.lconst n, 1)) (hv : Int64.ofNat (n : Nat) = v) (k : gg p l e R s m args below meth c cells slots Q D cl A nL ws lv (pc + 1) (.long v :: st)) : gg p l e R s m args below meth c cells slots Q D cl A nL ws lv pc (st) := fun H locs ls hP hD hS hl => lv_lconst X.1 X.2.1 hdg hv (k H locs ls hP hD hS hl)
theorem gg_null (X : gx p s m args c cc nL own Ts D cl tys A)  (hdg : decode cc pc = .ok (.aconst_null, 1)) (k : gg p l e R s m args below meth c cells slots Q D cl A nL ws lv (pc + 1) (.null :: st)) : gg p l e R s m args below meth c cells slots Q D cl A nL ws lv pc (st) := fun H locs ls hP hD hS hl => lv_null X.1 X.2.1 hdg (k H locs ls hP hD hS hl)
theorem gg_ldc2 (X : gx p s m args c cc nL own Ts D cl tys A) {index : Nat} {v : Int64} (hc : Jvm.Cond.constantLong own index v ∈ Ts) (hdg : decode cc pc = .ok (.ldc2_w index, 3)) (k : gg p l e R s m args below meth c cells slots Q D cl A nL ws lv (pc + 3) (.long v :: st)) : gg p l e R s m args below meth c cells slots Q D cl A nL ws lv pc (st) := fun H locs ls hP hD hS hl => lv_ldc2 X.1 X.2.1 X.2.2.2.1 (X.2.2.2.2.1 _ hc) hdg (k H locs ls hP hD hS hl)
theorem gg_iload_n (X : gx p s m args c cc nL own Ts D cl tys A) {k : Fin 4} {i : Nat} {x : Int32} (hdg : decode cc pc = .ok (.iload_n k, 1)) (hi : (k : Nat) = i) (j : Nat) (hj : lv[j]? = some (i, .int x)) (k : gg p l e R s m args below meth c cells slots Q D cl A nL ws lv (pc + 1) (.int x :: st)) : gg p l e R s m args below meth c cells slots Q D cl A nL ws lv pc (st) := fun H locs ls hP hD hS hl => lv_iload_n X.1 X.2.1 hdg hi (lv_at hl j hj) (k H locs ls hP hD hS hl)
theorem gg_iload (X : gx p s m args c cc nL own Ts D cl tys A) {i : Nat} {x : Int32} (hdg : decode cc pc = .ok (.iload i, 2)) (j : Nat) (hj : lv[j]? = some (i, .int x)) (k : gg p l e R s m args below meth c cells slots Q D cl A nL ws lv (pc + 2) (.int x :: st)) : gg p l e R s m args below meth c cells slots Q D cl A nL ws lv pc (st) := fun H locs ls hP hD hS hl => lv_iload X.1 X.2.1 hdg (lv_at hl j hj) (k H locs ls hP hD hS hl)
theorem gg_lload_n (X : gx p s m args c cc nL own Ts D cl tys A) {k : Fin 4} {i : Nat} {x : Int64} (hdg : decode cc pc = .ok (.lload_n k, 1)) (hi : (k : Nat) = i) (j : Nat) (hj : lv[j]? = some (i, .long x)) (k : gg p l e R s m args below meth c cells slots Q D cl A nL ws lv (pc + 1) (.long x :: st)) : gg p l e R s m args below meth c cells slots Q D cl A nL ws lv pc (st) := fun H locs ls hP hD hS hl => lv_lload_n X.1 X.2.1 hdg hi (lv_at hl j hj) (k H locs ls hP hD hS hl)
theorem gg_lload (X : gx p s m args c cc nL own Ts D cl tys A) {i : Nat} {x : Int64} (hdg : decode cc pc = .ok (.lload i, 2)) (j : Nat) (hj : lv[j]? = some (i, .long x)) (k : gg p l e R s m args below meth c cells slots Q D cl A nL ws lv (pc + 2) (.long x :: st)) : gg p l e R s m args below meth c cells slots Q D cl A nL ws lv pc (st) := fun H locs ls hP hD hS hl => lv_lload X.1 X.2.1 hdg (lv_at hl j hj) (k H locs ls hP hD hS hl)
theorem gg_aload_n (X : gx p s m args c cc nL own Ts D cl tys A) {k : Fin 4} {i : Nat} {x : Nat} (hdg : decode cc pc = .ok (.aload_n k, 1)) (hi : (k : Nat) = i) (j : Nat) (hj : lv[j]? = some (i, .ref x)) (k : gg p l e R s m args below meth c cells slots Q D cl A nL ws lv (pc + 1) (.ref x :: st)) : gg p l e R s m args below meth c cells slots Q D cl A nL ws lv pc (st) := fun H locs ls hP hD hS hl => lv_aload_n X.1 X.2.1 hdg hi (lv_at hl j hj) (k H locs ls hP hD hS hl)
theorem gg_aload (X : gx p s m args c cc nL own Ts D cl tys A) {i : Nat} {x : Nat} (hdg : decode cc pc = .ok (.aload i, 2)) (j : Nat) (hj : lv[j]? = some (i, .ref x)) (k : gg p l e R s m args below meth c cells slots Q D cl A nL ws lv (pc + 2) (.ref x :: st)) : gg p l e R s m args below meth c cells slots Q D cl A nL ws lv pc (st) := fun H locs ls hP hD hS hl => lv_aload X.1 X.2.1 hdg (lv_at hl j hj) (k H locs ls hP hD hS hl)
theorem gg_aload_nN (X : gx p s m args c cc nL own Ts D cl tys A) {k : Fin 4} {i : Nat} (hdg : decode cc pc = .ok (.aload_n k, 1)) (hi : (k : Nat) = i) (j : Nat) (hj : lv[j]? = some (i, .null)) (k : gg p l e R s m args below meth c cells slots Q D cl A nL ws lv (pc + 1) (.null :: st)) : gg p l e R s m args below meth c cells slots Q D cl A nL ws lv pc (st) := fun H locs ls hP hD hS hl => lv_aload_nN X.1 X.2.1 hdg hi (lv_at hl j hj) (k H locs ls hP hD hS hl)
theorem gg_aloadN (X : gx p s m args c cc nL own Ts D cl tys A) {i : Nat} (hdg : decode cc pc = .ok (.aload i, 2)) (j : Nat) (hj : lv[j]? = some (i, .null)) (k : gg p l e R s m args below meth c cells slots Q D cl A nL ws lv (pc + 2) (.null :: st)) : gg p l e R s m args below meth c cells slots Q D cl A nL ws lv pc (st) := fun H locs ls hP hD hS hl => lv_aloadN X.1 X.2.1 hdg (lv_at hl j hj) (k H locs ls hP hD hS hl)
theorem gg_aload_nq (X : gx p s m args c cc nL own Ts D cl tys A) {k : Fin 4} {i : Nat} {r : Option Nat} (hdg : decode cc pc = .ok (.aload_n k, 1)) (hi : (k : Nat) = i) (j : Nat) (hj : lv[j]? = some (i, va_rf r)) (k : gg p l e R s m args below meth c cells slots Q D cl A nL ws lv (pc + 1) (va_rf r :: st)) : gg p l e R s m args below meth c cells slots Q D cl A nL ws lv pc st := by
  cases r with
  | none => exact gg_aload_nN X hdg hi j hj k
  | some a => exact gg_aload_n X hdg hi j hj k
theorem gg_aloadq (X : gx p s m args c cc nL own Ts D cl tys A) {i : Nat} {r : Option Nat} (hdg : decode cc pc = .ok (.aload i, 2)) (j : Nat) (hj : lv[j]? = some (i, va_rf r)) (k : gg p l e R s m args below meth c cells slots Q D cl A nL ws lv (pc + 2) (va_rf r :: st)) : gg p l e R s m args below meth c cells slots Q D cl A nL ws lv pc st := by
  cases r with
  | none => exact gg_aloadN X hdg j hj k
  | some a => exact gg_aload X hdg j hj k
theorem gg_istore_n (X : gx p s m args c cc nL own Ts D cl tys A) {k : Fin 4} {i : Nat} {x : Int32} {lv' : List (Nat × Value)} (hdg : decode cc pc = .ok (.istore_n k, 1)) (hi : (k : Nat) = i) (hn : i < nL) (hl' : (i, Value.int x) :: lv.filter (fun q => !(q.1 == i) && !(q.1 + 1 == i && q.2.category == 2)) = lv') (k : gg p l e R s m args below meth c cells slots Q D cl A nL ws lv' (pc + 1) st) : gg p l e R s m args below meth c cells slots Q D cl A nL ws lv pc (Value.int x :: st) := fun H locs ls hP hD hS hl => lv_istore_n X.1 X.2.1 hdg hi hl hn hl' (fun ls' h' => k H locs ls' hP hD hS h')
theorem gg_istore (X : gx p s m args c cc nL own Ts D cl tys A) {i : Nat} {x : Int32} {lv' : List (Nat × Value)} (hdg : decode cc pc = .ok (.istore i, 2)) (hn : i < nL) (hl' : (i, Value.int x) :: lv.filter (fun q => !(q.1 == i) && !(q.1 + 1 == i && q.2.category == 2)) = lv') (k : gg p l e R s m args below meth c cells slots Q D cl A nL ws lv' (pc + 2) st) : gg p l e R s m args below meth c cells slots Q D cl A nL ws lv pc (Value.int x :: st) := fun H locs ls hP hD hS hl => lv_istore X.1 X.2.1 hdg hl hn hl' (fun ls' h' => k H locs ls' hP hD hS h')
theorem gg_lstore_n (X : gx p s m args c cc nL own Ts D cl tys A) {k : Fin 4} {i : Nat} {x : Int64} {lv' : List (Nat × Value)} (hdg : decode cc pc = .ok (.lstore_n k, 1)) (hi : (k : Nat) = i) (hn : i + 1 < nL) (hl' : (i, Value.long x) :: lv.filter (fun q => !(q.1 == i) && (!(q.1 == i + 1) && !(q.1 + 1 == i && q.2.category == 2))) = lv') (k : gg p l e R s m args below meth c cells slots Q D cl A nL ws lv' (pc + 1) st) : gg p l e R s m args below meth c cells slots Q D cl A nL ws lv pc (Value.long x :: st) := fun H locs ls hP hD hS hl => lv_lstore_n X.1 X.2.1 hdg hi hl hn hl' (fun ls' h' => k H locs ls' hP hD hS h')
theorem gg_lstore (X : gx p s m args c cc nL own Ts D cl tys A) {i : Nat} {x : Int64} {lv' : List (Nat × Value)} (hdg : decode cc pc = .ok (.lstore i, 2)) (hn : i + 1 < nL) (hl' : (i, Value.long x) :: lv.filter (fun q => !(q.1 == i) && (!(q.1 == i + 1) && !(q.1 + 1 == i && q.2.category == 2))) = lv') (k : gg p l e R s m args below meth c cells slots Q D cl A nL ws lv' (pc + 2) st) : gg p l e R s m args below meth c cells slots Q D cl A nL ws lv pc (Value.long x :: st) := fun H locs ls hP hD hS hl => lv_lstore X.1 X.2.1 hdg hl hn hl' (fun ls' h' => k H locs ls' hP hD hS h')
theorem gg_astore_n (X : gx p s m args c cc nL own Ts D cl tys A) {k : Fin 4} {i : Nat} {x : Nat} {lv' : List (Nat × Value)} (hdg : decode cc pc = .ok (.astore_n k, 1)) (hi : (k : Nat) = i) (hn : i < nL) (hl' : (i, Value.ref x) :: lv.filter (fun q => !(q.1 == i) && !(q.1 + 1 == i && q.2.category == 2)) = lv') (k : gg p l e R s m args below meth c cells slots Q D cl A nL ws lv' (pc + 1) st) : gg p l e R s m args below meth c cells slots Q D cl A nL ws lv pc (Value.ref x :: st) := fun H locs ls hP hD hS hl => lv_astore_n X.1 X.2.1 hdg hi hl hn hl' (fun ls' h' => k H locs ls' hP hD hS h')
theorem gg_astore (X : gx p s m args c cc nL own Ts D cl tys A) {i : Nat} {x : Nat} {lv' : List (Nat × Value)} (hdg : decode cc pc = .ok (.astore i, 2)) (hn : i < nL) (hl' : (i, Value.ref x) :: lv.filter (fun q => !(q.1 == i) && !(q.1 + 1 == i && q.2.category == 2)) = lv') (k : gg p l e R s m args below meth c cells slots Q D cl A nL ws lv' (pc + 2) st) : gg p l e R s m args below meth c cells slots Q D cl A nL ws lv pc (Value.ref x :: st) := fun H locs ls hP hD hS hl => lv_astore X.1 X.2.1 hdg hl hn hl' (fun ls' h' => k H locs ls' hP hD hS h')
theorem gg_astore_nN (X : gx p s m args c cc nL own Ts D cl tys A) {k : Fin 4} {i : Nat} {lv' : List (Nat × Value)} (hdg : decode cc pc = .ok (.astore_n k, 1)) (hi : (k : Nat) = i) (hn : i < nL) (hl' : (i, Value.null) :: lv.filter (fun q => !(q.1 == i) && !(q.1 + 1 == i && q.2.category == 2)) = lv') (k : gg p l e R s m args below meth c cells slots Q D cl A nL ws lv' (pc + 1) st) : gg p l e R s m args below meth c cells slots Q D cl A nL ws lv pc (Value.null :: st) := fun H locs ls hP hD hS hl => lv_astore_nN X.1 X.2.1 hdg hi hl hn hl' (fun ls' h' => k H locs ls' hP hD hS h')
theorem gg_astoreN (X : gx p s m args c cc nL own Ts D cl tys A) {i : Nat} {lv' : List (Nat × Value)} (hdg : decode cc pc = .ok (.astore i, 2)) (hn : i < nL) (hl' : (i, Value.null) :: lv.filter (fun q => !(q.1 == i) && !(q.1 + 1 == i && q.2.category == 2)) = lv') (k : gg p l e R s m args below meth c cells slots Q D cl A nL ws lv' (pc + 2) st) : gg p l e R s m args below meth c cells slots Q D cl A nL ws lv pc (Value.null :: st) := fun H locs ls hP hD hS hl => lv_astoreN X.1 X.2.1 hdg hl hn hl' (fun ls' h' => k H locs ls' hP hD hS h')
theorem gg_astore_nq (X : gx p s m args c cc nL own Ts D cl tys A) {k : Fin 4} {i : Nat} {r : Option Nat} {lv' : List (Nat × Value)} (hdg : decode cc pc = .ok (.astore_n k, 1)) (hi : (k : Nat) = i) (hn : i < nL) (hl' : (i, va_rf r) :: lv.filter (fun q => !(q.1 == i) && !(q.1 + 1 == i && q.2.category == 2)) = lv') (k : gg p l e R s m args below meth c cells slots Q D cl A nL ws lv' (pc + 1) st) : gg p l e R s m args below meth c cells slots Q D cl A nL ws lv pc (va_rf r :: st) := by
  cases r with
  | none => exact gg_astore_nN X hdg hi hn hl' k
  | some a => exact gg_astore_n X hdg hi hn hl' k
theorem gg_astoreq (X : gx p s m args c cc nL own Ts D cl tys A) {i : Nat} {r : Option Nat} {lv' : List (Nat × Value)} (hdg : decode cc pc = .ok (.astore i, 2)) (hn : i < nL) (hl' : (i, va_rf r) :: lv.filter (fun q => !(q.1 == i) && !(q.1 + 1 == i && q.2.category == 2)) = lv') (k : gg p l e R s m args below meth c cells slots Q D cl A nL ws lv' (pc + 2) st) : gg p l e R s m args below meth c cells slots Q D cl A nL ws lv pc (va_rf r :: st) := by
  cases r with
  | none => exact gg_astoreN X hdg hn hl' k
  | some a => exact gg_astore X hdg hn hl' k
theorem gg_loop {ι : Type} (I : ι → Prop) (mu : ι → Nat) (wf : ι → va_W) (lf : ι → List (Nat × Value)) (step : ∀ a, I a → (∀ b, I b → mu b < mu a → gg p l e R s m args below meth c cells slots Q D cl A nL (wf b) (lf b) pc st) → gg p l e R s m args below meth c cells slots Q D cl A nL (wf a) (lf a) pc st) (a : ι) (h : I a) : gg p l e R s m args below meth c cells slots Q D cl A nL (wf a) (lf a) pc st := by
  have key : ∀ (n : Nat) (a : ι), mu a < n → I a → gg p l e R s m args below meth c cells slots Q D cl A nL (wf a) (lf a) pc st := by
    intro n
    induction n with
    | zero => intro a h1; omega
    | succ n ih => intro a h1 h2; exact step a h2 (fun b hb hm => ih b (by omega) hb)
  exact key (mu a + 1) a (Nat.lt_succ_self _) h
theorem gg_iinc (X : gx p s m args c cc nL own Ts D cl tys A) {i : Nat} {n : Int} {x v : Int32} {lv' : List (Nat × Value)} (hdg : decode cc pc = .ok (.iinc i n, 3)) (j : Nat) (hj : lv[j]? = some (i, .int x)) (hv : x + Int32.ofInt n = v) (hn : i < nL) (hl' : (i, Value.int v) :: lv.filter (fun q => !(q.1 == i) && !(q.1 + 1 == i && q.2.category == 2)) = lv') (k : gg p l e R s m args below meth c cells slots Q D cl A nL ws lv' (pc + 3) st) : gg p l e R s m args below meth c cells slots Q D cl A nL ws lv pc st := fun H locs ls hP hD hS hl => lv_iinc X.1 X.2.1 hdg hl hj hv hn hl' (fun ls' h' => k H locs ls' hP hD hS h')
theorem gg_iadd (X : gx p s m args c cc nL own Ts D cl tys A) {x y v : Int32} (hdg : decode cc pc = .ok (.iadd, 1)) (hv : x + y = v) (k : gg p l e R s m args below meth c cells slots Q D cl A nL ws lv (pc + 1) (.int v :: st)) : gg p l e R s m args below meth c cells slots Q D cl A nL ws lv pc (.int y :: .int x :: st) := fun H locs ls hP hD hS hl => lv_iadd X.1 X.2.1 hdg (by subst hv; exact k H locs ls hP hD hS hl)
theorem gg_isub (X : gx p s m args c cc nL own Ts D cl tys A) {x y v : Int32} (hdg : decode cc pc = .ok (.isub, 1)) (hv : x - y = v) (k : gg p l e R s m args below meth c cells slots Q D cl A nL ws lv (pc + 1) (.int v :: st)) : gg p l e R s m args below meth c cells slots Q D cl A nL ws lv pc (.int y :: .int x :: st) := fun H locs ls hP hD hS hl => lv_isub X.1 X.2.1 hdg (by subst hv; exact k H locs ls hP hD hS hl)
theorem gg_imul (X : gx p s m args c cc nL own Ts D cl tys A) {x y v : Int32} (hdg : decode cc pc = .ok (.imul, 1)) (hv : x * y = v) (k : gg p l e R s m args below meth c cells slots Q D cl A nL ws lv (pc + 1) (.int v :: st)) : gg p l e R s m args below meth c cells slots Q D cl A nL ws lv pc (.int y :: .int x :: st) := fun H locs ls hP hD hS hl => lv_imul X.1 X.2.1 hdg (by subst hv; exact k H locs ls hP hD hS hl)
theorem gg_iand (X : gx p s m args c cc nL own Ts D cl tys A) {x y v : Int32} (hdg : decode cc pc = .ok (.iand, 1)) (hv : x &&& y = v) (k : gg p l e R s m args below meth c cells slots Q D cl A nL ws lv (pc + 1) (.int v :: st)) : gg p l e R s m args below meth c cells slots Q D cl A nL ws lv pc (.int y :: .int x :: st) := fun H locs ls hP hD hS hl => lv_iand X.1 X.2.1 hdg (by subst hv; exact k H locs ls hP hD hS hl)
theorem gg_ladd (X : gx p s m args c cc nL own Ts D cl tys A) {x y v : Int64} (hdg : decode cc pc = .ok (.ladd, 1)) (hv : x + y = v) (k : gg p l e R s m args below meth c cells slots Q D cl A nL ws lv (pc + 1) (.long v :: st)) : gg p l e R s m args below meth c cells slots Q D cl A nL ws lv pc (.long y :: .long x :: st) := fun H locs ls hP hD hS hl => lv_ladd X.1 X.2.1 hdg (by subst hv; exact k H locs ls hP hD hS hl)
theorem gg_lsub (X : gx p s m args c cc nL own Ts D cl tys A) {x y v : Int64} (hdg : decode cc pc = .ok (.lsub, 1)) (hv : x - y = v) (k : gg p l e R s m args below meth c cells slots Q D cl A nL ws lv (pc + 1) (.long v :: st)) : gg p l e R s m args below meth c cells slots Q D cl A nL ws lv pc (.long y :: .long x :: st) := fun H locs ls hP hD hS hl => lv_lsub X.1 X.2.1 hdg (by subst hv; exact k H locs ls hP hD hS hl)
theorem gg_idiv (X : gx p s m args c cc nL own Ts D cl tys A) {x y v : Int32} (hdg : decode cc pc = .ok (.idiv, 1)) (hne : ¬ y = 0) (hv : x / y = v) (k : gg p l e R s m args below meth c cells slots Q D cl A nL ws lv (pc + 1) (.int v :: st)) : gg p l e R s m args below meth c cells slots Q D cl A nL ws lv pc (.int y :: .int x :: st) := fun H locs ls hP hD hS hl => lv_idiv X.1 X.2.1 hdg hne (by subst hv; exact k H locs ls hP hD hS hl)
theorem gg_i2l (X : gx p s m args c cc nL own Ts D cl tys A) {x : Int32} {v : Int64} (hdg : decode cc pc = .ok (.i2l, 1)) (hv : x.toInt64 = v) (k : gg p l e R s m args below meth c cells slots Q D cl A nL ws lv (pc + 1) (.long v :: st)) : gg p l e R s m args below meth c cells slots Q D cl A nL ws lv pc (.int x :: st) := fun H locs ls hP hD hS hl => lv_i2l X.1 X.2.1 hdg hv (k H locs ls hP hD hS hl)
theorem gg_l2i (X : gx p s m args c cc nL own Ts D cl tys A) {x : Int64} {v : Int32} (hdg : decode cc pc = .ok (.l2i, 1)) (hv : x.toInt32 = v) (k : gg p l e R s m args below meth c cells slots Q D cl A nL ws lv (pc + 1) (.int v :: st)) : gg p l e R s m args below meth c cells slots Q D cl A nL ws lv pc (.long x :: st) := fun H locs ls hP hD hS hl => lv_l2i X.1 X.2.1 hdg hv (k H locs ls hP hD hS hl)
theorem gg_lcmp (X : gx p s m args c cc nL own Ts D cl tys A) {x y : Int64} (hdg : decode cc pc = .ok (.lcmp, 1)) (k : gg p l e R s m args below meth c cells slots Q D cl A nL ws lv (pc + 1) (.int (lg_cmp x y) :: st)) : gg p l e R s m args below meth c cells slots Q D cl A nL ws lv pc (.long y :: .long x :: st) := fun H locs ls hP hD hS hl => W.lcmp X.1 X.2.1 hdg (k H locs ls hP hD hS hl)
theorem gg_dup (X : gx p s m args c cc nL own Ts D cl tys A) {va : Value} (hdg : decode cc pc = .ok (.dup, 1)) (hva : va.category = 1) (k : gg p l e R s m args below meth c cells slots Q D cl A nL ws lv (pc + 1) (va :: va :: st)) : gg p l e R s m args below meth c cells slots Q D cl A nL ws lv pc (va :: st) := fun H locs ls hP hD hS hl => lv_dup X.1 X.2.1 hdg hva (k H locs ls hP hD hS hl)
theorem gg_pop (X : gx p s m args c cc nL own Ts D cl tys A) {va : Value} (hdg : decode cc pc = .ok (.pop, 1)) (hva : va.category = 1) (k : gg p l e R s m args below meth c cells slots Q D cl A nL ws lv (pc + 1) (st)) : gg p l e R s m args below meth c cells slots Q D cl A nL ws lv pc (va :: st) := fun H locs ls hP hD hS hl => lv_pop X.1 X.2.1 hdg hva (k H locs ls hP hD hS hl)
theorem gg_dup2 (X : gx p s m args c cc nL own Ts D cl tys A) {va vb : Value} (hdg : decode cc pc = .ok (.dup2, 1)) (hva : va.category = 1) (hvb : vb.category = 1) (k : gg p l e R s m args below meth c cells slots Q D cl A nL ws lv (pc + 1) (va :: vb :: va :: vb :: st)) : gg p l e R s m args below meth c cells slots Q D cl A nL ws lv pc (va :: vb :: st) := fun H locs ls hP hD hS hl => lv_dup2_11 X.1 X.2.1 hdg hva hvb (k H locs ls hP hD hS hl)
theorem gg_if_eq (X : gx p s m args c cc nL own Ts D cl tys A) {x : Int32} {off : Int} {tgt : Nat} (hdg : decode cc pc = .ok (.ifCond .eq off, 3)) (ht : (pc : Int) + off = (tgt : Int)) (kt : x = 0 → gg p l e R s m args below meth c cells slots Q D cl A nL ws lv tgt st) (kf : ¬ x = 0 → gg p l e R s m args below meth c cells slots Q D cl A nL ws lv (pc + 3) st) : gg p l e R s m args below meth c cells slots Q D cl A nL ws lv pc (.int x :: st) := fun H locs ls hP hD hS hl => lv_if_eq X.1 X.2.1 hdg ht (fun q => kt q H locs ls hP hD hS hl) (fun q => kf q H locs ls hP hD hS hl)
theorem gg_icmp_eq (X : gx p s m args c cc nL own Ts D cl tys A) {x y : Int32} {off : Int} {tgt : Nat} (hdg : decode cc pc = .ok (.if_icmp .eq off, 3)) (ht : (pc : Int) + off = (tgt : Int)) (kt : x = y → gg p l e R s m args below meth c cells slots Q D cl A nL ws lv tgt st) (kf : ¬ x = y → gg p l e R s m args below meth c cells slots Q D cl A nL ws lv (pc + 3) st) : gg p l e R s m args below meth c cells slots Q D cl A nL ws lv pc (.int y :: .int x :: st) := fun H locs ls hP hD hS hl => lv_icmp_eq X.1 X.2.1 hdg ht (fun q => kt q H locs ls hP hD hS hl) (fun q => kf q H locs ls hP hD hS hl)
theorem gg_if_ne (X : gx p s m args c cc nL own Ts D cl tys A) {x : Int32} {off : Int} {tgt : Nat} (hdg : decode cc pc = .ok (.ifCond .ne off, 3)) (ht : (pc : Int) + off = (tgt : Int)) (kt : ¬ x = 0 → gg p l e R s m args below meth c cells slots Q D cl A nL ws lv tgt st) (kf : x = 0 → gg p l e R s m args below meth c cells slots Q D cl A nL ws lv (pc + 3) st) : gg p l e R s m args below meth c cells slots Q D cl A nL ws lv pc (.int x :: st) := fun H locs ls hP hD hS hl => lv_if_ne X.1 X.2.1 hdg ht (fun q => kt q H locs ls hP hD hS hl) (fun q => kf q H locs ls hP hD hS hl)
theorem gg_icmp_ne (X : gx p s m args c cc nL own Ts D cl tys A) {x y : Int32} {off : Int} {tgt : Nat} (hdg : decode cc pc = .ok (.if_icmp .ne off, 3)) (ht : (pc : Int) + off = (tgt : Int)) (kt : ¬ x = y → gg p l e R s m args below meth c cells slots Q D cl A nL ws lv tgt st) (kf : x = y → gg p l e R s m args below meth c cells slots Q D cl A nL ws lv (pc + 3) st) : gg p l e R s m args below meth c cells slots Q D cl A nL ws lv pc (.int y :: .int x :: st) := fun H locs ls hP hD hS hl => lv_icmp_ne X.1 X.2.1 hdg ht (fun q => kt q H locs ls hP hD hS hl) (fun q => kf q H locs ls hP hD hS hl)
theorem gg_if_lt (X : gx p s m args c cc nL own Ts D cl tys A) {x : Int32} {off : Int} {tgt : Nat} (hdg : decode cc pc = .ok (.ifCond .lt off, 3)) (ht : (pc : Int) + off = (tgt : Int)) (kt : x < 0 → gg p l e R s m args below meth c cells slots Q D cl A nL ws lv tgt st) (kf : ¬ x < 0 → gg p l e R s m args below meth c cells slots Q D cl A nL ws lv (pc + 3) st) : gg p l e R s m args below meth c cells slots Q D cl A nL ws lv pc (.int x :: st) := fun H locs ls hP hD hS hl => lv_if_lt X.1 X.2.1 hdg ht (fun q => kt q H locs ls hP hD hS hl) (fun q => kf q H locs ls hP hD hS hl)
theorem gg_icmp_lt (X : gx p s m args c cc nL own Ts D cl tys A) {x y : Int32} {off : Int} {tgt : Nat} (hdg : decode cc pc = .ok (.if_icmp .lt off, 3)) (ht : (pc : Int) + off = (tgt : Int)) (kt : x < y → gg p l e R s m args below meth c cells slots Q D cl A nL ws lv tgt st) (kf : ¬ x < y → gg p l e R s m args below meth c cells slots Q D cl A nL ws lv (pc + 3) st) : gg p l e R s m args below meth c cells slots Q D cl A nL ws lv pc (.int y :: .int x :: st) := fun H locs ls hP hD hS hl => lv_icmp_lt X.1 X.2.1 hdg ht (fun q => kt q H locs ls hP hD hS hl) (fun q => kf q H locs ls hP hD hS hl)
theorem gg_if_ge (X : gx p s m args c cc nL own Ts D cl tys A) {x : Int32} {off : Int} {tgt : Nat} (hdg : decode cc pc = .ok (.ifCond .ge off, 3)) (ht : (pc : Int) + off = (tgt : Int)) (kt : 0 ≤ x → gg p l e R s m args below meth c cells slots Q D cl A nL ws lv tgt st) (kf : ¬ 0 ≤ x → gg p l e R s m args below meth c cells slots Q D cl A nL ws lv (pc + 3) st) : gg p l e R s m args below meth c cells slots Q D cl A nL ws lv pc (.int x :: st) := fun H locs ls hP hD hS hl => lv_if_ge X.1 X.2.1 hdg ht (fun q => kt q H locs ls hP hD hS hl) (fun q => kf q H locs ls hP hD hS hl)
theorem gg_icmp_ge (X : gx p s m args c cc nL own Ts D cl tys A) {x y : Int32} {off : Int} {tgt : Nat} (hdg : decode cc pc = .ok (.if_icmp .ge off, 3)) (ht : (pc : Int) + off = (tgt : Int)) (kt : y ≤ x → gg p l e R s m args below meth c cells slots Q D cl A nL ws lv tgt st) (kf : ¬ y ≤ x → gg p l e R s m args below meth c cells slots Q D cl A nL ws lv (pc + 3) st) : gg p l e R s m args below meth c cells slots Q D cl A nL ws lv pc (.int y :: .int x :: st) := fun H locs ls hP hD hS hl => lv_icmp_ge X.1 X.2.1 hdg ht (fun q => kt q H locs ls hP hD hS hl) (fun q => kf q H locs ls hP hD hS hl)
theorem gg_if_gt (X : gx p s m args c cc nL own Ts D cl tys A) {x : Int32} {off : Int} {tgt : Nat} (hdg : decode cc pc = .ok (.ifCond .gt off, 3)) (ht : (pc : Int) + off = (tgt : Int)) (kt : 0 < x → gg p l e R s m args below meth c cells slots Q D cl A nL ws lv tgt st) (kf : ¬ 0 < x → gg p l e R s m args below meth c cells slots Q D cl A nL ws lv (pc + 3) st) : gg p l e R s m args below meth c cells slots Q D cl A nL ws lv pc (.int x :: st) := fun H locs ls hP hD hS hl => lv_if_gt X.1 X.2.1 hdg ht (fun q => kt q H locs ls hP hD hS hl) (fun q => kf q H locs ls hP hD hS hl)
theorem gg_icmp_gt (X : gx p s m args c cc nL own Ts D cl tys A) {x y : Int32} {off : Int} {tgt : Nat} (hdg : decode cc pc = .ok (.if_icmp .gt off, 3)) (ht : (pc : Int) + off = (tgt : Int)) (kt : y < x → gg p l e R s m args below meth c cells slots Q D cl A nL ws lv tgt st) (kf : ¬ y < x → gg p l e R s m args below meth c cells slots Q D cl A nL ws lv (pc + 3) st) : gg p l e R s m args below meth c cells slots Q D cl A nL ws lv pc (.int y :: .int x :: st) := fun H locs ls hP hD hS hl => lv_icmp_gt X.1 X.2.1 hdg ht (fun q => kt q H locs ls hP hD hS hl) (fun q => kf q H locs ls hP hD hS hl)
theorem gg_if_le (X : gx p s m args c cc nL own Ts D cl tys A) {x : Int32} {off : Int} {tgt : Nat} (hdg : decode cc pc = .ok (.ifCond .le off, 3)) (ht : (pc : Int) + off = (tgt : Int)) (kt : x ≤ 0 → gg p l e R s m args below meth c cells slots Q D cl A nL ws lv tgt st) (kf : ¬ x ≤ 0 → gg p l e R s m args below meth c cells slots Q D cl A nL ws lv (pc + 3) st) : gg p l e R s m args below meth c cells slots Q D cl A nL ws lv pc (.int x :: st) := fun H locs ls hP hD hS hl => lv_if_le X.1 X.2.1 hdg ht (fun q => kt q H locs ls hP hD hS hl) (fun q => kf q H locs ls hP hD hS hl)
theorem gg_icmp_le (X : gx p s m args c cc nL own Ts D cl tys A) {x y : Int32} {off : Int} {tgt : Nat} (hdg : decode cc pc = .ok (.if_icmp .le off, 3)) (ht : (pc : Int) + off = (tgt : Int)) (kt : x ≤ y → gg p l e R s m args below meth c cells slots Q D cl A nL ws lv tgt st) (kf : ¬ x ≤ y → gg p l e R s m args below meth c cells slots Q D cl A nL ws lv (pc + 3) st) : gg p l e R s m args below meth c cells slots Q D cl A nL ws lv pc (.int y :: .int x :: st) := fun H locs ls hP hD hS hl => lv_icmp_le X.1 X.2.1 hdg ht (fun q => kt q H locs ls hP hD hS hl) (fun q => kf q H locs ls hP hD hS hl)
theorem gg_goto (X : gx p s m args c cc nL own Ts D cl tys A) {off : Int} {tgt : Nat} (hdg : decode cc pc = .ok (.goto off, 3)) (ht : (pc : Int) + off = (tgt : Int)) (k : gg p l e R s m args below meth c cells slots Q D cl A nL ws lv tgt (st)) : gg p l e R s m args below meth c cells slots Q D cl A nL ws lv pc (st) := fun H locs ls hP hD hS hl => lv_goto X.1 X.2.1 hdg ht (k H locs ls hP hD hS hl)
theorem gg_ifnull (X : gx p s m args c cc nL own Ts D cl tys A) {r : Option Nat} {off : Int} {tgt : Nat} (hdg : decode cc pc = .ok (.ifnull off, 3)) (ht : (pc : Int) + off = (tgt : Int)) (kt : r = none → gg p l e R s m args below meth c cells slots Q D cl A nL ws lv tgt st) (kf : ∀ a : Nat, r = some a → gg p l e R s m args below meth c cells slots Q D cl A nL ws lv (pc + 3) st) : gg p l e R s m args below meth c cells slots Q D cl A nL ws lv pc (va_rf r :: st) := by
  intro H locs ls hP hD hS hl
  cases r with
  | none => exact lv_ifnullN X.1 X.2.1 hdg ht (kt rfl H locs ls hP hD hS hl)
  | some a => exact lv_ifnull X.1 X.2.1 hdg (kf a rfl H locs ls hP hD hS hl)
theorem gg_ifnonnull (X : gx p s m args c cc nL own Ts D cl tys A) {r : Option Nat} {off : Int} {tgt : Nat} (hdg : decode cc pc = .ok (.ifnonnull off, 3)) (ht : (pc : Int) + off = (tgt : Int)) (kt : ∀ a : Nat, r = some a → gg p l e R s m args below meth c cells slots Q D cl A nL ws lv tgt st) (kf : r = none → gg p l e R s m args below meth c cells slots Q D cl A nL ws lv (pc + 3) st) : gg p l e R s m args below meth c cells slots Q D cl A nL ws lv pc (va_rf r :: st) := by
  intro H locs ls hP hD hS hl
  cases r with
  | none => exact lv_ifnonnullN X.1 X.2.1 hdg (kf rfl H locs ls hP hD hS hl)
  | some a => exact lv_ifnonnull X.1 X.2.1 hdg ht (kt a rfl H locs ls hP hD hS hl)
theorem gg_ifnullS (X : gx p s m args c cc nL own Ts D cl tys A) {x : Nat} {off : Int} (hdg : decode cc pc = .ok (.ifnull off, 3)) (k : gg p l e R s m args below meth c cells slots Q D cl A nL ws lv (pc + 3) (st)) : gg p l e R s m args below meth c cells slots Q D cl A nL ws lv pc (.ref x :: st) := fun H locs ls hP hD hS hl => lv_ifnull X.1 X.2.1 hdg (k H locs ls hP hD hS hl)
theorem gg_ifnullZ (X : gx p s m args c cc nL own Ts D cl tys A) {off : Int} {tgt : Nat} (hdg : decode cc pc = .ok (.ifnull off, 3)) (ht : (pc : Int) + off = (tgt : Int)) (k : gg p l e R s m args below meth c cells slots Q D cl A nL ws lv tgt (st)) : gg p l e R s m args below meth c cells slots Q D cl A nL ws lv pc (.null :: st) := fun H locs ls hP hD hS hl => lv_ifnullN X.1 X.2.1 hdg ht (k H locs ls hP hD hS hl)
theorem gg_ifnonnullS (X : gx p s m args c cc nL own Ts D cl tys A) {x : Nat} {off : Int} {tgt : Nat} (hdg : decode cc pc = .ok (.ifnonnull off, 3)) (ht : (pc : Int) + off = (tgt : Int)) (k : gg p l e R s m args below meth c cells slots Q D cl A nL ws lv tgt (st)) : gg p l e R s m args below meth c cells slots Q D cl A nL ws lv pc (.ref x :: st) := fun H locs ls hP hD hS hl => lv_ifnonnull X.1 X.2.1 hdg ht (k H locs ls hP hD hS hl)
theorem gg_ifnonnullZ (X : gx p s m args c cc nL own Ts D cl tys A) {off : Int} (hdg : decode cc pc = .ok (.ifnonnull off, 3)) (k : gg p l e R s m args below meth c cells slots Q D cl A nL ws lv (pc + 3) (st)) : gg p l e R s m args below meth c cells slots Q D cl A nL ws lv pc (.null :: st) := fun H locs ls hP hD hS hl => lv_ifnonnullN X.1 X.2.1 hdg (k H locs ls hP hD hS hl)
theorem gg_tableOut (X : gx p s m args c cc nL own Ts D cl tys A) {dflt lo hi : Int} {offs : Array Int} {len : Nat} {x : Int32} {tgt : Nat} (hdg : decode cc pc = .ok (.tableswitch dflt lo hi offs, len)) (h : x.toInt < lo ∨ hi < x.toInt) (ht : (pc : Int) + dflt = (tgt : Int)) (k : gg p l e R s m args below meth c cells slots Q D cl A nL ws lv tgt st) : gg p l e R s m args below meth c cells slots Q D cl A nL ws lv pc (.int x :: st) := fun H locs ls hP hD hS hl => lv_tableOut X.1 X.2.1 hdg h ht (k H locs ls hP hD hS hl)
theorem gg_tableIn (X : gx p s m args c cc nL own Ts D cl tys A) {dflt lo hi : Int} {offs : Array Int} {len : Nat} {x : Int32} {off : Int} {tgt : Nat} (hdg : decode cc pc = .ok (.tableswitch dflt lo hi offs, len)) (h1 : ¬ x.toInt < lo) (h2 : ¬ hi < x.toInt) (ho : offs[(x.toInt - lo).toNat]? = some off) (ht : (pc : Int) + off = (tgt : Int)) (k : gg p l e R s m args below meth c cells slots Q D cl A nL ws lv tgt st) : gg p l e R s m args below meth c cells slots Q D cl A nL ws lv pc (.int x :: st) := fun H locs ls hP hD hS hl => lv_tableIn X.1 X.2.1 hdg h1 h2 ho ht (k H locs ls hP hD hS hl)
theorem gg_get (X : gx p s m args c cc nL own Ts D cl tys A) {C : String} {T : u_T} {N ci index : Nat} {a : Nat} (hdg : decode cc pc = .ok (.getfield index, 3)) (hin : ∀ w ∈ u_ws C T N, w ∈ Ts) (q0 : Nat) {fs : List Value} (he : ws[q0]? = some (a, .inr (ci, fs))) (hc : cl[ci]? = some (C, T, N)) (k : Nat) (hk : k < N) (hm : Cond.fieldLink own index (T k).1 (T k).2.1 (T k).2.2.1 ∈ Ts) {v : Value} (hv : fs[k]? = some v) (kk : gg p l e R s m args below meth c cells slots Q D cl A nL ws lv (pc + 3) (v :: st)) : gg p l e R s m args below meth c cells slots Q D cl A nL ws lv pc (.ref a :: st) := fun H locs ls hP hD hS hl => va_get X.1 X.2.1 X.2.2.2.2.1 hin X.2.2.2.1 X.2.2.2.2.2.1 hP q0 he hc k hk (X.2.2.2.2.1 _ hm) (fun _ h9 => h9) hv hdg (kk H locs ls hP hD hS hl)
theorem gg_getN (X : gx p s m args c cc nL own Ts D cl tys A) {C : String} {T : u_T} {N ci index : Nat} {a : Nat} {host : String} (hdg : decode cc pc = .ok (.getfield index, 3)) (hin : ∀ w ∈ u_ws C T N, w ∈ Ts) (q0 : Nat) {fs : List Value} (he : ws[q0]? = some (a, .inr (ci, fs))) (hc : cl[ci]? = some (C, T, N)) (k : Nat) (hk : k < N) (hm : va_Nw (.fieldLinkNest own index (T k).1 (T k).2.1 (T k).2.2.1 host) s) {v : Value} (hv : fs[k]? = some v) (kk : gg p l e R s m args below meth c cells slots Q D cl A nL ws lv (pc + 3) (v :: st)) : gg p l e R s m args below meth c cells slots Q D cl A nL ws lv pc (.ref a :: st) := fun H locs ls hP hD hS hl => va_getN X.1 X.2.1 X.2.2.2.2.1 hin X.2.2.2.1 X.2.2.2.2.2.1 hP q0 he hc k hk (va_Nw.use rfl hm) (fun _ h9 => h9) hv hdg (kk H locs ls hP hD hS hl)
theorem gg_put (X : gx p s m args c cc nL own Ts D cl tys A) {C : String} {T : u_T} {N ci index : Nat} {a : Nat} (hdg : decode cc pc = .ok (.putfield index, 3)) (hin : ∀ w ∈ u_ws C T N, w ∈ Ts) (ty0 : Nat → FieldType) (hty : ∀ k, k < N → parseFieldDescriptor (T k).2.2.1 = some (ty0 k)) (hnm : ∀ a, a < N → ∀ b, b < N → a ≠ b → (T a).2.1 ≠ (T b).2.1) (q0 : Nat) {fs : List Value} (he : ws[q0]? = some (a, .inr (ci, fs))) (hc : cl[ci]? = some (C, T, N)) (k : Nat) (hk : k < N) (hm : Cond.fieldLink own index (T k).1 (T k).2.1 (T k).2.2.1 ∈ Ts) {ws' : va_W} (hfin : (T k).2.2.2 = false) {ty : FieldType} {v : Value} (hd : parseFieldDescriptor (T k).2.2.1 = some ty) (hn : narrow ty v = v) (hfit : fits ty v = true) (hl' : k < fs.length) (hws : ws.set q0 (a, .inr (ci, fs.set k v)) = ws') (kk : gg p l e R s m args below meth c cells slots Q D cl A nL ws' lv (pc + 3) st) : gg p l e R s m args below meth c cells slots Q D cl A nL ws lv pc (v :: .ref a :: st) := fun H locs ls hP hD hS hl => va_put X.1 X.2.1 X.2.2.2.2.1 hin ty0 hty hnm X.2.2.2.1 X.2.2.2.2.2.1 hP hD hS q0 he hc k hk (X.2.2.2.2.1 _ hm) (fun _ h9 => h9) hfin hd hn hfit hl' hdg (fun H1 locs1 hP1 hD1 hS1 => kk H1 locs1 ls (hws ▸ hP1) (hws ▸ hD1) hS1 hl)
theorem gg_putN (X : gx p s m args c cc nL own Ts D cl tys A) {C : String} {T : u_T} {N ci index : Nat} {a : Nat} {host : String} (hdg : decode cc pc = .ok (.putfield index, 3)) (hin : ∀ w ∈ u_ws C T N, w ∈ Ts) (ty0 : Nat → FieldType) (hty : ∀ k, k < N → parseFieldDescriptor (T k).2.2.1 = some (ty0 k)) (hnm : ∀ a, a < N → ∀ b, b < N → a ≠ b → (T a).2.1 ≠ (T b).2.1) (q0 : Nat) {fs : List Value} (he : ws[q0]? = some (a, .inr (ci, fs))) (hc : cl[ci]? = some (C, T, N)) (k : Nat) (hk : k < N) (hm : va_Nw (.fieldLinkNest own index (T k).1 (T k).2.1 (T k).2.2.1 host) s) {ws' : va_W} (hfin : (T k).2.2.2 = false) {ty : FieldType} {v : Value} (hd : parseFieldDescriptor (T k).2.2.1 = some ty) (hn : narrow ty v = v) (hfit : fits ty v = true) (hl' : k < fs.length) (hws : ws.set q0 (a, .inr (ci, fs.set k v)) = ws') (kk : gg p l e R s m args below meth c cells slots Q D cl A nL ws' lv (pc + 3) st) : gg p l e R s m args below meth c cells slots Q D cl A nL ws lv pc (v :: .ref a :: st) := fun H locs ls hP hD hS hl => va_putN X.1 X.2.1 X.2.2.2.2.1 hin ty0 hty hnm X.2.2.2.1 X.2.2.2.2.2.1 hP hD hS q0 he hc k hk (va_Nw.use rfl hm) (fun _ h9 => h9) hfin hd hn hfit hl' hdg (fun H1 locs1 hP1 hD1 hS1 => kk H1 locs1 ls (hws ▸ hP1) (hws ▸ hD1) hS1 hl)
theorem gg_putF (X : gx p s m args c cc nL own Ts D cl tys A) {C : String} {T : u_T} {N ci index : Nat} {a : Nat} (hdg : decode cc pc = .ok (.putfield index, 3)) (hin : ∀ w ∈ u_ws C T N, w ∈ Ts) (ty0 : Nat → FieldType) (hty : ∀ k, k < N → parseFieldDescriptor (T k).2.2.1 = some (ty0 k)) (hnm : ∀ a, a < N → ∀ b, b < N → a ≠ b → (T a).2.1 ≠ (T b).2.1) (q0 : Nat) {fs : List Value} (he : ws[q0]? = some (a, .inr (ci, fs))) (hc : cl[ci]? = some (C, T, N)) (k : Nat) (hk : k < N) (hm : Cond.fieldLink own index (T k).1 (T k).2.1 (T k).2.2.1 ∈ Ts) (hin2 : meth.name = "<init>") (hdecl : (T k).1 = own) {ws' : va_W} (hfin : (T k).2.2.2 = true) {ty : FieldType} {v : Value} (hd : parseFieldDescriptor (T k).2.2.1 = some ty) (hn : narrow ty v = v) (hfit : fits ty v = true) (hl' : k < fs.length) (hws : ws.set q0 (a, .inr (ci, fs.set k v)) = ws') (kk : gg p l e R s m args below meth c cells slots Q D cl A nL ws' lv (pc + 3) st) : gg p l e R s m args below meth c cells slots Q D cl A nL ws lv pc (v :: .ref a :: st) := fun H locs ls hP hD hS hl => va_putF X.1 X.2.1 X.2.2.2.2.1 hin ty0 hty hnm X.2.2.2.1 X.2.2.2.2.2.1 hP hD hS q0 he hc k hk (X.2.2.2.2.1 _ hm) (fun _ h9 => h9) hfin hin2 hdecl hd hn hfit hl' hdg (fun H1 locs1 hP1 hD1 hS1 => kk H1 locs1 ls (hws ▸ hP1) (hws ▸ hD1) hS1 hl)
theorem gg_iald (X : gx p s m args c cc nL own Ts D cl tys A) {a : Nat} (hdg : decode cc pc = .ok (.iaload, 1)) (q0 t0 : Nat) {cA : ClassId} {n : Nat} {f : Nat → Int32} (ha : ws[q0]? = some (a, .inl (cA, n, .inl f))) (ht : tys[t0]? = some (cA, .int)) {i : Int32} (j : Nat) (hi : i = nI j) (hj : j < n) (hn : n < 2147483648) (k : gg p l e R s m args below meth c cells slots Q D cl A nL ws lv (pc + 1) (.int (f j) :: st)) : gg p l e R s m args below meth c cells slots Q D cl A nL ws lv pc (.int i :: .ref a :: st) := by
  intro H locs ls hP hD hS hl
  subst hi
  refine va_iald X.1 X.2.1 X.2.2.2.2.2.1 hP q0 t0 ha ht (gg_in hj hn) hdg ?_
  rw [nI_clamp (by omega)]
  exact k H locs ls hP hD hS hl
theorem gg_bald (X : gx p s m args c cc nL own Ts D cl tys A) {a : Nat} (hdg : decode cc pc = .ok (.baload, 1)) (q0 t0 : Nat) {cA : ClassId} {n : Nat} {f : Nat → Int32} (ha : ws[q0]? = some (a, .inl (cA, n, .inl f))) (ht : tys[t0]? = some (cA, .byte)) {i : Int32} (j : Nat) (hi : i = nI j) (hj : j < n) (hn : n < 2147483648) (k : gg p l e R s m args below meth c cells slots Q D cl A nL ws lv (pc + 1) (.int (f j) :: st)) : gg p l e R s m args below meth c cells slots Q D cl A nL ws lv pc (.int i :: .ref a :: st) := by
  intro H locs ls hP hD hS hl
  subst hi
  refine va_bald X.1 X.2.1 X.2.2.2.2.2.1 hP q0 t0 ha ht (gg_in hj hn) hdg ?_
  rw [nI_clamp (by omega)]
  exact k H locs ls hP hD hS hl
theorem gg_zald (X : gx p s m args c cc nL own Ts D cl tys A) {a : Nat} (hdg : decode cc pc = .ok (.baload, 1)) (q0 t0 : Nat) {cA : ClassId} {n : Nat} {f : Nat → Int32} (ha : ws[q0]? = some (a, .inl (cA, n, .inl f))) (ht : tys[t0]? = some (cA, .boolean)) {i : Int32} (j : Nat) (hi : i = nI j) (hj : j < n) (hn : n < 2147483648) (k : gg p l e R s m args below meth c cells slots Q D cl A nL ws lv (pc + 1) (.int (f j) :: st)) : gg p l e R s m args below meth c cells slots Q D cl A nL ws lv pc (.int i :: .ref a :: st) := by
  intro H locs ls hP hD hS hl
  subst hi
  refine va_zald X.1 X.2.1 X.2.2.2.2.2.1 hP q0 t0 ha ht (gg_in hj hn) hdg ?_
  rw [nI_clamp (by omega)]
  exact k H locs ls hP hD hS hl
theorem gg_lald (X : gx p s m args c cc nL own Ts D cl tys A) {a : Nat} (hdg : decode cc pc = .ok (.laload, 1)) (q0 t0 : Nat) {cA : ClassId} {n : Nat} {f : Nat → Int64} (ha : ws[q0]? = some (a, .inl (cA, n, .inr (.inl f)))) (ht : tys[t0]? = some (cA, .long)) {i : Int32} (j : Nat) (hi : i = nI j) (hj : j < n) (hn : n < 2147483648) (k : gg p l e R s m args below meth c cells slots Q D cl A nL ws lv (pc + 1) (.long (f j) :: st)) : gg p l e R s m args below meth c cells slots Q D cl A nL ws lv pc (.int i :: .ref a :: st) := by
  intro H locs ls hP hD hS hl
  subst hi
  refine va_lald X.1 X.2.1 X.2.2.2.2.2.1 hP q0 t0 ha ht (gg_in hj hn) hdg ?_
  rw [nI_clamp (by omega)]
  exact k H locs ls hP hD hS hl
theorem gg_aldq (X : gx p s m args c cc nL own Ts D cl tys A) {a : Nat} (hdg : decode cc pc = .ok (.aaload, 1)) (q0 t0 : Nat) {cA : ClassId} {Cn : String} {n : Nat} {f : Nat → Option Nat} (ha : ws[q0]? = some (a, .inl (cA, n, .inr (.inr (.inr (.inr f)))))) (ht : tys[t0]? = some (cA, .object Cn)) {i : Int32} (j : Nat) (hi : i = nI j) (hj : j < n) (hn : n < 2147483648) {r : Option Nat} (hr : f j = r) (k : gg p l e R s m args below meth c cells slots Q D cl A nL ws lv (pc + 1) (va_rf r :: st)) : gg p l e R s m args below meth c cells slots Q D cl A nL ws lv pc (.int i :: .ref a :: st) := by
  intro H locs ls hP hD hS hl
  subst hi
  subst hr
  refine va_aldq X.1 X.2.1 X.2.2.2.2.2.1 hP q0 t0 ha ht (gg_in hj hn) hdg ?_
  rw [nI_clamp (by omega)]
  exact k H locs ls hP hD hS hl
theorem gg_iast (X : gx p s m args c cc nL own Ts D cl tys A) {a : Nat} {ws' : va_W} (hdg : decode cc pc = .ok (.iastore, 1)) (q0 t0 : Nat) {cA : ClassId} {n : Nat} {f : Nat → Int32} (ha : ws[q0]? = some (a, .inl (cA, n, .inl f))) (ht : tys[t0]? = some (cA, .int)) {i : Int32} {x : Int32} (j : Nat) (hi : i = nI j) (hj : j < n) (hn : n < 2147483648) (hws : ws.set q0 (a, .inl (cA, n, .inl (upd f j x))) = ws') (k : gg p l e R s m args below meth c cells slots Q D cl A nL ws' lv (pc + 1) st) : gg p l e R s m args below meth c cells slots Q D cl A nL ws lv pc (.int x :: .int i :: .ref a :: st) := by
  intro H locs ls hP hD hS hl
  subst hi
  refine va_iast X.1 X.2.1 X.2.2.2.2.2.1 hP hD hS q0 t0 ha ht (gg_in hj hn) hdg (fun H1 locs1 hP1 hD1 hS1 => ?_)
  rw [nI_clamp (by omega)] at hP1 hD1
  exact k H1 locs1 ls (hws ▸ hP1) (hws ▸ hD1) hS1 hl
theorem gg_bast (X : gx p s m args c cc nL own Ts D cl tys A) {a : Nat} {ws' : va_W} (hdg : decode cc pc = .ok (.bastore, 1)) (q0 t0 : Nat) {cA : ClassId} {n : Nat} {f : Nat → Int32} (ha : ws[q0]? = some (a, .inl (cA, n, .inl f))) (ht : tys[t0]? = some (cA, .byte)) {i : Int32} {x : Int32} (j : Nat) (hi : i = nI j) (hj : j < n) (hn : n < 2147483648) (hx : vp_nar .byte x = x) (hws : ws.set q0 (a, .inl (cA, n, .inl (upd f j x))) = ws') (k : gg p l e R s m args below meth c cells slots Q D cl A nL ws' lv (pc + 1) st) : gg p l e R s m args below meth c cells slots Q D cl A nL ws lv pc (.int x :: .int i :: .ref a :: st) := by
  intro H locs ls hP hD hS hl
  subst hi
  refine va_bast X.1 X.2.1 X.2.2.2.2.2.1 hP hD hS q0 t0 ha ht (gg_in hj hn) hdg (fun H1 locs1 hP1 hD1 hS1 => ?_)
  rw [nI_clamp (by omega)] at hP1 hD1
  rw [hx] at hP1 hD1
  exact k H1 locs1 ls (hws ▸ hP1) (hws ▸ hD1) hS1 hl
theorem gg_zast (X : gx p s m args c cc nL own Ts D cl tys A) {a : Nat} {ws' : va_W} (hdg : decode cc pc = .ok (.bastore, 1)) (q0 t0 : Nat) {cA : ClassId} {n : Nat} {f : Nat → Int32} (ha : ws[q0]? = some (a, .inl (cA, n, .inl f))) (ht : tys[t0]? = some (cA, .boolean)) {i : Int32} {x : Int32} (j : Nat) (hi : i = nI j) (hj : j < n) (hn : n < 2147483648) (hx : vp_nar .boolean x = x) (hws : ws.set q0 (a, .inl (cA, n, .inl (upd f j x))) = ws') (k : gg p l e R s m args below meth c cells slots Q D cl A nL ws' lv (pc + 1) st) : gg p l e R s m args below meth c cells slots Q D cl A nL ws lv pc (.int x :: .int i :: .ref a :: st) := by
  intro H locs ls hP hD hS hl
  subst hi
  refine va_zast X.1 X.2.1 X.2.2.2.2.2.1 hP hD hS q0 t0 ha ht (gg_in hj hn) hdg (fun H1 locs1 hP1 hD1 hS1 => ?_)
  rw [nI_clamp (by omega)] at hP1 hD1
  rw [hx] at hP1 hD1
  exact k H1 locs1 ls (hws ▸ hP1) (hws ▸ hD1) hS1 hl
theorem gg_last (X : gx p s m args c cc nL own Ts D cl tys A) {a : Nat} {ws' : va_W} (hdg : decode cc pc = .ok (.lastore, 1)) (q0 t0 : Nat) {cA : ClassId} {n : Nat} {f : Nat → Int64} (ha : ws[q0]? = some (a, .inl (cA, n, .inr (.inl f)))) (ht : tys[t0]? = some (cA, .long)) {i : Int32} {x : Int64} (j : Nat) (hi : i = nI j) (hj : j < n) (hn : n < 2147483648) (hws : ws.set q0 (a, .inl (cA, n, .inr (.inl (vp_updL f j x)))) = ws') (k : gg p l e R s m args below meth c cells slots Q D cl A nL ws' lv (pc + 1) st) : gg p l e R s m args below meth c cells slots Q D cl A nL ws lv pc (.long x :: .int i :: .ref a :: st) := by
  intro H locs ls hP hD hS hl
  subst hi
  refine va_last X.1 X.2.1 X.2.2.2.2.2.1 hP hD hS q0 t0 ha ht (gg_in hj hn) hdg (fun H1 locs1 hP1 hD1 hS1 => ?_)
  rw [nI_clamp (by omega)] at hP1 hD1
  exact k H1 locs1 ls (hws ▸ hP1) (hws ▸ hD1) hS1 hl
theorem gg_astq (X : gx p s m args c cc nL own Ts D cl tys A) {a v : Nat} {ws' : va_W} (hdg : decode cc pc = .ok (.aastore, 1)) (q0 t0 qk ci : Nat) {cA : ClassId} {r : vw_C} {n : Nat} {vs : List Value} {f : Nat → Option Nat} (ha : ws[q0]? = some (a, .inl (cA, n, .inr (.inr (.inr (.inr f)))))) (ht : tys[t0]? = some (cA, .object r.1)) (hv : ws[qk]? = some (v, .inr (ci, vs))) (hc : cl[ci]? = some r) {i : Int32} (j : Nat) (hi : i = nI j) (hj : j < n) (hn : n < 2147483648) (hws : ws.set q0 (a, .inl (cA, n, .inr (.inr (.inr (.inr (va_up f j (some v))))))) = ws') (k : gg p l e R s m args below meth c cells slots Q D cl A nL ws' lv (pc + 1) st) : gg p l e R s m args below meth c cells slots Q D cl A nL ws lv pc (.ref v :: .int i :: .ref a :: st) := by
  intro H locs ls hP hD hS hl
  subst hi
  refine va_astq X.1 X.2.1 X.2.2.2.2.2.1 hP hD hS q0 t0 qk ci ha ht hv hc (gg_in hj hn) hdg (fun H1 locs1 hP1 hD1 hS1 => ?_)
  rw [nI_clamp (by omega)] at hP1 hD1
  exact k H1 locs1 ls (hws ▸ hP1) (hws ▸ hD1) hS1 hl
theorem gg_alen (X : gx p s m args c cc nL own Ts D cl tys A) {a : Nat} (hdg : decode cc pc = .ok (.arraylength, 1)) (q0 t0 : Nat) {cA : ClassId} {x : vp_A} (ha : ws[q0]? = some (a, .inl (cA, x))) {ty : FieldType} (ht : tys[t0]? = some (cA, ty)) {v : Int32} (hv : nI x.1 = v) (k : gg p l e R s m args below meth c cells slots Q D cl A nL ws lv (pc + 1) (.int v :: st)) : gg p l e R s m args below meth c cells slots Q D cl A nL ws lv pc (.ref a :: st) := fun H locs ls hP hD hS hl => va_alen X.1 X.2.1 X.2.2.2.2.2.1 hP q0 t0 ha ht hv hdg (k H locs ls hP hD hS hl)
theorem gg_newa (X : gx p s m args c cc nL own Ts D cl tys A) {atype : ArrayType} (hdg : decode cc pc = .ok (.newarray atype, 2)) {ty : FieldType} (hty : newarray.typeOf atype = ty) (hprim : ∀ Cn, ty ≠ .object Cn) (harr : Cond.arrayClass ty ∈ Ts) (t0 : Nat) {cA : ClassId} (ht : tys[t0]? = some (cA, ty)) {n : Int32} (N' : Nat) {a0 : vp_A} (ha : ∀ cA : ClassId, vp_cell cA a0 = arrV cA N' (fun _ => defaultValue ty)) (hnN : n = nI N') (hN : N' < 2147483648) (hbytes : N' * componentBytes ty ≤ 536870912) (hcells : cells + 1 ≤ R.cells) (hslots : slots + N' ≤ R.slots) (k : ∀ q : Nat, gg p l e R s m args below meth c (cells + 1) (slots + N') Q D cl A nL (ws ++ [(q, .inl (cA, a0))]) lv (pc + 2) (.ref q :: st)) : gg p l e R s m args below meth c cells slots Q D cl A nL ws lv pc (.int n :: st) := by
  intro H locs ls hP hD hS hl
  subst hty
  subst hnN
  refine va_newa X.1 X.2.1 (X.2.2.2.2.1 _ harr) rfl X.2.2.2.2.2.1 hP hD hS X.2.2.2.2.2.2.1 ha (nI_pos (by omega)) (nI_clamp (by omega)) hbytes hcells hslots hdg (fun q cB H1 hK1 hP1 hD1 hS1 => ?_)
  have e1 := (X.2.2.2.2.2.1.2 t0 _ ht).2
  have e2 := (hK1.2 tys.length (cB, newarray.typeOf atype) (by simp)).2
  have e3 : cB = cA := by
    revert hprim e1 e2
    cases atype <;> (intro _ h1 h2; exact Option.some.inj (Eq.trans (Eq.symm (show s.vm.findClass _ = some cB from h2)) (show s.vm.findClass _ = some cA from h1)))
  subst e3
  exact k q H1 locs ls hP1 hD1 hS1 hl
theorem gg_newq (X : gx p s m args c cc nL own Ts D cl tys A) {Cn : String} {index : Nat} (hdg : decode cc pc = .ok (.anewarray index, 3)) (hcl : Cond.classLink own index Cn ∈ Ts) (hao : va_AO Cn s) (t0 : Nat) {cA : ClassId} (ht : tys[t0]? = some (cA, .object Cn)) {n : Int32} (N' : Nat) (hnN : n = nI N') (hN : N' < 2147483648) (hbytes : N' * 4 ≤ 536870912) (hcells : cells + 1 ≤ R.cells) (hslots : slots + N' ≤ R.slots) (k : ∀ q : Nat, gg p l e R s m args below meth c (cells + 1) (slots + N') Q D cl A nL (ws ++ [(q, .inl (cA, N', .inr (.inr (.inr (.inr (fun _ => none))))))]) lv (pc + 3) (.ref q :: st)) : gg p l e R s m args below meth c cells slots Q D cl A nL ws lv pc (.int n :: st) := by
  intro H locs ls hP hD hS hl
  subst hnN
  refine va_newq X.1 X.2.1 X.2.2.2.1 (X.2.2.2.2.1 _ hcl) hao X.2.2.2.2.2.1 hP hD hS X.2.2.2.2.2.2.1 (nI_pos (by omega)) (nI_clamp (by omega)) hbytes hcells hslots hdg (fun q cB H1 hK1 hP1 hD1 hS1 => ?_)
  obtain ⟨_, _, -, -, -, e1⟩ := (X.2.2.2.2.2.1.2 t0 _ ht).2
  obtain ⟨_, _, -, -, -, e2⟩ := (hK1.2 tys.length (cB, .object Cn) (by simp)).2
  have e3 : cB = cA := Option.some.inj (e2.symm.trans e1)
  subst e3
  exact k q H1 locs ls hP1 hD1 hS1 hl
theorem gg_new (X : gx p s m args c cc nL own Ts D cl tys A) {C : String} {T : u_T} {N' ci index : Nat} (hdg : decode cc pc = .ok (.new index, 3)) (hin : ∀ w ∈ u_ws C T N', w ∈ Ts) (ty : Nat → FieldType) (hty : ∀ k, k < N' → parseFieldDescriptor (T k).2.2.1 = some (ty k)) (hcl : Cond.classLink own index C ∈ Ts) (hinst : Cond.instantiable C N' ∈ Ts) (hini : Cond.initialized C ∈ Ts) (hc : cl[ci]? = some (C, T, N')) {fs : List Value} (hfs : ∀ j, j < N' → defaultValue (ty j) = vp_V fs j) (hcells : cells + 1 ≤ R.cells) (hslots : slots + N' ≤ R.slots) (k : ∀ q : Nat, gg p l e R s m args below meth c (cells + 1) (slots + N') Q D cl A nL (ws ++ [(q, .inr (ci, fs))]) lv (pc + 3) (.ref q :: st)) : gg p l e R s m args below meth c cells slots Q D cl A nL ws lv pc st := fun H locs ls hP hD hS hl => va_new X.1 X.2.1 X.2.2.2.2.1 hin ty hty X.2.2.2.1 (X.2.2.2.2.1 _ hcl) (X.2.2.2.2.1 _ hinst) (X.2.2.2.2.1 _ hini) X.2.2.2.2.2.1 hP hD hS X.2.2.2.2.2.2.1 hc hfs hcells hslots hdg (fun q H1 hP1 hD1 hS1 => k q H1 locs ls hP1 hD1 hS1 hl)
theorem gg_objInit (X : gx p s m args c cc nL own Ts D cl tys A) {idx a : Nat} (hdg : decode cc pc = .ok (.invokespecial idx, 3)) (h1 : Cond.methodLink own idx objectInit ∈ Ts) (h2 : Cond.instanceMethod objectInit ∈ Ts) (h3 : Cond.code objectInit ⟨#[0xb1]⟩ 1 none ∈ Ts) (hf : 1 ≤ R.frames) (hlo : (st.map fun v => v.category).sum + 12 ≤ R.locals) (k : gg p l e R s m args below meth c cells slots Q D cl A nL ws lv (pc + 3) st) : gg p l e R s m args below meth c cells slots Q D cl A nL ws lv pc (.ref a :: st) := by
  intro H locs ls hP hD hS hl
  refine W.objInit X.1 X.2.1 X.2.2.2.1 (X.2.2.2.2.1 _ h1) (X.2.2.2.2.1 _ h2) (X.2.2.2.2.1 _ h3) rfl (by rw [X.2.2.1]; exact hl.1) rfl hdg hf ?_ ?_
  · have h9 : (F0 m pc ls (.ref a :: st)).monitorRoom = 0 := rfl
    rw [h9]
    omega
  · exact k H locs ls hP hD hS hl
theorem gg_iret (X : gx p s m args c cc nL own Ts D cl tys A) {S : Type} {wo : S → va_W} {k n : Nat} {post : Int32 → S → Prop} {v : Int32} (hdg : decode cc pc = .ok (.ireturn, 1)) (hr : meth.sig.returnType = some .int) (hk : meth.locks = false) (u : S) (hu : post v u) (hw : ws = wo u) (h1 : cells ≤ k) (h2 : slots ≤ n) : gg p l e R s m args below meth c cells slots (MQ below (qI D cl post wo A) args s k n A) D cl A nL ws lv pc [.int v] := by
  intro H locs ls hP hD hS hl
  subst hw
  refine W.widen h1 h2 ?_
  exact W.iret X.1 X.2.1 hr (fun t ht hW => ⟨⟨v, u, rfl, hu, by rw [ht]; exact hP, hD⟩, hS.F ht⟩) hS.2.2 hdg (hlocks := hk)
theorem gg_zret (X : gx p s m args c cc nL own Ts D cl tys A) {S : Type} {wo : S → va_W} {k n : Nat} {post : Int32 → S → Prop} {v : Int32} (hdg : decode cc pc = .ok (.ireturn, 1)) (hr : meth.sig.returnType = some .boolean) (hk : meth.locks = false) (hn : narrow .boolean (.int v) = .int v) (u : S) (hu : post v u) (hw : ws = wo u) (h1 : cells ≤ k) (h2 : slots ≤ n) : gg p l e R s m args below meth c cells slots (MQ below (qI D cl post wo A) args s k n A) D cl A nL ws lv pc [.int v] := by
  intro H locs ls hP hD hS hl
  subst hw
  refine W.widen h1 h2 ?_
  exact W.zret X.1 X.2.1 hr hn (fun t ht hW => ⟨⟨v, u, rfl, hu, by rw [ht]; exact hP, hD⟩, hS.F ht⟩) hS.2.2 hdg (hlocks := hk)
theorem gg_lret (X : gx p s m args c cc nL own Ts D cl tys A) {S : Type} {wo : S → va_W} {k n : Nat} {post : Int64 → S → Prop} {v : Int64} (hdg : decode cc pc = .ok (.lreturn, 1)) (hr : meth.sig.returnType = some .long) (hk : meth.locks = false) (u : S) (hu : post v u) (hw : ws = wo u) (h1 : cells ≤ k) (h2 : slots ≤ n) : gg p l e R s m args below meth c cells slots (MQ below (qL D cl post wo A) args s k n A) D cl A nL ws lv pc [.long v] := by
  intro H locs ls hP hD hS hl
  subst hw
  refine W.widen h1 h2 ?_
  exact W.lret X.1 X.2.1 hr (fun t ht hW => ⟨⟨v, u, rfl, hu, by rw [ht]; exact hP, hD⟩, hS.F ht⟩) hS.2.2 hdg (hlocks := hk)
theorem gg_vret (X : gx p s m args c cc nL own Ts D cl tys A) {S : Type} {wo : S → va_W} {k n : Nat} {post : S → Prop} (hdg : decode cc pc = .ok (.return_, 1)) (hr : meth.sig.returnType = none) (hk : meth.locks = false) (u : S) (hu : post u) (hw : ws = wo u) (h1 : cells ≤ k) (h2 : slots ≤ n) : gg p l e R s m args below meth c cells slots (MQ below (qV D cl post wo A) args s k n A) D cl A nL ws lv pc [] := by
  intro H locs ls hP hD hS hl
  subst hw
  refine W.widen h1 h2 ?_
  exact W.vret X.1 X.2.1 hr (fun t ht hW => ⟨⟨u, rfl, hu, by rw [ht]; exact hP, hD⟩, hS.F ht⟩) hS.2.2 hdg (hlocks := hk)
theorem gg_aret (X : gx p s m args c cc nL own Ts D cl tys A) {S : Type} {wo : S → va_W} {k n : Nat} {post : Option Nat → S → Prop} {r : Option Nat} {cn : String} (hdg : decode cc pc = .ok (.areturn, 1)) (hr : meth.sig.returnType = some (.object cn)) (hk : meth.locks = false) (u : S) (hu : post r u) (hw : ws = wo u) (h1 : cells ≤ k) (h2 : slots ≤ n) : gg p l e R s m args below meth c cells slots (MQ below (qQ D cl post wo A) args s k n A) D cl A nL ws lv pc [va_rf r] := by
  intro H locs ls hP hD hS hl
  subst hw
  refine W.widen h1 h2 ?_
  exact W.aret X.1 X.2.1 hr (Or.inl ⟨cn, rfl⟩) (va_rf_or r) (fun t ht hW => ⟨⟨r, u, rfl, hu, by rw [ht]; exact hP, hD⟩, hS.F ht⟩) hS.2.2 hdg (hlocks := hk)
end GG
section GR
variable {p : Program} {l : Launch} {e : Env} {R : Room} {s : State} {m : MethodId} {args : Array Value} {below : List Frame} {meth : Method} {c : Code} {cells slots : Nat} {Q : State → Prop}
variable {cc : ByteArray} {nL : Nat} {own : String} {Ts : List Cond} {D : va_G} {cl : List vw_C} {tys : List (ClassId × FieldType)} {A : Nat → Prop} {ws : va_W} {lv : List (Nat × Value)} {pc : Nat} {st : List Value}

variable {y : MethodName} {wds : List Cond} {rm : Room} {As rest : List Value} {QQ : (Nat → Prop) → Array Value → State → Outcome → State → Prop} {wc : va_W} {tyc : List (ClassId × FieldType)} {bytes : ByteArray} {maxL n index b : Nat} {ret : Option FieldType} {C host : String}
theorem gr_V (X : gx p s m args c cc nL own Ts D cl tys A) (hdg : decode cc pc = .ok (.invokevirtual index, 3)) (hK : va_K D cl tyc s) (hM : mG l y wds rm D cl tyc (.ref b :: As) wc QQ) (cw : CallW R s args own C index y bytes maxL ret wds rm rm.cells rm.slots n) {q0 ci : Nat} {r : vw_C} {fs : List Value} (he : wc[q0]? = some (b, .inr (ci, fs))) (hc : cl[ci]? = some r) (hC : r.1 = C) (hn : As.length = n) (hst : st = As.reverse ++ .ref b :: rest) (hroom : (rest.map fun v => v.category).sum ≤ 8) (hf : cells + rm.cells ≤ R.cells ∧ slots + rm.slots ≤ R.slots) : ∀ (H : Heap) (locs : List Loc) (ls : Array Slot), va_P D cl wc H → va_D A wc → lv_has ls nL lv → va_Run p l e R s m args below meth c H locs cells slots rm.cells rm.slots (F0 m pc ls st) rest (QQ (va_A wc H.size) (Value.ref b :: As).toArray) (va_A wc H.size) := by
  intro H locs ls hP hD hl
  subst hst
  subst hC
  exact va_runV ⟨X.1, X.2.1, X.2.2.1, X.2.2.2.1, X.2.2.2.2.1⟩ (hM H.size) cw ⟨gP_blind, va_recv hK hP hc he, gP_at hK X.2.2.2.2.2.2.2 hP hD⟩ rfl hn hl.1 rfl (lv_room hroom) hdg hf
theorem gr_VN (X : gx p s m args c cc nL own Ts D cl tys A) (hdg : decode cc pc = .ok (.invokevirtual index, 3)) (hK : va_K D cl tyc s) (hM : mG l y wds rm D cl tyc (.ref b :: As) wc QQ) (cw : va_CN R s args own index y host bytes maxL ret wds rm rm.cells rm.slots n ∧ (Cond.instanceMethod y).before args s = true ∧ (Cond.selects C y y).before args s = true) {q0 ci : Nat} {r : vw_C} {fs : List Value} (he : wc[q0]? = some (b, .inr (ci, fs))) (hc : cl[ci]? = some r) (hC : r.1 = C) (hn : As.length = n) (hst : st = As.reverse ++ .ref b :: rest) (hroom : (rest.map fun v => v.category).sum ≤ 8) (hf : cells + rm.cells ≤ R.cells ∧ slots + rm.slots ≤ R.slots) : ∀ (H : Heap) (locs : List Loc) (ls : Array Slot), va_P D cl wc H → va_D A wc → lv_has ls nL lv → va_Run p l e R s m args below meth c H locs cells slots rm.cells rm.slots (F0 m pc ls st) rest (QQ (va_A wc H.size) (Value.ref b :: As).toArray) (va_A wc H.size) := by
  intro H locs ls hP hD hl
  subst hst
  subst hC
  exact va_runVN ⟨X.1, X.2.1, X.2.2.1, X.2.2.2.1, X.2.2.2.2.1⟩ (hM H.size) cw ⟨gP_blind, va_recv hK hP hc he, gP_at hK X.2.2.2.2.2.2.2 hP hD⟩ rfl hn hl.1 rfl (lv_room hroom) hdg hf
theorem gr_S (X : gx p s m args c cc nL own Ts D cl tys A) (hdg : decode cc pc = .ok (.invokestatic index, 3)) (hK : va_K D cl tyc s) (hM : mG l y wds rm D cl tyc As wc QQ) (cw : CallB R s args own index y bytes maxL ret wds rm rm.cells rm.slots n ∧ (Cond.static y).before args s = true) (hn : As.length = n) (hst : st = As.reverse ++ rest) (hroom : (rest.map fun v => v.category).sum ≤ 8) (hf : cells + rm.cells ≤ R.cells ∧ slots + rm.slots ≤ R.slots) : ∀ (H : Heap) (locs : List Loc) (ls : Array Slot), va_P D cl wc H → va_D A wc → lv_has ls nL lv → va_Run p l e R s m args below meth c H locs cells slots rm.cells rm.slots (F0 m pc ls st) rest (QQ (va_A wc H.size) As.toArray) (va_A wc H.size) := by
  intro H locs ls hP hD hl
  subst hst
  exact va_runS ⟨X.1, X.2.1, X.2.2.1, X.2.2.2.1, X.2.2.2.2.1⟩ (hM H.size) cw ⟨gP_blind, gP_at hK X.2.2.2.2.2.2.2 hP hD⟩ rfl hn hl.1 rfl (lv_room hroom) hdg hf
theorem gr_SN (X : gx p s m args c cc nL own Ts D cl tys A) (hdg : decode cc pc = .ok (.invokestatic index, 3)) (hK : va_K D cl tyc s) (hM : mG l y wds rm D cl tyc As wc QQ) (cw : va_CN R s args own index y host bytes maxL ret wds rm rm.cells rm.slots n ∧ (Cond.static y).before args s = true ∧ True) (hn : As.length = n) (hst : st = As.reverse ++ rest) (hroom : (rest.map fun v => v.category).sum ≤ 8) (hf : cells + rm.cells ≤ R.cells ∧ slots + rm.slots ≤ R.slots) : ∀ (H : Heap) (locs : List Loc) (ls : Array Slot), va_P D cl wc H → va_D A wc → lv_has ls nL lv → va_Run p l e R s m args below meth c H locs cells slots rm.cells rm.slots (F0 m pc ls st) rest (QQ (va_A wc H.size) As.toArray) (va_A wc H.size) := by
  intro H locs ls hP hD hl
  subst hst
  exact va_runSN ⟨X.1, X.2.1, X.2.2.1, X.2.2.2.1, X.2.2.2.2.1⟩ (hM H.size) cw ⟨gP_blind, gP_at hK X.2.2.2.2.2.2.2 hP hD⟩ rfl hn hl.1 rfl (lv_room hroom) hdg hf
theorem gr_I (X : gx p s m args c cc nL own Ts D cl tys A) (hdg : decode cc pc = .ok (.invokespecial index, 3)) (hK : va_K D cl tyc s) (hM : mG l y wds rm D cl tyc (.ref b :: As) wc QQ) (cw : CallB R s args own index y bytes maxL none wds rm rm.cells rm.slots n ∧ y.name = "<init>" ∧ (Cond.instanceMethod y).before args s = true) (hn : As.length = n) (hst : st = As.reverse ++ .ref b :: rest) (hroom : (rest.map fun v => v.category).sum ≤ 8) (hf : cells + rm.cells ≤ R.cells ∧ slots + rm.slots ≤ R.slots) : ∀ (H : Heap) (locs : List Loc) (ls : Array Slot), va_P D cl wc H → va_D A wc → lv_has ls nL lv → va_Run p l e R s m args below meth c H locs cells slots rm.cells rm.slots (F0 m pc ls st) rest (QQ (va_A wc H.size) (Value.ref b :: As).toArray) (va_A wc H.size) := by
  intro H locs ls hP hD hl
  subst hst
  exact va_runI ⟨X.1, X.2.1, X.2.2.1, X.2.2.2.1, X.2.2.2.2.1⟩ (hM H.size) cw ⟨gP_blind, gP_at hK X.2.2.2.2.2.2.2 hP hD⟩ rfl hn hl.1 rfl (lv_room hroom) hdg hf
theorem gr_IN (X : gx p s m args c cc nL own Ts D cl tys A) (hdg : decode cc pc = .ok (.invokespecial index, 3)) (hK : va_K D cl tyc s) (hM : mG l y wds rm D cl tyc (.ref b :: As) wc QQ) (cw : va_CN R s args own index y host bytes maxL none wds rm rm.cells rm.slots n ∧ y.name = "<init>" ∧ (Cond.instanceMethod y).before args s = true) (hn : As.length = n) (hst : st = As.reverse ++ .ref b :: rest) (hroom : (rest.map fun v => v.category).sum ≤ 8) (hf : cells + rm.cells ≤ R.cells ∧ slots + rm.slots ≤ R.slots) : ∀ (H : Heap) (locs : List Loc) (ls : Array Slot), va_P D cl wc H → va_D A wc → lv_has ls nL lv → va_Run p l e R s m args below meth c H locs cells slots rm.cells rm.slots (F0 m pc ls st) rest (QQ (va_A wc H.size) (Value.ref b :: As).toArray) (va_A wc H.size) := by
  intro H locs ls hP hD hl
  subst hst
  exact va_runIN ⟨X.1, X.2.1, X.2.2.1, X.2.2.2.1, X.2.2.2.2.1⟩ (hM H.size) cw ⟨gP_blind, gP_at hK X.2.2.2.2.2.2.2 hP hD⟩ rfl hn hl.1 rfl (lv_room hroom) hdg hf
end GR
section GC
variable {p : Program} {l : Launch} {e : Env} {R : Room} {s : State} {m : MethodId} {args : Array Value} {below : List Frame} {meth : Method} {c : Code} {cells slots : Nat} {Q : State → Prop}
variable {cc : ByteArray} {nL : Nat} {own : String} {Ts : List Cond} {D : va_G} {cl : List vw_C} {tys : List (ClassId × FieldType)} {A : Nat → Prop} {ws : va_W} {lv : List (Nat × Value)} {pc : Nat} {st : List Value}

variable {S : Type} {wo : S → va_W} {mc ms : Nat} {a : Array Value} {rest : List Value} {wc wr : va_W}
theorem gc_i (X : gx p s m args c cc nL own Ts D cl tys A) {post : Int32 → S → Prop} (hrun : ∀ (H : Heap) (locs : List Loc) (ls : Array Slot), va_P D cl wc H → va_D A wc → lv_has ls nL lv → va_Run p l e R s m args below meth c H locs cells slots mc ms (F0 m pc ls st) rest (qI D cl post wo (va_A wc H.size) a) (va_A wc H.size)) (kk : ∀ r u, post r u → gg p l e R s m args below meth c (cells + mc) (slots + ms) Q D cl A nL (wo u) lv (pc + 3) (.int r :: rest)) : gg p l e R s m args below meth c cells slots Q D cl A nL wc lv pc st := by
  intro H locs ls hP hD hS hl
  have hF : ∀ q, va_A wc H.size q → A q := by
    intro q h
    rcases h with ⟨k, x, h⟩ | h
    · exact hD.2 k _ h
    · exact X.2.2.2.2.2.2.1 q (Nat.le_trans hS.1 h)
  refine va_calli (hrun H locs ls hP hD hl) hS (fun q _ h => hF q h) hF (fun r u t H1 locs1 ht hvm hp hB hz hk hS1 => ?_)
  obtain ⟨hP1, hD1⟩ := hB
  rw [ht] at hP1
  exact kk r u hp H1 locs1 ls hP1 (hD1.weaken (fun k q _ h => hF q.1 h)) hS1 hl
theorem gc_iL (X : gx p s m args c cc nL own Ts D cl tys A) {post : Int32 → S → Prop} (hrun : ∀ (H : Heap) (locs : List Loc) (ls : Array Slot), va_P D cl wc H → va_D A wc → lv_has ls nL lv → va_Run p l e R s m args below meth c H locs cells slots mc ms (F0 m pc ls st) rest (qI D cl post wo (va_A wc H.size) a) (va_A wc H.size)) (kk : ∀ r u, post r u → gg p l e R s m args below meth c (cells + mc) (slots + ms) Q D cl A nL (wo u ++ wr) lv (pc + 3) (.int r :: rest)) : gg p l e R s m args below meth c cells slots Q D cl A nL (wc ++ wr) lv pc st := by
  intro H locs ls hP hD hS hl
  have hF : ∀ q, va_A wc H.size q → A q := by
    intro q h
    rcases h with ⟨k, x, h⟩ | h
    · exact hD.2 _ _ (gj_at1 h)
    · exact X.2.2.2.2.2.2.1 q (Nat.le_trans hS.1 h)
  refine va_calli (hrun H locs ls hP.left hD.left hl) hS (fun q _ h => hF q h) hF (fun r u t H1 locs1 ht hvm hp hB hz hk hS1 => ?_)
  obtain ⟨hP1, hD1⟩ := hB
  rw [ht] at hP1
  obtain ⟨hP2, hD2⟩ := gj_L hP hD hk hF hP1 hD1
  exact kk r u hp H1 locs1 ls hP2 hD2 hS1 hl
theorem gc_iR (X : gx p s m args c cc nL own Ts D cl tys A) {post : Int32 → S → Prop} (hrun : ∀ (H : Heap) (locs : List Loc) (ls : Array Slot), va_P D cl wc H → va_D A wc → lv_has ls nL lv → va_Run p l e R s m args below meth c H locs cells slots mc ms (F0 m pc ls st) rest (qI D cl post wo (va_A wc H.size) a) (va_A wc H.size)) (kk : ∀ r u, post r u → gg p l e R s m args below meth c (cells + mc) (slots + ms) Q D cl A nL (wr ++ wo u) lv (pc + 3) (.int r :: rest)) : gg p l e R s m args below meth c cells slots Q D cl A nL (wr ++ wc) lv pc st := by
  intro H locs ls hP hD hS hl
  have hF : ∀ q, va_A wc H.size q → A q := by
    intro q h
    rcases h with ⟨k, x, h⟩ | h
    · exact hD.2 _ _ (gj_at h)
    · exact X.2.2.2.2.2.2.1 q (Nat.le_trans hS.1 h)
  refine va_calli (hrun H locs ls hP.right hD.right hl) hS (fun q _ h => hF q h) hF (fun r u t H1 locs1 ht hvm hp hB hz hk hS1 => ?_)
  obtain ⟨hP1, hD1⟩ := hB
  rw [ht] at hP1
  obtain ⟨hP2, hD2⟩ := gj_R hP hD hk hF hP1 hD1
  exact kk r u hp H1 locs1 ls hP2 hD2 hS1 hl
theorem gc_l (X : gx p s m args c cc nL own Ts D cl tys A) {post : Int64 → S → Prop} (hrun : ∀ (H : Heap) (locs : List Loc) (ls : Array Slot), va_P D cl wc H → va_D A wc → lv_has ls nL lv → va_Run p l e R s m args below meth c H locs cells slots mc ms (F0 m pc ls st) rest (qL D cl post wo (va_A wc H.size) a) (va_A wc H.size)) (kk : ∀ r u, post r u → gg p l e R s m args below meth c (cells + mc) (slots + ms) Q D cl A nL (wo u) lv (pc + 3) (.long r :: rest)) : gg p l e R s m args below meth c cells slots Q D cl A nL wc lv pc st := by
  intro H locs ls hP hD hS hl
  have hF : ∀ q, va_A wc H.size q → A q := by
    intro q h
    rcases h with ⟨k, x, h⟩ | h
    · exact hD.2 k _ h
    · exact X.2.2.2.2.2.2.1 q (Nat.le_trans hS.1 h)
  refine va_calll (hrun H locs ls hP hD hl) hS (fun q _ h => hF q h) hF (fun r u t H1 locs1 ht hvm hp hB hz hk hS1 => ?_)
  obtain ⟨hP1, hD1⟩ := hB
  rw [ht] at hP1
  exact kk r u hp H1 locs1 ls hP1 (hD1.weaken (fun k q _ h => hF q.1 h)) hS1 hl
theorem gc_lL (X : gx p s m args c cc nL own Ts D cl tys A) {post : Int64 → S → Prop} (hrun : ∀ (H : Heap) (locs : List Loc) (ls : Array Slot), va_P D cl wc H → va_D A wc → lv_has ls nL lv → va_Run p l e R s m args below meth c H locs cells slots mc ms (F0 m pc ls st) rest (qL D cl post wo (va_A wc H.size) a) (va_A wc H.size)) (kk : ∀ r u, post r u → gg p l e R s m args below meth c (cells + mc) (slots + ms) Q D cl A nL (wo u ++ wr) lv (pc + 3) (.long r :: rest)) : gg p l e R s m args below meth c cells slots Q D cl A nL (wc ++ wr) lv pc st := by
  intro H locs ls hP hD hS hl
  have hF : ∀ q, va_A wc H.size q → A q := by
    intro q h
    rcases h with ⟨k, x, h⟩ | h
    · exact hD.2 _ _ (gj_at1 h)
    · exact X.2.2.2.2.2.2.1 q (Nat.le_trans hS.1 h)
  refine va_calll (hrun H locs ls hP.left hD.left hl) hS (fun q _ h => hF q h) hF (fun r u t H1 locs1 ht hvm hp hB hz hk hS1 => ?_)
  obtain ⟨hP1, hD1⟩ := hB
  rw [ht] at hP1
  obtain ⟨hP2, hD2⟩ := gj_L hP hD hk hF hP1 hD1
  exact kk r u hp H1 locs1 ls hP2 hD2 hS1 hl
theorem gc_lR (X : gx p s m args c cc nL own Ts D cl tys A) {post : Int64 → S → Prop} (hrun : ∀ (H : Heap) (locs : List Loc) (ls : Array Slot), va_P D cl wc H → va_D A wc → lv_has ls nL lv → va_Run p l e R s m args below meth c H locs cells slots mc ms (F0 m pc ls st) rest (qL D cl post wo (va_A wc H.size) a) (va_A wc H.size)) (kk : ∀ r u, post r u → gg p l e R s m args below meth c (cells + mc) (slots + ms) Q D cl A nL (wr ++ wo u) lv (pc + 3) (.long r :: rest)) : gg p l e R s m args below meth c cells slots Q D cl A nL (wr ++ wc) lv pc st := by
  intro H locs ls hP hD hS hl
  have hF : ∀ q, va_A wc H.size q → A q := by
    intro q h
    rcases h with ⟨k, x, h⟩ | h
    · exact hD.2 _ _ (gj_at h)
    · exact X.2.2.2.2.2.2.1 q (Nat.le_trans hS.1 h)
  refine va_calll (hrun H locs ls hP.right hD.right hl) hS (fun q _ h => hF q h) hF (fun r u t H1 locs1 ht hvm hp hB hz hk hS1 => ?_)
  obtain ⟨hP1, hD1⟩ := hB
  rw [ht] at hP1
  obtain ⟨hP2, hD2⟩ := gj_R hP hD hk hF hP1 hD1
  exact kk r u hp H1 locs1 ls hP2 hD2 hS1 hl
theorem gc_v (X : gx p s m args c cc nL own Ts D cl tys A) {post : S → Prop} (hrun : ∀ (H : Heap) (locs : List Loc) (ls : Array Slot), va_P D cl wc H → va_D A wc → lv_has ls nL lv → va_Run p l e R s m args below meth c H locs cells slots mc ms (F0 m pc ls st) rest (qV D cl post wo (va_A wc H.size) a) (va_A wc H.size)) (kk : ∀ u, post u → gg p l e R s m args below meth c (cells + mc) (slots + ms) Q D cl A nL (wo u) lv (pc + 3) (rest)) : gg p l e R s m args below meth c cells slots Q D cl A nL wc lv pc st := by
  intro H locs ls hP hD hS hl
  have hF : ∀ q, va_A wc H.size q → A q := by
    intro q h
    rcases h with ⟨k, x, h⟩ | h
    · exact hD.2 k _ h
    · exact X.2.2.2.2.2.2.1 q (Nat.le_trans hS.1 h)
  refine va_callv (hrun H locs ls hP hD hl) hS (fun q _ h => hF q h) hF (fun u t H1 locs1 ht hvm hp hB hz hk hS1 => ?_)
  obtain ⟨hP1, hD1⟩ := hB
  rw [ht] at hP1
  exact kk u hp H1 locs1 ls hP1 (hD1.weaken (fun k q _ h => hF q.1 h)) hS1 hl
theorem gc_vL (X : gx p s m args c cc nL own Ts D cl tys A) {post : S → Prop} (hrun : ∀ (H : Heap) (locs : List Loc) (ls : Array Slot), va_P D cl wc H → va_D A wc → lv_has ls nL lv → va_Run p l e R s m args below meth c H locs cells slots mc ms (F0 m pc ls st) rest (qV D cl post wo (va_A wc H.size) a) (va_A wc H.size)) (kk : ∀ u, post u → gg p l e R s m args below meth c (cells + mc) (slots + ms) Q D cl A nL (wo u ++ wr) lv (pc + 3) (rest)) : gg p l e R s m args below meth c cells slots Q D cl A nL (wc ++ wr) lv pc st := by
  intro H locs ls hP hD hS hl
  have hF : ∀ q, va_A wc H.size q → A q := by
    intro q h
    rcases h with ⟨k, x, h⟩ | h
    · exact hD.2 _ _ (gj_at1 h)
    · exact X.2.2.2.2.2.2.1 q (Nat.le_trans hS.1 h)
  refine va_callv (hrun H locs ls hP.left hD.left hl) hS (fun q _ h => hF q h) hF (fun u t H1 locs1 ht hvm hp hB hz hk hS1 => ?_)
  obtain ⟨hP1, hD1⟩ := hB
  rw [ht] at hP1
  obtain ⟨hP2, hD2⟩ := gj_L hP hD hk hF hP1 hD1
  exact kk u hp H1 locs1 ls hP2 hD2 hS1 hl
theorem gc_vR (X : gx p s m args c cc nL own Ts D cl tys A) {post : S → Prop} (hrun : ∀ (H : Heap) (locs : List Loc) (ls : Array Slot), va_P D cl wc H → va_D A wc → lv_has ls nL lv → va_Run p l e R s m args below meth c H locs cells slots mc ms (F0 m pc ls st) rest (qV D cl post wo (va_A wc H.size) a) (va_A wc H.size)) (kk : ∀ u, post u → gg p l e R s m args below meth c (cells + mc) (slots + ms) Q D cl A nL (wr ++ wo u) lv (pc + 3) (rest)) : gg p l e R s m args below meth c cells slots Q D cl A nL (wr ++ wc) lv pc st := by
  intro H locs ls hP hD hS hl
  have hF : ∀ q, va_A wc H.size q → A q := by
    intro q h
    rcases h with ⟨k, x, h⟩ | h
    · exact hD.2 _ _ (gj_at h)
    · exact X.2.2.2.2.2.2.1 q (Nat.le_trans hS.1 h)
  refine va_callv (hrun H locs ls hP.right hD.right hl) hS (fun q _ h => hF q h) hF (fun u t H1 locs1 ht hvm hp hB hz hk hS1 => ?_)
  obtain ⟨hP1, hD1⟩ := hB
  rw [ht] at hP1
  obtain ⟨hP2, hD2⟩ := gj_R hP hD hk hF hP1 hD1
  exact kk u hp H1 locs1 ls hP2 hD2 hS1 hl
theorem gc_q (X : gx p s m args c cc nL own Ts D cl tys A) {post : Option Nat → S → Prop} (hrun : ∀ (H : Heap) (locs : List Loc) (ls : Array Slot), va_P D cl wc H → va_D A wc → lv_has ls nL lv → va_Run p l e R s m args below meth c H locs cells slots mc ms (F0 m pc ls st) rest (qQ D cl post wo (va_A wc H.size) a) (va_A wc H.size)) (kk : ∀ r u, post r u → gg p l e R s m args below meth c (cells + mc) (slots + ms) Q D cl A nL (wo u) lv (pc + 3) (va_rf r :: rest)) : gg p l e R s m args below meth c cells slots Q D cl A nL wc lv pc st := by
  intro H locs ls hP hD hS hl
  have hF : ∀ q, va_A wc H.size q → A q := by
    intro q h
    rcases h with ⟨k, x, h⟩ | h
    · exact hD.2 k _ h
    · exact X.2.2.2.2.2.2.1 q (Nat.le_trans hS.1 h)
  refine va_callq (hrun H locs ls hP hD hl) hS (fun q _ h => hF q h) hF (fun r u t H1 locs1 ht hvm hp hB hz hk hS1 => ?_)
  obtain ⟨hP1, hD1⟩ := hB
  rw [ht] at hP1
  exact kk r u hp H1 locs1 ls hP1 (hD1.weaken (fun k q _ h => hF q.1 h)) hS1 hl
theorem gc_qL (X : gx p s m args c cc nL own Ts D cl tys A) {post : Option Nat → S → Prop} (hrun : ∀ (H : Heap) (locs : List Loc) (ls : Array Slot), va_P D cl wc H → va_D A wc → lv_has ls nL lv → va_Run p l e R s m args below meth c H locs cells slots mc ms (F0 m pc ls st) rest (qQ D cl post wo (va_A wc H.size) a) (va_A wc H.size)) (kk : ∀ r u, post r u → gg p l e R s m args below meth c (cells + mc) (slots + ms) Q D cl A nL (wo u ++ wr) lv (pc + 3) (va_rf r :: rest)) : gg p l e R s m args below meth c cells slots Q D cl A nL (wc ++ wr) lv pc st := by
  intro H locs ls hP hD hS hl
  have hF : ∀ q, va_A wc H.size q → A q := by
    intro q h
    rcases h with ⟨k, x, h⟩ | h
    · exact hD.2 _ _ (gj_at1 h)
    · exact X.2.2.2.2.2.2.1 q (Nat.le_trans hS.1 h)
  refine va_callq (hrun H locs ls hP.left hD.left hl) hS (fun q _ h => hF q h) hF (fun r u t H1 locs1 ht hvm hp hB hz hk hS1 => ?_)
  obtain ⟨hP1, hD1⟩ := hB
  rw [ht] at hP1
  obtain ⟨hP2, hD2⟩ := gj_L hP hD hk hF hP1 hD1
  exact kk r u hp H1 locs1 ls hP2 hD2 hS1 hl
theorem gc_qR (X : gx p s m args c cc nL own Ts D cl tys A) {post : Option Nat → S → Prop} (hrun : ∀ (H : Heap) (locs : List Loc) (ls : Array Slot), va_P D cl wc H → va_D A wc → lv_has ls nL lv → va_Run p l e R s m args below meth c H locs cells slots mc ms (F0 m pc ls st) rest (qQ D cl post wo (va_A wc H.size) a) (va_A wc H.size)) (kk : ∀ r u, post r u → gg p l e R s m args below meth c (cells + mc) (slots + ms) Q D cl A nL (wr ++ wo u) lv (pc + 3) (va_rf r :: rest)) : gg p l e R s m args below meth c cells slots Q D cl A nL (wr ++ wc) lv pc st := by
  intro H locs ls hP hD hS hl
  have hF : ∀ q, va_A wc H.size q → A q := by
    intro q h
    rcases h with ⟨k, x, h⟩ | h
    · exact hD.2 _ _ (gj_at h)
    · exact X.2.2.2.2.2.2.1 q (Nat.le_trans hS.1 h)
  refine va_callq (hrun H locs ls hP.right hD.right hl) hS (fun q _ h => hF q h) hF (fun r u t H1 locs1 ht hvm hp hB hz hk hS1 => ?_)
  obtain ⟨hP1, hD1⟩ := hB
  rw [ht] at hP1
  obtain ⟨hP2, hD2⟩ := gj_R hP hD hk hF hP1 hD1
  exact kk r u hp H1 locs1 ls hP2 hD2 hS1 hl
end GC
end
section
/-- what a boolean is on the machine -/
def bI (b : Bool) : Int32 := if b = true then 1 else 0
/-- the pool's rows: a thing and its values, row by row -/
def tl (cJ : ClassId) (th ar sz : Nat → Nat) (rc : Nat → Bool) (vs : Nat → Nat → Int64) : Nat → va_W
  | 0 => []
  | n + 1 => tl cJ th ar sz rc vs n ++ [(th n, .inr (1, [.ref (ar n), .int (nI (sz n)), .int (bI (rc n))])), (ar n, .inl (cJ, 20, .inr (.inl (vs n))))]
theorem tl_len {cJ : ClassId} {th ar sz : Nat → Nat} {rc : Nat → Bool} {vs : Nat → Nat → Int64} (n : Nat) : (tl cJ th ar sz rc vs n).length = 2 * n := by
  induction n with
  | zero => rfl
  | succ n ih => simp only [tl, List.length_append, ih, List.length_cons, List.length_nil]; omega
theorem tl_th {cJ : ClassId} {th ar sz : Nat → Nat} {rc : Nat → Bool} {vs : Nat → Nat → Int64} {n i : Nat} (h : i < n) : (tl cJ th ar sz rc vs n)[2 * i]? = some (th i, .inr (1, [.ref (ar i), .int (nI (sz i)), .int (bI (rc i))])) := by
  induction n with
  | zero => omega
  | succ n ih =>
    by_cases hi : i < n
    · simp only [tl]
      rw [List.getElem?_append_left (by rw [tl_len]; omega)]
      exact ih hi
    · have hin : i = n := by omega
      subst hin
      simp only [tl]
      rw [List.getElem?_append_right (by rw [tl_len]; omega), tl_len, Nat.sub_self]
      rfl
theorem tl_ar {cJ : ClassId} {th ar sz : Nat → Nat} {rc : Nat → Bool} {vs : Nat → Nat → Int64} {n i : Nat} (h : i < n) : (tl cJ th ar sz rc vs n)[2 * i + 1]? = some (ar i, .inl (cJ, 20, .inr (.inl (vs i)))) := by
  induction n with
  | zero => omega
  | succ n ih =>
    by_cases hi : i < n
    · simp only [tl]
      rw [List.getElem?_append_left (by rw [tl_len]; omega)]
      exact ih hi
    · have hin : i = n := by omega
      subst hin
      simp only [tl]
      rw [List.getElem?_append_right (by rw [tl_len]; omega), tl_len, show 2 * i + 1 - 2 * i = 1 by omega]
      rfl
theorem tl_congr {cJ : ClassId} {th ar sz th' ar' sz' : Nat → Nat} {rc rc' : Nat → Bool} {vs vs' : Nat → Nat → Int64} {n : Nat} (h : ∀ i, i < n → th i = th' i ∧ ar i = ar' i ∧ sz i = sz' i ∧ rc i = rc' i ∧ vs i = vs' i) : tl cJ th ar sz rc vs n = tl cJ th' ar' sz' rc' vs' n := by
  induction n with
  | zero => rfl
  | succ n ih =>
    obtain ⟨h1, h2, h3, h4, h5⟩ := h n (Nat.lt_succ_self n)
    simp only [tl]
    rw [ih (fun i hi => h i (Nat.lt_succ_of_lt hi)), h1, h2, h3, h4, h5]
theorem tl_setT {cJ : ClassId} {th ar sz : Nat → Nat} {rc : Nat → Bool} {vs : Nat → Nat → Int64} {n i : Nat} (z : Nat) (b : Bool) (h : i < n) : (tl cJ th ar sz rc vs n).set (2 * i) (th i, .inr (1, [.ref (ar i), .int (nI z), .int (bI b)])) = tl cJ th ar (va_up sz i z) (va_up rc i b) vs n := by
  induction n with
  | zero => omega
  | succ n ih =>
    simp only [tl]
    rw [List.set_append, tl_len]
    by_cases hi : i < n
    · rw [if_pos (by omega), ih hi, va_up_ne _ _ (show n ≠ i by omega), va_up_ne _ _ (show n ≠ i by omega)]
    · have hin : i = n := by omega
      subst hin
      rw [if_neg (by omega), Nat.sub_self, va_up_self, va_up_self]
      rw [tl_congr (th' := th) (ar' := ar) (sz' := va_up sz i z) (rc' := va_up rc i b) (vs' := vs) (fun k hk => ⟨rfl, rfl, (va_up_ne _ _ (show k ≠ i by omega)).symm, (va_up_ne _ _ (show k ≠ i by omega)).symm, rfl⟩)]
      rfl
theorem tl_setA {cJ : ClassId} {th ar sz : Nat → Nat} {rc : Nat → Bool} {vs : Nat → Nat → Int64} {n i : Nat} (g : Nat → Int64) (h : i < n) : (tl cJ th ar sz rc vs n).set (2 * i + 1) (ar i, .inl (cJ, 20, .inr (.inl g))) = tl cJ th ar sz rc (va_up vs i g) n := by
  induction n with
  | zero => omega
  | succ n ih =>
    simp only [tl]
    rw [List.set_append, tl_len]
    by_cases hi : i < n
    · rw [if_pos (by omega), ih hi, va_up_ne _ _ (show n ≠ i by omega)]
    · have hin : i = n := by omega
      subst hin
      rw [if_neg (by omega), show 2 * i + 1 - 2 * i = 1 by omega, va_up_self]
      rw [tl_congr (th' := th) (ar' := ar) (sz' := sz) (rc' := rc) (vs' := va_up vs i g) (fun k hk => ⟨rfl, rfl, rfl, rfl, (va_up_ne _ _ (show k ≠ i by omega)).symm⟩)]
      rfl
/-! the class: what stays (addresses, array kinds, rows, cells) and what moves -/
abbrev CF : Type := ((((Nat × Nat) × Nat) × (Nat × Nat)) × (((Nat × ClassId) × ClassId) × (Nat × Nat)))
abbrev kH (F : CF) : Nat := F.1.1.1.1
abbrev kR (F : CF) : Nat := F.1.1.1.2
abbrev kS (F : CF) : Nat := F.1.1.2
abbrev kM (F : CF) : Nat := F.1.2.1
abbrev kW (F : CF) : Nat := F.1.2.2
abbrev kE (F : CF) : Nat := F.2.1.1.1
abbrev kJ (F : CF) : ClassId := F.2.1.1.2
abbrev kT (F : CF) : ClassId := F.2.1.2
abbrev kN (F : CF) : Nat := F.2.2.1
abbrev kC (F : CF) : Nat := F.2.2.2
abbrev CS : Type := (((((Nat → Int64) × (Nat → Int64)) × (Nat × Nat)) × ((Nat × Nat) × (Nat → Nat))) × ((((Nat → Nat) × (Nat → Nat)) × ((Nat → Bool) × (Nat → Nat → Int64))) × ((Nat × Nat) × (Nat → Option Nat))))
abbrev rG (u : CS) : Nat → Int64 := u.1.1.1.1
abbrev sK (u : CS) : Nat → Int64 := u.1.1.1.2
abbrev sT (u : CS) : Nat := u.1.1.2.1
abbrev mD (u : CS) : Nat := u.1.1.2.2
abbrev fU (u : CS) : Nat := u.1.2.1.1
abbrev nU (u : CS) : Nat := u.1.2.1.2
abbrev tH (u : CS) : Nat → Nat := u.1.2.2
abbrev aR (u : CS) : Nat → Nat := u.2.1.1.1
abbrev sZ (u : CS) : Nat → Nat := u.2.1.1.2
abbrev rC (u : CS) : Nat → Bool := u.2.1.2.1
abbrev vS (u : CS) : Nat → Nat → Int64 := u.2.1.2.2
abbrev rO (u : CS) : Nat := u.2.2.1.1
abbrev rL (u : CS) : Nat := u.2.2.1.2
abbrev rE (u : CS) : Nat → Option Nat := u.2.2.2
abbrev uR (u : CS) (g : Nat → Int64) : CS := ((((g, sK u), (sT u, mD u)), ((fU u, nU u), tH u)), (((aR u, sZ u), (rC u, vS u)), ((rO u, rL u), rE u)))
abbrev uS (u : CS) (g : Nat → Int64) : CS := ((((rG u, g), (sT u, mD u)), ((fU u, nU u), tH u)), (((aR u, sZ u), (rC u, vS u)), ((rO u, rL u), rE u)))
abbrev uT (u : CS) (k : Nat) : CS := ((((rG u, sK u), (k, mD u)), ((fU u, nU u), tH u)), (((aR u, sZ u), (rC u, vS u)), ((rO u, rL u), rE u)))
abbrev uM (u : CS) (k : Nat) : CS := ((((rG u, sK u), (sT u, k)), ((fU u, nU u), tH u)), (((aR u, sZ u), (rC u, vS u)), ((rO u, rL u), rE u)))
abbrev uF (u : CS) (k : Nat) : CS := ((((rG u, sK u), (sT u, mD u)), ((k, nU u), tH u)), (((aR u, sZ u), (rC u, vS u)), ((rO u, rL u), rE u)))
abbrev uP (u : CS) (n : Nat) (th ar sz : Nat → Nat) (rc : Nat → Bool) (vs : Nat → Nat → Int64) : CS := ((((rG u, sK u), (sT u, mD u)), ((fU u, n), th)), (((ar, sz), (rc, vs)), ((rO u, rL u), rE u)))
abbrev uZ (u : CS) (sz : Nat → Nat) (rc : Nat → Bool) (vs : Nat → Nat → Int64) : CS := ((((rG u, sK u), (sT u, mD u)), ((fU u, nU u), tH u)), (((aR u, sz), (rc, vs)), ((rO u, rL u), rE u)))
abbrev uO (u : CS) (o r : Nat) (q : Nat → Option Nat) : CS := ((((rG u, sK u), (sT u, mD u)), ((fU u, nU u), tH u)), (((aR u, sZ u), (rC u, vS u)), ((o, r), q)))
abbrev uA (u : CS) (rg sk : Nat → Int64) (st md fu : Nat) : CS := ((((rg, sk), (st, md)), ((fu, nU u), tH u)), (((aR u, sZ u), (rC u, vS u)), ((rO u, rL u), rE u)))
abbrev uK (u : CS) (sz : Nat → Nat) (rc : Nat → Bool) (vs : Nat → Nat → Int64) (o r : Nat) (q : Nat → Option Nat) : CS := ((((rG u, sK u), (sT u, mD u)), ((fU u, nU u), tH u)), (((aR u, sz), (rc, vs)), ((o, r), q)))
/-- what the rows' array holds -/
def rW (n : Nat) (th : Nat → Nat) : Nat → Option Nat := fun i => if i < n then some (th i) else none
def cW (F : CF) (u : CS) : va_W :=
  (kH F, .inr (2, [.int (nI (kC F)), .ref (kR F), .ref (kS F), .ref (kM F), .int (nI (sT u)), .int (nI (mD u)), .int (nI (fU u))])) ::
  (kR F, .inl (kJ F, 10, .inr (.inl (rG u)))) :: (kS F, .inl (kJ F, 50, .inr (.inl (sK u)))) ::
  (kM F, .inr (0, [.ref (kW F), .ref (kE F), .int (nI (rO u)), .int (nI (rL u))])) ::
  (kW F, .inl (kT F, kN F, .inr (.inr (.inr (.inr (rW (nU u) (tH u))))))) :: (kE F, .inl (kT F, kN F, .inr (.inr (.inr (.inr (rE u)))))) ::
  tl (kJ F) (tH u) (aR u) (sZ u) (rC u) (vS u) (nU u)
abbrev cT (F : CF) : List (ClassId × FieldType) := [(kJ F, .long), (kT F, .object "SliceHeap$Thing")]
theorem cW_th (F : CF) (u : CS) {i : Nat} (h : i < nU u) : (cW F u)[2 * i + 6]? = some (tH u i, .inr (1, [.ref (aR u i), .int (nI (sZ u i)), .int (bI (rC u i))])) := tl_th h
theorem cW_ar (F : CF) (u : CS) {i : Nat} (h : i < nU u) : (cW F u)[2 * i + 7]? = some (aR u i, .inl (kJ F, 20, .inr (.inl (vS u i)))) := tl_ar h
theorem cW_setT (F : CF) (u : CS) {i : Nat} (z : Nat) (b : Bool) (h : i < nU u) : (cW F u).set (2 * i + 6) (tH u i, .inr (1, [.ref (aR u i), .int (nI z), .int (bI b)])) = cW F (uZ u (va_up (sZ u) i z) (va_up (rC u) i b) (vS u)) := by
  show _ :: _ :: _ :: _ :: _ :: _ :: (tl (kJ F) (tH u) (aR u) (sZ u) (rC u) (vS u) (nU u)).set (2 * i) _ = _
  rw [tl_setT z b h]
  rfl
theorem cW_setA (F : CF) (u : CS) {i : Nat} (g : Nat → Int64) (h : i < nU u) : (cW F u).set (2 * i + 7) (aR u i, .inl (kJ F, 20, .inr (.inl g))) = cW F (uZ u (sZ u) (rC u) (va_up (vS u) i g)) := by
  show _ :: _ :: _ :: _ :: _ :: _ :: (tl (kJ F) (tH u) (aR u) (sZ u) (rC u) (vS u) (nU u)).set (2 * i + 1) _ = _
  rw [tl_setA g h]
  rfl
theorem cW_congr (F : CF) (u v : CS) (h1 : rG u = rG v) (h2 : sK u = sK v) (h3 : sT u = sT v) (h4 : mD u = mD v) (h5 : fU u = fU v) (h6 : nU u = nU v) (h7 : rO u = rO v) (h8 : rL u = rL v) (h9 : rE u = rE v) (h : ∀ i, i < nU u → tH u i = tH v i ∧ aR u i = aR v i ∧ sZ u i = sZ v i ∧ rC u i = rC v i ∧ vS u i = vS v i) : cW F u = cW F v := by
  have e : rW (nU u) (tH u) = rW (nU v) (tH v) := by
    rw [← h6]
    funext i
    unfold rW
    by_cases hi : i < nU u
    · rw [if_pos hi, if_pos hi, (h i hi).1]
    · rw [if_neg hi, if_neg hi]
  unfold cW
  rw [h1, h2, h3, h4, h5, h7, h8, h9, e, tl_congr h, h6]
/-! the reference -/
abbrev DF : Type := ((((Nat × Nat) × Nat) × (Nat × Nat)) × ((ClassId × ClassId) × (ClassId × Nat)))
abbrev dH (F : DF) : Nat := F.1.1.1.1
abbrev dK (F : DF) : Nat := F.1.1.1.2
abbrev dV (F : DF) : Nat := F.1.1.2
abbrev dS (F : DF) : Nat := F.1.2.1
abbrev dR (F : DF) : Nat := F.1.2.2
abbrev dB (F : DF) : ClassId := F.2.1.1
abbrev dI (F : DF) : ClassId := F.2.1.2
abbrev dZ (F : DF) : ClassId := F.2.2.1
abbrev dC (F : DF) : Nat := F.2.2.2
abbrev DS : Type := ((((Nat → Int32) × (Nat → Int32)) × (Nat × Nat)) × ((Nat × (Nat → Nat)) × (Nat → Bool)))
abbrev gK (u : DS) : Nat → Int32 := u.1.1.1
abbrev gV (u : DS) : Nat → Int32 := u.1.1.2
abbrev gT (u : DS) : Nat := u.1.2.1
abbrev gM (u : DS) : Nat := u.1.2.2
abbrev gF (u : DS) : Nat := u.2.1.1
abbrev gS (u : DS) : Nat → Nat := u.2.1.2
abbrev gR (u : DS) : Nat → Bool := u.2.2
abbrev wV (u : DS) (k v : Nat → Int32) : DS := (((k, v), (gT u, gM u)), ((gF u, gS u), gR u))
abbrev wT (u : DS) (n : Nat) : DS := (((gK u, gV u), (n, gM u)), ((gF u, gS u), gR u))
abbrev wM (u : DS) (n : Nat) : DS := (((gK u, gV u), (gT u, n)), ((gF u, gS u), gR u))
abbrev wF (u : DS) (n : Nat) : DS := (((gK u, gV u), (gT u, gM u)), ((n, gS u), gR u))
abbrev wS (u : DS) (f : Nat → Nat) : DS := (((gK u, gV u), (gT u, gM u)), ((gF u, f), gR u))
abbrev wR (u : DS) (f : Nat → Bool) : DS := (((gK u, gV u), (gT u, gM u)), ((gF u, gS u), f))
def dW (F : DF) (u : DS) : va_W :=
  (dH F, .inr (3, [.int (nI (dC F)), .ref (dK F), .ref (dV F), .int (nI (gT u)), .int (nI (gM u)), .ref (dS F), .ref (dR F), .int (nI (gF u))])) ::
  (dK F, .inl (dB F, 10460, .inl (gK u))) :: (dV F, .inl (dI F, 10460, .inl (gV u))) ::
  (dS F, .inl (dI F, 520, .inl (fun j => nI (gS u j)))) :: (dR F, .inl (dZ F, 520, .inl (fun j => bI (gR u j)))) :: []
abbrev dT (F : DF) : List (ClassId × FieldType) := [(dB F, .byte), (dI F, .int), (dZ F, .boolean)]
theorem upd_nI (f : Nat → Nat) (k z : Nat) : upd (fun j => nI (f j)) k (nI z) = fun j => nI (va_up f k z j) := by
  funext j
  by_cases h : j = k
  · subst h; rw [pk_us, va_up_self]
  · rw [pk_un h, va_up_ne _ _ h]
theorem upd_bI (f : Nat → Bool) (k : Nat) (z : Bool) : upd (fun j => bI (f j)) k (bI z) = fun j => bI (va_up f k z j) := by
  funext j
  by_cases h : j = k
  · subst h; rw [pk_us, va_up_self]
  · rw [pk_un h, va_up_ne _ _ h]
theorem bI_t : bI true = 1 := rfl
theorem bI_f : bI false = 0 := rfl
theorem bI_0 {b : Bool} (h : bI b = 0) : b = false := by
  cases b
  · rfl
  · exact absurd h (by decide)
theorem bI_1 {b : Bool} (h : ¬ bI b = 0) : b = true := by
  cases b
  · exact absurd rfl h
  · rfl
/-- a register, as the calls name it -/
def isR (r : Int32) : Prop := ∃ j : Nat, j < 10 ∧ r = nI j
/-- an object as a value -/
def oB (i : Nat) : Int64 := lN (4294967297 + i)
/-- no object, no number -/
def nO : Int64 := lN 4294967296
end
section
/-! sums over the rows that are marked -/
def sm (f : Nat → Bool) (w : Nat → Nat) : Nat → Nat
  | 0 => 0
  | n + 1 => sm f w n + (if f n = true then w n else 0)
theorem sm_congr {f g : Nat → Bool} {w w' : Nat → Nat} {n : Nat} (h : ∀ i, i < n → f i = g i ∧ (f i = true → w i = w' i)) : sm f w n = sm g w' n := by
  induction n with
  | zero => rfl
  | succ n ih =>
    obtain ⟨h1, h2⟩ := h n (Nat.lt_succ_self n)
    simp only [sm]
    rw [ih (fun i hi => h i (Nat.lt_succ_of_lt hi)), ← h1]
    by_cases hf : f n = true
    · rw [if_pos hf, if_pos hf, h2 hf]
    · rw [if_neg hf, if_neg hf]
theorem sm_zero {f : Nat → Bool} {w : Nat → Nat} {n : Nat} (h : ∀ i, i < n → f i = false) : sm f w n = 0 := by
  induction n with
  | zero => rfl
  | succ n ih =>
    simp only [sm]
    rw [ih (fun i hi => h i (Nat.lt_succ_of_lt hi)), h n (Nat.lt_succ_self n)]
    rfl
theorem sm_up {f : Nat → Bool} {w : Nat → Nat} {n i : Nat} (hi : i < n) (hf : f i = false) : sm (va_up f i true) w n = sm f w n + w i := by
  induction n with
  | zero => omega
  | succ n ih =>
    simp only [sm]
    by_cases h : i < n
    · rw [ih h, va_up_ne _ _ (show n ≠ i by omega)]
      omega
    · have e : i = n := by omega
      subst e
      rw [va_up_self, if_pos rfl, hf, if_neg (by decide), sm_congr (f := va_up f i true) (g := f) (w' := w) (fun k hk => ⟨va_up_ne _ _ (show k ≠ i by omega), fun _ => rfl⟩)]
      omega
theorem sm_dn {f : Nat → Bool} {w : Nat → Nat} {n i : Nat} (hi : i < n) (hf : f i = true) : sm f w n = sm (va_up f i false) w n + w i := by
  have h := sm_up (f := va_up f i false) (w := w) hi (va_up_self _ _ _)
  rw [← h]
  apply sm_congr
  intro k hk
  refine ⟨?_, fun _ => rfl⟩
  by_cases e : k = i
  · subst e; rw [va_up_self, hf]
  · rw [va_up_ne _ _ e, va_up_ne _ _ e]
theorem sm_le {f : Nat → Bool} {n : Nat} : sm f (fun _ => 1) n ≤ n := by
  induction n with
  | zero => exact Nat.le_refl 0
  | succ n ih =>
    simp only [sm]
    by_cases hf : f n = true
    · rw [if_pos hf]; omega
    · rw [if_neg hf]; omega
theorem sm_lt {f : Nat → Bool} {n i : Nat} (hi : i < n) (hf : f i = false) : sm f (fun _ => 1) n < n := by
  have h1 := sm_up (w := fun _ => 1) hi hf
  have h2 := sm_le (f := va_up f i true) (n := n)
  omega
theorem sm_all {f : Nat → Bool} {n : Nat} (h : ∀ i, i < n → f i = true) : sm f (fun _ => 1) n = n := by
  induction n with
  | zero => rfl
  | succ n ih =>
    simp only [sm]
    rw [ih (fun i hi => h i (Nat.lt_succ_of_lt hi)), if_pos (h n (Nat.lt_succ_self n))]
theorem sm_two {f : Nat → Bool} {z : Nat → Nat} {n : Nat} : 2 * sm f (fun _ => 1) n ≤ sm f (fun i => 2 + z i) n := by
  induction n with
  | zero => exact Nat.le_refl 0
  | succ n ih =>
    simp only [sm]
    by_cases hf : f n = true
    · rw [if_pos hf, if_pos hf]; omega
    · rw [if_neg hf, if_neg hf]; omega
theorem sm_top {f : Nat → Bool} {w : Nat → Nat} {n b : Nat} (h : ∀ i, i < n → w i ≤ b) : sm f w n ≤ b * n := by
  induction n with
  | zero => exact Nat.le_refl 0
  | succ n ih =>
    simp only [sm]
    have h1 := ih (fun i hi => h i (Nat.lt_succ_of_lt hi))
    have h2 := h n (Nat.lt_succ_self n)
    rw [Nat.mul_succ]
    by_cases hf : f n = true
    · rw [if_pos hf]; omega
    · rw [if_neg hf]; omega
theorem sm_bij {R : Nat → Bool} {w w' : Nat → Nat} {n : Nat} {rho : Nat → Nat} : ∀ (md : Nat) (rc : Nat → Bool), (∀ o, o < md → R o = true → rho o < n ∧ rc (rho o) = true ∧ w o = w' (rho o)) → (∀ a b, a < md → b < md → R a = true → R b = true → rho a = rho b → a = b) → (∀ i, i < n → rc i = true → ∃ o, o < md ∧ R o = true ∧ rho o = i) → sm R w md = sm rc w' n := by
  intro md
  induction md with
  | zero =>
    intro rc h1 h2 h3
    refine (sm_zero (fun i hi => ?_)).symm
    cases hr : rc i with
    | false => rfl
    | true =>
      obtain ⟨o, ho, -⟩ := h3 i hi hr
      omega
  | succ md ih =>
    intro rc h1 h2 h3
    simp only [sm]
    by_cases hR : R md = true
    · obtain ⟨g1, g2, g3⟩ := h1 md (Nat.lt_succ_self md) hR
      rw [if_pos hR, sm_dn g1 g2, ← g3]
      congr 1
      refine ih (va_up rc (rho md) false) (fun o ho hro => ?_) (fun a b ha hb => h2 a b (Nat.lt_succ_of_lt ha) (Nat.lt_succ_of_lt hb)) (fun i hi hri => ?_)
      · obtain ⟨k1, k2, k3⟩ := h1 o (Nat.lt_succ_of_lt ho) hro
        refine ⟨k1, ?_, k3⟩
        rw [va_up_ne _ _ (fun e => ?_)]
        · exact k2
        · have := h2 o md (Nat.lt_succ_of_lt ho) (Nat.lt_succ_self md) hro hR e
          omega
      · by_cases e : i = rho md
        · subst e; rw [va_up_self] at hri; cases hri
        · rw [va_up_ne _ _ e] at hri
          obtain ⟨o, ho, hro, hoi⟩ := h3 i hi hri
          refine ⟨o, ?_, hro, hoi⟩
          by_cases e2 : o = md
          · subst e2; exact absurd hoi.symm e
          · omega
    · rw [if_neg hR, Nat.add_zero]
      refine ih rc (fun o ho => h1 o (Nat.lt_succ_of_lt ho)) (fun a b ha hb => h2 a b (Nat.lt_succ_of_lt ha) (Nat.lt_succ_of_lt hb)) (fun i hi hri => ?_)
      obtain ⟨o, ho, hro, hoi⟩ := h3 i hi hri
      refine ⟨o, ?_, hro, hoi⟩
      by_cases e2 : o = md
      · subst e2; exact absurd hro hR
      · omega
/-! what the reference reaches -/
def pL (o k : Nat) : Nat := 60 + 20 * o + k
def dRt (t : DS) (o : Nat) : Prop := ∃ p, p < 10 + gT t ∧ gK t p = 2 ∧ gV t p = nI o
def dEd (t : DS) (a b : Nat) : Prop := ∃ k, k < gS t a ∧ gK t (pL a k) = 2 ∧ gV t (pL a k) = nI b
def dRe (t : DS) (o : Nat) : Prop := ∀ S : Nat → Prop, (∀ x, x < gM t → dRt t x → S x) → (∀ x y, S x → y < gM t → dEd t x y → S y) → S o
theorem dRe.root {t : DS} {o : Nat} (h : o < gM t) (hr : dRt t o) : dRe t o := fun _ h1 _ => h1 o h hr
theorem dRe.step {t : DS} {a b : Nat} (h : dRe t a) (hb : b < gM t) (he : dEd t a b) : dRe t b := fun S h1 h2 => h2 a b (h S h1 h2) hb he
theorem dRe.lt {t : DS} {o : Nat} (h : dRe t o) : o < gM t := h (fun x => x < gM t) (fun _ hx _ => hx) (fun _ _ _ hy _ => hy)
/-! what the class reaches -/
def cRt (u : CS) (i : Nat) : Prop := (∃ r, r < 10 ∧ rG u r = oB i) ∨ ∃ j, j < sT u ∧ sK u j = oB i
def cEd (u : CS) (a b : Nat) : Prop := ∃ k, k < sZ u a ∧ vS u a k = oB b
def cRe (u : CS) (i : Nat) : Prop := ∀ S : Nat → Prop, (∀ x, x < nU u → cRt u x → S x) → (∀ x y, S x → y < nU u → cEd u x y → S y) → S i
theorem cRe.root {u : CS} {i : Nat} (h : i < nU u) (hr : cRt u i) : cRe u i := fun _ h1 _ => h1 i h hr
theorem cRe.step {u : CS} {a b : Nat} (h : cRe u a) (hb : b < nU u) (he : cEd u a b) : cRe u b := fun S h1 h2 => h2 a b (h S h1 h2) hb he
theorem cRe.lt {u : CS} {i : Nat} (h : cRe u i) : i < nU u := h (fun x => x < nU u) (fun _ hx _ => hx) (fun _ _ _ hy _ => hy)
/-! values on both sides -/
def eV (rho : Nat → Nat) (k v : Int32) : Int64 := if k = 0 then nO else if k = 1 then v.toInt64 else oB (rho v.toNatClampNeg)
theorem oB_inj {i j : Nat} (hi : i < 2147483648) (hj : j < 2147483648) (h : oB i = oB j) : i = j := by
  have := (pk_lEQ (a := 4294967297 + i) (b := 4294967297 + j) (by omega) (by omega)).mp h
  omega
theorem nO_oB {i : Nat} (hi : i < 2147483648) : nO ≠ oB i := fun h => by
  have := (pk_lEQ (a := 4294967296) (b := 4294967297 + i) (by omega) (by omega)).mp h
  omega
theorem i64_toInt (v : Int32) : v.toInt64.toInt = v.toInt := by simp
theorem i32_lo (v : Int32) : -2147483648 ≤ v.toInt ∧ v.toInt < 2147483648 := by
  have h1 := v.le_toInt
  have h2 := v.toInt_lt
  constructor <;> omega
theorem nO_toInt : nO.toInt = 4294967296 := pk_lT (n := 4294967296) (by omega)
theorem oB_toInt {i : Nat} (hi : i < 2147483648) : (oB i).toInt = 4294967297 + i := by
  have h := pk_lT (n := 4294967297 + i) (by omega)
  unfold oB
  rw [h]
  omega
theorem num_nO (v : Int32) : v.toInt64 ≠ nO := fun h => by
  have h1 := congrArg Int64.toInt h
  rw [i64_toInt, nO_toInt] at h1
  have h2 := i32_lo v
  omega
theorem num_oB (v : Int32) {i : Nat} (hi : i < 2147483648) : v.toInt64 ≠ oB i := fun h => by
  have h1 := congrArg Int64.toInt h
  rw [i64_toInt, oB_toInt hi] at h1
  have h2 := i32_lo v
  omega
theorem num_inj {v w : Int32} (h : v.toInt64 = w.toInt64) : v = w := by
  have h1 := congrArg Int64.toInt h
  rw [i64_toInt, i64_toInt] at h1
  exact Int32.toInt_inj.mp h1
theorem k12 : ¬ (1 : Int32) = 0 := by decide
theorem k20 : ¬ (2 : Int32) = 0 := by decide
theorem k21 : ¬ (2 : Int32) = 1 := by decide
theorem eV_0 (rho : Nat → Nat) (v : Int32) : eV rho 0 v = nO := by unfold eV; rw [if_pos rfl]
theorem eV_1 (rho : Nat → Nat) (v : Int32) : eV rho 1 v = v.toInt64 := by unfold eV; rw [if_neg k12, if_pos rfl]
theorem eV_2 (rho : Nat → Nat) {o : Nat} (h : o < 2147483648) : eV rho 2 (nI o) = oB (rho o) := by unfold eV; rw [if_neg k20, if_neg k21, nI_clamp (by omega)]
/-- a value that may be put anywhere: nothing, a number, an object that is reached -/
def gV' (t : DS) (a b : Int32) : Prop := (a = 0 ∧ b = 0) ∨ a = 1 ∨ (a = 2 ∧ ∃ o, o < gM t ∧ b = nI o ∧ dRe t o)
def dLv (t : DS) (p : Nat) : Prop := p < 10 + gT t ∨ ∃ o k, o < gM t ∧ k < gS t o ∧ p = pL o k
def dOk (t : DS) : Prop := gT t ≤ 50 ∧ gM t ≤ 512 ∧ (∀ o, o < gM t → gS t o ≤ 20) ∧ ∀ p, dLv t p → (gK t p = 0 ∧ gV t p = 0) ∨ gK t p = 1 ∨ (gK t p = 2 ∧ ∃ o, o < gM t ∧ gV t p = nI o)
def cOk (F : CF) (u : CS) : Prop := kN F = kC F / 2 ∧ 20 ≤ kC F ∧ kC F ≤ 3000 ∧ nU u ≤ kN F ∧ sT u ≤ 50 ∧ ∀ i, i < nU u → sZ u i ≤ 20
/-- the class's state and the reference's are one, under rho -/
def Rl (u : CS) (t : DS) (rho : Nat → Nat) : Prop :=
  sT u = gT t ∧ mD u = gM t ∧ fU u = gF t ∧
  (∀ r, r < 10 → rG u r = eV rho (gK t r) (gV t r)) ∧
  (∀ j, j < gT t → sK u j = eV rho (gK t (10 + j)) (gV t (10 + j))) ∧
  (∀ o, dRe t o → rho o < nU u ∧ sZ u (rho o) = gS t o ∧ ∀ k, k < gS t o → vS u (rho o) k = eV rho (gK t (pL o k)) (gV t (pL o k))) ∧
  (∀ a b, dRe t a → dRe t b → rho a = rho b → a = b)
theorem nI_inj {a b : Nat} (ha : a < 2147483648) (hb : b < 2147483648) (h : nI a = nI b) : a = b := (nI_eq (by omega) (by omega)).mp h
theorem gV'.reg {t : DS} (hk : dOk t) {p : Nat} (hp : p < 10 + gT t) : gV' t (gK t p) (gV t p) := by
  rcases hk.2.2.2 p (Or.inl hp) with h | h | ⟨h, o, ho, hv⟩
  · exact Or.inl h
  · exact Or.inr (Or.inl h)
  · exact Or.inr (Or.inr ⟨h, o, ho, hv, dRe.root ho ⟨p, hp, h, hv⟩⟩)
theorem gV'.val {t : DS} (hk : dOk t) {a k : Nat} (ha : dRe t a) (hs : k < gS t a) : gV' t (gK t (pL a k)) (gV t (pL a k)) := by
  rcases hk.2.2.2 (pL a k) (Or.inr ⟨a, k, ha.lt, hs, rfl⟩) with h | h | ⟨h, o, ho, hv⟩
  · exact Or.inl h
  · exact Or.inr (Or.inl h)
  · exact Or.inr (Or.inr ⟨h, o, ho, hv, ha.step ho ⟨k, hs, h, hv⟩⟩)
theorem Rl.lt {F : CF} {u : CS} {t : DS} {rho : Nat → Nat} (h : Rl u t rho) (hc : cOk F u) {o : Nat} (ho : dRe t o) : rho o < 2147483648 := by
  have h1 := (h.2.2.2.2.2.1 o ho).1
  obtain ⟨h2, h3, h4, h5, -⟩ := hc
  omega
theorem eV_obj {F : CF} {u : CS} {t : DS} {rho : Nat → Nat} (h : Rl u t rho) (hc : cOk F u) (hk : dOk t) {a b : Int32} (hg : gV' t a b) {i : Nat} (hi : i < nU u) (he : eV rho a b = oB i) : ∃ o, o < gM t ∧ a = 2 ∧ b = nI o ∧ dRe t o ∧ rho o = i := by
  have hi2 : i < 2147483648 := by
    obtain ⟨h2, h3, h4, h5, -⟩ := hc
    omega
  rcases hg with ⟨rfl, -⟩ | rfl | ⟨rfl, o, ho, rfl, hr⟩
  · rw [eV_0] at he; exact absurd he (nO_oB hi2)
  · rw [eV_1] at he; exact absurd he (num_oB _ hi2)
  · have hm := hk.2.1
    rw [eV_2 _ (by omega)] at he
    exact ⟨o, ho, rfl, rfl, hr, oB_inj (h.lt hc hr) hi2 he⟩
theorem eV_same {F : CF} {u : CS} {t : DS} {rho : Nat → Nat} (h : Rl u t rho) (hc : cOk F u) (hk : dOk t) {a b x y : Int32} (h1 : gV' t a b) (h2 : gV' t x y) (he : eV rho a b = eV rho x y) : a = x ∧ b = y := by
  have hm := hk.2.1
  rcases h1 with ⟨rfl, rfl⟩ | rfl | ⟨rfl, o, ho, rfl, hr⟩ <;> rcases h2 with ⟨rfl, rfl⟩ | rfl | ⟨rfl, o', ho', rfl, hr'⟩
  · exact ⟨rfl, rfl⟩
  · rw [eV_0, eV_1] at he; exact absurd he.symm (num_nO _)
  · rw [eV_0, eV_2 _ (by omega)] at he; exact absurd he (nO_oB (h.lt hc hr'))
  · rw [eV_0, eV_1] at he; exact absurd he (num_nO _)
  · rw [eV_1, eV_1] at he; exact ⟨rfl, num_inj he⟩
  · rw [eV_1, eV_2 _ (by omega)] at he; exact absurd he (num_oB _ (h.lt hc hr'))
  · rw [eV_0, eV_2 _ (by omega)] at he; exact absurd he.symm (nO_oB (h.lt hc hr))
  · rw [eV_1, eV_2 _ (by omega)] at he; exact absurd he.symm (num_oB _ (h.lt hc hr))
  · rw [eV_2 _ (by omega), eV_2 _ (by omega)] at he
    have e := h.2.2.2.2.2.2 o o' hr hr' (oB_inj (h.lt hc hr) (h.lt hc hr') he)
    subst e
    exact ⟨rfl, rfl⟩
/-- what is reached is the same on both sides -/
theorem Rl.to {u : CS} {t : DS} {rho : Nat → Nat} (h : Rl u t rho) (hk : dOk t) {o : Nat} (ho : dRe t o) : cRe u (rho o) := by
  have hm := hk.2.1
  have key : dRe t o ∧ cRe u (rho o) := by
    refine ho (fun o => dRe t o ∧ cRe u (rho o)) (fun x hx hr => ?_) (fun x y hxx hy hxy => ?_)
    · have hd := dRe.root hx hr
      refine ⟨hd, cRe.root (h.2.2.2.2.2.1 x hd).1 ?_⟩
      obtain ⟨p, hp, h1, h2⟩ := hr
      by_cases hp2 : p < 10
      · refine Or.inl ⟨p, hp2, ?_⟩
        rw [h.2.2.2.1 p hp2, h1, h2, eV_2 _ (by omega)]
      · refine Or.inr ⟨p - 10, by rw [h.1]; omega, ?_⟩
        rw [h.2.2.2.2.1 (p - 10) (by omega), show 10 + (p - 10) = p by omega, h1, h2, eV_2 _ (by omega)]
    · obtain ⟨hdx, hcx⟩ := hxx
      have hd := hdx.step hy hxy
      refine ⟨hd, hcx.step (h.2.2.2.2.2.1 y hd).1 ?_⟩
      obtain ⟨k, hk1, h1, h2⟩ := hxy
      refine ⟨k, by rw [(h.2.2.2.2.2.1 x hdx).2.1]; exact hk1, ?_⟩
      rw [(h.2.2.2.2.2.1 x hdx).2.2 k hk1, h1, h2, eV_2 _ (by omega)]
  exact key.2
theorem Rl.back {F : CF} {u : CS} {t : DS} {rho : Nat → Nat} (h : Rl u t rho) (hc : cOk F u) (hk : dOk t) {i : Nat} (hi : cRe u i) : ∃ o, dRe t o ∧ rho o = i := by
  refine hi (fun i => ∃ o, dRe t o ∧ rho o = i) (fun x hx hr => ?_) (fun x y hxx hy hxy => ?_)
  · rcases hr with ⟨r, hr, he⟩ | ⟨j, hj, he⟩
    · rw [h.2.2.2.1 r hr] at he
      obtain ⟨o, -, -, -, h4, h5⟩ := eV_obj h hc hk (gV'.reg hk (by omega)) hx he
      exact ⟨o, h4, h5⟩
    · rw [h.1] at hj
      rw [h.2.2.2.2.1 j hj] at he
      obtain ⟨o, -, -, -, h4, h5⟩ := eV_obj h hc hk (gV'.reg hk (by omega)) hx he
      exact ⟨o, h4, h5⟩
  · obtain ⟨o, ho, rfl⟩ := hxx
    obtain ⟨k, hk1, he⟩ := hxy
    obtain ⟨h1, h2, h3⟩ := h.2.2.2.2.2.1 o ho
    rw [h2] at hk1
    rw [h3 k hk1] at he
    obtain ⟨b, -, -, -, h4, h5⟩ := eV_obj h hc hk (gV'.val hk ho hk1) hy he
    exact ⟨b, h4, h5⟩
/-- the two sums are one -/
theorem Rl.sums {F : CF} {u : CS} {t : DS} {rho : Nat → Nat} (h : Rl u t rho) (hc : cOk F u) (hk : dOk t) {rc R : Nat → Bool} (h1 : ∀ i, i < nU u → (rc i = true ↔ cRe u i)) (h2 : ∀ o, o < gM t → (R o = true ↔ dRe t o)) : sm R (fun o => 2 + gS t o) (gM t) = sm rc (fun i => 2 + sZ u i) (nU u) ∧ sm R (fun _ => 1) (gM t) = sm rc (fun _ => 1) (nU u) := by
  have hinj : ∀ a b, a < gM t → b < gM t → R a = true → R b = true → rho a = rho b → a = b := fun a b ha hb hRa hRb => h.2.2.2.2.2.2 a b ((h2 a ha).mp hRa) ((h2 b hb).mp hRb)
  have hsur : ∀ i, i < nU u → rc i = true → ∃ o, o < gM t ∧ R o = true ∧ rho o = i := fun i hi hri => by
    obtain ⟨o, ho, hoi⟩ := h.back hc hk ((h1 i hi).mp hri)
    exact ⟨o, ho.lt, (h2 o ho.lt).mpr ho, hoi⟩
  constructor
  · refine sm_bij (rho := rho) _ _ (fun o ho hro => ?_) hinj hsur
    have hd := (h2 o ho).mp hro
    obtain ⟨g1, g2, -⟩ := h.2.2.2.2.2.1 o hd
    exact ⟨g1, (h1 _ g1).mpr (h.to hk hd), by rw [g2]⟩
  · refine sm_bij (rho := rho) _ _ (fun o ho hro => ?_) hinj hsur
    have hd := (h2 o ho).mp hro
    obtain ⟨g1, g2, -⟩ := h.2.2.2.2.2.1 o hd
    exact ⟨g1, (h1 _ g1).mpr (h.to hk hd), rfl⟩
end
section
/-! the calls, on both sides -/
theorem dRe.sub {t t' : DS} {o : Nat} (h : dRe t' o) (hM : gM t' = gM t) (hr : ∀ o, o < gM t → dRt t' o → dRe t o) (he : ∀ a b, dRe t a → b < gM t → dEd t' a b → dRe t b) : dRe t o :=
  h (fun o => dRe t o) (fun x hx hrx => hr x (by rw [← hM]; exact hx) hrx) (fun x y hx hy hxy => he x y hx (by rw [← hM]; exact hy) hxy)
theorem gV'.cls {t : DS} {a b : Int32} (h : gV' t a b) : (a = 0 ∧ b = 0) ∨ a = 1 ∨ (a = 2 ∧ ∃ o, o < gM t ∧ b = nI o) := by
  rcases h with h | h | ⟨h, o, ho, hb, -⟩
  · exact Or.inl h
  · exact Or.inr (Or.inl h)
  · exact Or.inr (Or.inr ⟨h, o, ho, hb⟩)
theorem gV'.obj {t : DS} {a b : Int32} (h : gV' t a b) (hm : gM t ≤ 512) {x : Nat} (hx : x < 1024) (ha : a = 2) (hb : b = nI x) : dRe t x := by
  rcases h with ⟨h, -⟩ | h | ⟨h, o, ho, hb2, hd⟩
  · rw [ha] at h; exact absurd h (by decide)
  · rw [ha] at h; exact absurd h (by decide)
  · rw [hb] at hb2
    rw [nI_inj (by omega) (by omega) hb2]
    exact hd
theorem pL_inj {a b j k : Nat} (hj : j < 20) (hk : k < 20) (h : pL a j = pL b k) : a = b ∧ j = k := by
  unfold pL at h
  omega
theorem pL_ge (a k : Nat) : 60 ≤ pL a k := by unfold pL; omega
theorem Rl.reg {u : CS} {t : DS} {rho : Nat → Nat} (h : Rl u t rho) (hk : dOk t) {r : Nat} (hr : r < 10) {a b : Int32} (hg : gV' t a b) :
    Rl (uR u (vp_updL (rG u) r (eV rho a b))) (wV t (upd (gK t) r a) (upd (gV t) r b)) rho ∧ dOk (wV t (upd (gK t) r a) (upd (gV t) r b)) := by
  have hne : ∀ o k, pL o k ≠ r := fun o k e => by have := pL_ge o k; omega
  have hm := hk.2.1
  have sub : ∀ o, dRe (wV t (upd (gK t) r a) (upd (gV t) r b)) o → dRe t o := by
    intro o ho
    refine dRe.sub (t := t) ho rfl (fun x hx hrx => ?_) (fun x y hx hy hxy => ?_)
    · obtain ⟨p, hp, h1, h2⟩ := hrx
      have hp : p < 10 + gT t := hp
      have h1 : upd (gK t) r a p = 2 := h1
      have h2 : upd (gV t) r b p = nI x := h2
      by_cases e : p = r
      · subst e
        rw [pk_us] at h1 h2
        exact hg.obj hm (by omega) h1 h2
      · rw [pk_un e] at h1 h2
        exact dRe.root hx ⟨p, hp, h1, h2⟩
    · obtain ⟨k, hk1, h1, h2⟩ := hxy
      have h1 : upd (gK t) r a (pL x k) = 2 := h1
      have h2 : upd (gV t) r b (pL x k) = nI y := h2
      rw [pk_un (hne x k)] at h1 h2
      exact hx.step hy ⟨k, hk1, h1, h2⟩
  constructor
  · refine ⟨h.1, h.2.1, h.2.2.1, fun j hj => ?_, fun j hj => ?_, fun o ho => ?_, fun x y hx hy => h.2.2.2.2.2.2 x y (sub x hx) (sub y hy)⟩
    · show vp_updL (rG u) r (eV rho a b) j = eV rho (upd (gK t) r a j) (upd (gV t) r b j)
      by_cases e : j = r
      · subst e; rw [pk_uLs, pk_us, pk_us]
      · rw [pk_uLn e, pk_un e, pk_un e]; exact h.2.2.2.1 j hj
    · show sK u j = eV rho (upd (gK t) r a (10 + j)) (upd (gV t) r b (10 + j))
      rw [pk_un (by omega), pk_un (by omega)]; exact h.2.2.2.2.1 j hj
    · obtain ⟨g1, g2, g3⟩ := h.2.2.2.2.2.1 o (sub o ho)
      refine ⟨g1, g2, fun k hk1 => ?_⟩
      show vS u (rho o) k = eV rho (upd (gK t) r a (pL o k)) (upd (gV t) r b (pL o k))
      rw [pk_un (hne o k), pk_un (hne o k)]; exact g3 k hk1
  · refine ⟨hk.1, hk.2.1, hk.2.2.1, fun p hp => ?_⟩
    show (upd (gK t) r a p = 0 ∧ upd (gV t) r b p = 0) ∨ upd (gK t) r a p = 1 ∨ (upd (gK t) r a p = 2 ∧ ∃ o, o < gM t ∧ upd (gV t) r b p = nI o)
    by_cases e : p = r
    · subst e; rw [pk_us, pk_us]; exact hg.cls
    · rw [pk_un e, pk_un e]; exact hk.2.2.2 p hp
theorem Rl.pop {u : CS} {t : DS} {rho : Nat → Nat} (h : Rl u t rho) (hk : dOk t) {n : Nat} (hn : n < gT t) : Rl (uT u n) (wT t n) rho ∧ dOk (wT t n) := by
  have sub : ∀ o, dRe (wT t n) o → dRe t o := by
    intro o ho
    refine dRe.sub (t := t) ho rfl (fun x hx hrx => ?_) (fun x y hx hy hxy => hx.step hy hxy)
    obtain ⟨p, hp, h1, h2⟩ := hrx
    have hp : p < 10 + n := hp
    exact dRe.root hx ⟨p, by omega, h1, h2⟩
  constructor
  · refine ⟨rfl, h.2.1, h.2.2.1, h.2.2.2.1, fun j hj => ?_, fun o ho => h.2.2.2.2.2.1 o (sub o ho), fun x y hx hy => h.2.2.2.2.2.2 x y (sub x hx) (sub y hy)⟩
    have hj : j < n := hj
    exact h.2.2.2.2.1 j (by omega)
  · have h50 := hk.1
    refine ⟨by show n ≤ 50; omega, hk.2.1, hk.2.2.1, fun p hp => hk.2.2.2 p ?_⟩
    rcases hp with hp | hp
    · have hp : p < 10 + n := hp
      exact Or.inl (by omega)
    · exact Or.inr hp
theorem Rl.push {u : CS} {t : DS} {rho : Nat → Nat} (h : Rl u t rho) (hk : dOk t) (hs : gT t < 50) {a b : Int32} (hg : gV' t a b) :
    Rl (uT (uS u (vp_updL (sK u) (gT t) (eV rho a b))) (gT t + 1)) (wT (wV t (upd (gK t) (10 + gT t) a) (upd (gV t) (10 + gT t) b)) (gT t + 1)) rho ∧ dOk (wT (wV t (upd (gK t) (10 + gT t) a) (upd (gV t) (10 + gT t) b)) (gT t + 1)) := by
  have hne : ∀ o k, pL o k ≠ 10 + gT t := fun o k e => by have := pL_ge o k; omega
  have hm := hk.2.1
  have sub : ∀ o, dRe (wT (wV t (upd (gK t) (10 + gT t) a) (upd (gV t) (10 + gT t) b)) (gT t + 1)) o → dRe t o := by
    intro o ho
    refine dRe.sub (t := t) ho rfl (fun x hx hrx => ?_) (fun x y hx hy hxy => ?_)
    · obtain ⟨p, hp, h1, h2⟩ := hrx
      have hp : p < 10 + (gT t + 1) := hp
      have h1 : upd (gK t) (10 + gT t) a p = 2 := h1
      have h2 : upd (gV t) (10 + gT t) b p = nI x := h2
      by_cases e : p = 10 + gT t
      · subst e
        rw [pk_us] at h1 h2
        exact hg.obj hm (by omega) h1 h2
      · rw [pk_un e] at h1 h2
        exact dRe.root hx ⟨p, by omega, h1, h2⟩
    · obtain ⟨k, hk1, h1, h2⟩ := hxy
      have h1 : upd (gK t) (10 + gT t) a (pL x k) = 2 := h1
      have h2 : upd (gV t) (10 + gT t) b (pL x k) = nI y := h2
      rw [pk_un (hne x k)] at h1 h2
      exact hx.step hy ⟨k, hk1, h1, h2⟩
  constructor
  · refine ⟨rfl, h.2.1, h.2.2.1, fun j hj => ?_, fun j hj => ?_, fun o ho => ?_, fun x y hx hy => h.2.2.2.2.2.2 x y (sub x hx) (sub y hy)⟩
    · show rG u j = eV rho (upd (gK t) (10 + gT t) a j) (upd (gV t) (10 + gT t) b j)
      rw [pk_un (by omega), pk_un (by omega)]; exact h.2.2.2.1 j hj
    · have hj : j < gT t + 1 := hj
      show vp_updL (sK u) (gT t) (eV rho a b) j = eV rho (upd (gK t) (10 + gT t) a (10 + j)) (upd (gV t) (10 + gT t) b (10 + j))
      by_cases e : j = gT t
      · subst e; rw [pk_uLs, pk_us, pk_us]
      · rw [pk_uLn e, pk_un (by omega), pk_un (by omega)]; exact h.2.2.2.2.1 j (by omega)
    · obtain ⟨g1, g2, g3⟩ := h.2.2.2.2.2.1 o (sub o ho)
      refine ⟨g1, g2, fun k hk1 => ?_⟩
      show vS u (rho o) k = eV rho (upd (gK t) (10 + gT t) a (pL o k)) (upd (gV t) (10 + gT t) b (pL o k))
      rw [pk_un (hne o k), pk_un (hne o k)]; exact g3 k hk1
  · refine ⟨by show gT t + 1 ≤ 50; omega, hk.2.1, hk.2.2.1, fun p hp => ?_⟩
    show (upd (gK t) (10 + gT t) a p = 0 ∧ upd (gV t) (10 + gT t) b p = 0) ∨ upd (gK t) (10 + gT t) a p = 1 ∨ (upd (gK t) (10 + gT t) a p = 2 ∧ ∃ o, o < gM t ∧ upd (gV t) (10 + gT t) b p = nI o)
    by_cases e : p = 10 + gT t
    · subst e; rw [pk_us, pk_us]; exact hg.cls
    · rw [pk_un e, pk_un e]
      refine hk.2.2.2 p ?_
      rcases hp with hp | hp
      · have hp : p < 10 + (gT t + 1) := hp
        exact Or.inl (by omega)
      · exact Or.inr hp
/-- an object's values are changed: set, grow, shrink -/
theorem Rl.obj {u u' : CS} {t t' : DS} {rho : Nat → Nat} (h : Rl u t rho) (hk : dOk t) {o : Nat} (ho : dRe t o)
    (a1 : gT t' = gT t) (a2 : gM t' = gM t) (a3 : gF t' = gF t) (a4 : ∀ x, x ≠ o → gS t' x = gS t x) (a5 : gS t' o ≤ 20) (a6 : ∀ p, (∀ k, k < 20 → p ≠ pL o k) → gK t' p = gK t p ∧ gV t' p = gV t p) (a7 : ∀ k, k < gS t' o → gV' t (gK t' (pL o k)) (gV t' (pL o k)))
    (b1 : sT u' = sT u) (b2 : mD u' = mD u) (b3 : fU u' = fU u) (b4 : rG u' = rG u) (b5 : sK u' = sK u) (b6 : nU u' = nU u) (b7 : ∀ i, i ≠ rho o → sZ u' i = sZ u i ∧ vS u' i = vS u i) (b8 : sZ u' (rho o) = gS t' o) (b9 : ∀ k, k < gS t' o → vS u' (rho o) k = eV rho (gK t' (pL o k)) (gV t' (pL o k))) :
    Rl u' t' rho ∧ dOk t' := by
  have hm := hk.2.1
  have h50 := hk.1
  have low : ∀ p, p < 60 → gK t' p = gK t p ∧ gV t' p = gV t p := fun p hp => a6 p (fun k _ e => by have := pL_ge o k; omega)
  have oth : ∀ x k, x ≠ o → k < 20 → gK t' (pL x k) = gK t (pL x k) ∧ gV t' (pL x k) = gV t (pL x k) := fun x k hx hk2 => a6 _ (fun j hj e => hx (pL_inj hk2 hj e).1)
  have sub : ∀ x, dRe t' x → dRe t x := by
    intro x hx
    refine dRe.sub (t := t) hx a2 (fun x hx hrx => ?_) (fun x y hx hy hxy => ?_)
    · obtain ⟨p, hp, h1, h2⟩ := hrx
      rw [a1] at hp
      rw [(low p (by omega)).1] at h1
      rw [(low p (by omega)).2] at h2
      exact dRe.root hx ⟨p, hp, h1, h2⟩
    · obtain ⟨k, hk1, h1, h2⟩ := hxy
      by_cases e : x = o
      · subst e
        exact (a7 k hk1).obj hm (by omega) h1 h2
      · rw [a4 x e] at hk1
        have hk20 : k < 20 := by have := hk.2.2.1 x hx.lt; omega
        rw [(oth x k e hk20).1] at h1
        rw [(oth x k e hk20).2] at h2
        exact hx.step hy ⟨k, hk1, h1, h2⟩
  constructor
  · refine ⟨by rw [b1, a1]; exact h.1, by rw [b2, a2]; exact h.2.1, by rw [b3, a3]; exact h.2.2.1, fun j hj => ?_, fun j hj => ?_, fun x hx => ?_, fun x y hx hy => h.2.2.2.2.2.2 x y (sub x hx) (sub y hy)⟩
    · rw [b4, (low j (by omega)).1, (low j (by omega)).2]; exact h.2.2.2.1 j hj
    · rw [a1] at hj
      rw [b5, (low (10 + j) (by omega)).1, (low (10 + j) (by omega)).2]; exact h.2.2.2.2.1 j hj
    · obtain ⟨g1, g2, g3⟩ := h.2.2.2.2.2.1 x (sub x hx)
      by_cases e : x = o
      · subst e
        exact ⟨by rw [b6]; exact g1, b8, b9⟩
      · have hne : rho x ≠ rho o := fun q => e (h.2.2.2.2.2.2 x o (sub x hx) ho q)
        refine ⟨by rw [b6]; exact g1, by rw [(b7 _ hne).1, a4 x e]; exact g2, fun k hk1 => ?_⟩
        rw [a4 x e] at hk1
        have hk20 : k < 20 := by have := hk.2.2.1 x (sub x hx).lt; omega
        rw [(b7 _ hne).2, (oth x k e hk20).1, (oth x k e hk20).2]
        exact g3 k hk1
  · refine ⟨by rw [a1]; exact h50, by rw [a2]; exact hm, fun x hx => ?_, fun p hp => ?_⟩
    · by_cases e : x = o
      · subst e; exact a5
      · rw [a4 x e]; exact hk.2.2.1 x (by rw [← a2]; exact hx)
    · rw [a2]
      rcases hp with hp | ⟨x, k, hx, hk1, rfl⟩
      · rw [a1] at hp
        rw [(low p (by omega)).1, (low p (by omega)).2]
        exact hk.2.2.2 p (Or.inl hp)
      · by_cases e : x = o
        · subst e; exact (a7 k hk1).cls
        · rw [a4 x e] at hk1
          rw [a2] at hx
          have hk20 : k < 20 := by have := hk.2.2.1 x hx; omega
          rw [(oth x k e hk20).1, (oth x k e hk20).2]
          exact hk.2.2.2 _ (Or.inr ⟨x, k, hx, hk1, rfl⟩)
theorem eV_up {t : DS} (hm : gM t ≤ 512) {rho : Nat → Nat} {i : Nat} {a b : Int32} (h : (a = 0 ∧ b = 0) ∨ a = 1 ∨ (a = 2 ∧ ∃ o, o < gM t ∧ b = nI o)) : eV (va_up rho (gM t) i) a b = eV rho a b := by
  rcases h with ⟨rfl, -⟩ | rfl | ⟨rfl, o, ho, rfl⟩
  · rw [eV_0, eV_0]
  · rw [eV_1, eV_1]
  · rw [eV_2 _ (by omega), eV_2 _ (by omega), va_up_ne _ _ (show o ≠ gM t by omega)]
/-- a new object -/
theorem Rl.make {u u' : CS} {t t' : DS} {rho : Nat → Nat} (h : Rl u t rho) (hk : dOk t) {r k i : Nat} {a b : Int32} (hr : r < 10) (hk20 : k ≤ 20) (hM : gM t < 512) (hg : gV' t a b) (hi : ∀ o, dRe t o → rho o ≠ i)
    (a1 : gT t' = gT t) (a2 : gM t' = gM t + 1) (a3 : gF t' = gF t) (a4 : ∀ x, x ≠ gM t → gS t' x = gS t x) (a5 : gS t' (gM t) = k) (a6 : ∀ p, p ≠ r → (∀ j, j < 20 → p ≠ pL (gM t) j) → gK t' p = gK t p ∧ gV t' p = gV t p) (a7 : ∀ j, j < k → gK t' (pL (gM t) j) = a ∧ gV t' (pL (gM t) j) = b) (a8 : gK t' r = 2 ∧ gV t' r = nI (gM t))
    (b1 : sT u' = sT u) (b2 : mD u' = mD u + 1) (b3 : fU u' = fU u) (b4 : ∀ j, j ≠ r → rG u' j = rG u j) (b4r : rG u' r = oB i) (b5 : sK u' = sK u) (b6 : nU u ≤ nU u') (b6i : i < nU u') (b7 : ∀ x, x < nU u → x ≠ i → sZ u' x = sZ u x ∧ vS u' x = vS u x) (b8 : sZ u' i = k) (b9 : ∀ j, j < k → vS u' i j = eV rho a b) :
    Rl u' t' (va_up rho (gM t) i) ∧ dOk t' := by
  have hm := hk.2.1
  have h50 := hk.1
  have low : ∀ p, p < 60 → p ≠ r → gK t' p = gK t p ∧ gV t' p = gV t p := fun p hp hpr => a6 p hpr (fun j _ e => by have := pL_ge (gM t) j; omega)
  have oth : ∀ x j, x ≠ gM t → j < 20 → gK t' (pL x j) = gK t (pL x j) ∧ gV t' (pL x j) = gV t (pL x j) := fun x j hx hj => a6 _ (fun e => by have := pL_ge x j; omega) (fun j2 hj2 e => hx (pL_inj hj hj2 e).1)
  have sub : ∀ x, dRe t' x → x = gM t ∨ dRe t x := by
    intro x hx
    refine hx (fun x => x = gM t ∨ dRe t x) (fun x hx hrx => ?_) (fun x y hx hy hxy => ?_)
    · rw [a2] at hx
      by_cases e : x = gM t
      · exact Or.inl e
      · obtain ⟨p, hp, h1, h2⟩ := hrx
        rw [a1] at hp
        by_cases ep : p = r
        · subst ep
          rw [a8.2] at h2
          exact Or.inl (nI_inj (by omega) (by omega) h2).symm
        · rw [(low p (by omega) ep).1] at h1
          rw [(low p (by omega) ep).2] at h2
          exact Or.inr (dRe.root (by omega) ⟨p, hp, h1, h2⟩)
    · rw [a2] at hy
      by_cases ey : y = gM t
      · exact Or.inl ey
      · obtain ⟨j, hj, h1, h2⟩ := hxy
        rcases hx with hx | hx
        · subst hx
          rw [a5] at hj
          rw [(a7 j hj).1] at h1
          rw [(a7 j hj).2] at h2
          exact Or.inr (hg.obj hm (by omega) h1 h2)
        · have hxl := hx.lt
          rw [a4 x (by omega)] at hj
          have hj20 : j < 20 := by have := hk.2.2.1 x hxl; omega
          rw [(oth x j (by omega) hj20).1] at h1
          rw [(oth x j (by omega) hj20).2] at h2
          exact Or.inr (hx.step (by omega) ⟨j, hj, h1, h2⟩)
  have live : ∀ p, dLv t p → eV (va_up rho (gM t) i) (gK t p) (gV t p) = eV rho (gK t p) (gV t p) := fun p hp => eV_up hm (hk.2.2.2 p hp)
  constructor
  · refine ⟨by rw [b1, a1]; exact h.1, by rw [b2, a2, h.2.1], by rw [b3, a3]; exact h.2.2.1, fun j hj => ?_, fun j hj => ?_, fun x hx => ?_, fun x y hx hy hxy => ?_⟩
    · by_cases e : j = r
      · subst e
        rw [b4r, a8.1, a8.2, eV_2 _ (by omega), va_up_self]
      · rw [b4 j e, (low j (by omega) e).1, (low j (by omega) e).2, live j (Or.inl (by omega))]
        exact h.2.2.2.1 j hj
    · rw [a1] at hj
      rw [b5, (low (10 + j) (by omega) (by omega)).1, (low (10 + j) (by omega) (by omega)).2, live _ (Or.inl (by omega))]
      exact h.2.2.2.2.1 j hj
    · by_cases e : x = gM t
      · subst e
        rw [va_up_self, a5]
        refine ⟨b6i, b8, fun j hj => ?_⟩
        rw [b9 j hj, (a7 j hj).1, (a7 j hj).2, eV_up hm hg.cls]
      · have hd : dRe t x := (sub x hx).resolve_left e
        obtain ⟨g1, g2, g3⟩ := h.2.2.2.2.2.1 x hd
        rw [va_up_ne _ _ e, a4 x e]
        obtain ⟨c1, c2⟩ := b7 (rho x) g1 (hi x hd)
        refine ⟨by omega, by rw [c1]; exact g2, fun j hj => ?_⟩
        have hj20 : j < 20 := by have := hk.2.2.1 x hd.lt; omega
        rw [c2, (oth x j e hj20).1, (oth x j e hj20).2, live _ (Or.inr ⟨x, j, hd.lt, hj, rfl⟩)]
        exact g3 j hj
    · rcases sub x hx with ex | dx <;> rcases sub y hy with ey | dy
      · rw [ex, ey]
      · have hyl := dy.lt
        rw [ex, va_up_self, va_up_ne _ _ (show y ≠ gM t by omega)] at hxy
        exact absurd hxy.symm (hi y dy)
      · have hxl := dx.lt
        rw [ey, va_up_self, va_up_ne _ _ (show x ≠ gM t by omega)] at hxy
        exact absurd hxy (hi x dx)
      · have hxl := dx.lt
        have hyl := dy.lt
        rw [va_up_ne _ _ (show x ≠ gM t by omega), va_up_ne _ _ (show y ≠ gM t by omega)] at hxy
        exact h.2.2.2.2.2.2 x y dx dy hxy
  · have wk : ∀ a b : Int32, ((a = 0 ∧ b = 0) ∨ a = 1 ∨ (a = 2 ∧ ∃ o, o < gM t ∧ b = nI o)) → (a = 0 ∧ b = 0) ∨ a = 1 ∨ (a = 2 ∧ ∃ o, o < gM t + 1 ∧ b = nI o) := by
      intro a b h
      rcases h with h | h | ⟨h, o, ho, hb⟩
      · exact Or.inl h
      · exact Or.inr (Or.inl h)
      · exact Or.inr (Or.inr ⟨h, o, by omega, hb⟩)
    refine ⟨by rw [a1]; exact h50, by rw [a2]; omega, fun x hx => ?_, fun p hp => ?_⟩
    · by_cases e : x = gM t
      · subst e; rw [a5]; exact hk20
      · rw [a4 x e]; exact hk.2.2.1 x (by omega)
    · rw [a2]
      rcases hp with hp | ⟨x, j, hx, hj, rfl⟩
      · rw [a1] at hp
        by_cases e : p = r
        · subst e
          exact Or.inr (Or.inr ⟨a8.1, gM t, by omega, a8.2⟩)
        · rw [(low p (by omega) e).1, (low p (by omega) e).2]
          exact wk _ _ (hk.2.2.2 p (Or.inl hp))
      · by_cases e : x = gM t
        · subst e
          rw [a5] at hj
          rw [(a7 j hj).1, (a7 j hj).2]
          exact wk _ _ hg.cls
        · rw [a4 x e] at hj
          rw [a2] at hx
          have hj20 : j < 20 := by have := hk.2.2.1 x (by omega); omega
          rw [(oth x j e hj20).1, (oth x j e hj20).2]
          exact wk _ _ (hk.2.2.2 _ (Or.inr ⟨x, j, by omega, hj, rfl⟩))
end
section
/-! what the class's methods do -/
def pTO (u : CS) (v : Int64) (r : Option Nat) : Prop := (∃ i, i < nU u ∧ v = oB i ∧ r = some (tH u i)) ∨ ((∀ i, i < nU u → v ≠ oB i) ∧ r = none)
def pTI (u : CS) (r : Int32) (x : Option Nat) : Prop := (∃ j i, j < 10 ∧ r = nI j ∧ i < nU u ∧ rG u j = oB i ∧ x = some (tH u i)) ∨ ((∀ j i, j < 10 → r = nI j → i < nU u → rG u j ≠ oB i) ∧ x = none)
/-- the same but for the marks of a walk -/
def Sm (u v : CS) : Prop := rG v = rG u ∧ sK v = sK u ∧ sT v = sT u ∧ mD v = mD u ∧ fU v = fU u ∧ nU v = nU u ∧ tH v = tH u ∧ aR v = aR u ∧ sZ v = sZ u ∧ vS v = vS u
theorem Sm.rf (u : CS) : Sm u u := ⟨rfl, rfl, rfl, rfl, rfl, rfl, rfl, rfl, rfl, rfl⟩
theorem Sm.tr {u v w : CS} (h : Sm u v) (k : Sm v w) : Sm u w := by
  obtain ⟨a1, a2, a3, a4, a5, a6, a7, a8, a9, a10⟩ := h
  obtain ⟨b1, b2, b3, b4, b5, b6, b7, b8, b9, b10⟩ := k
  exact ⟨b1.trans a1, b2.trans a2, b3.trans a3, b4.trans a4, b5.trans a5, b6.trans a6, b7.trans a7, b8.trans a8, b9.trans a9, b10.trans a10⟩
/-- a walk under way: how many, how many cells, which -/
def Wk (u : CS) : Prop := rO u = sm (rC u) (fun _ => 1) (nU u) ∧ rL u = sm (rC u) (fun i => 2 + sZ u i) (nU u) ∧ (∀ j, j < rO u → ∃ i, i < nU u ∧ rE u j = some (tH u i) ∧ rC u i = true) ∧ (∀ i, i < nU u → rC u i = true → ∃ j, j < rO u ∧ rE u j = some (tH u i))
abbrev mk (u : CS) (i : Nat) : CS := uK u (sZ u) (va_up (rC u) i true) (vS u) (rO u + 1) (rL u + (2 + sZ u i)) (va_up (rE u) (rO u) (some (tH u i)))
def rch (u : CS) (o : Option Nat) : CS := match o with
  | none => u
  | some i => if rC u i = true then u else mk u i
theorem mk_Sm (u : CS) (i : Nat) : Sm u (mk u i) := ⟨rfl, rfl, rfl, rfl, rfl, rfl, rfl, rfl, rfl, rfl⟩
theorem Wk.mk {u : CS} (h : Wk u) {i : Nat} (hi : i < nU u) (hf : rC u i = false) : Wk (mk u i) := by
  obtain ⟨h1, h2, h3, h4⟩ := h
  refine ⟨?_, ?_, fun j hj => ?_, fun x hx hr => ?_⟩
  · show rO u + 1 = sm (va_up (rC u) i true) (fun _ => 1) (nU u)
    rw [sm_up hi hf, ← h1]
  · show rL u + (2 + sZ u i) = sm (va_up (rC u) i true) (fun i => 2 + sZ u i) (nU u)
    rw [sm_up hi hf, ← h2]
  · have hj : j < rO u + 1 := hj
    show ∃ x, x < nU u ∧ va_up (rE u) (rO u) (some (tH u i)) j = some (tH u x) ∧ va_up (rC u) i true x = true
    by_cases e : j = rO u
    · subst e
      exact ⟨i, hi, va_up_self _ _ _, va_up_self _ _ _⟩
    · obtain ⟨x, hx, g1, g2⟩ := h3 j (by omega)
      refine ⟨x, hx, by rw [va_up_ne _ _ e]; exact g1, ?_⟩
      by_cases e2 : x = i
      · rw [e2, va_up_self]
      · rw [va_up_ne _ _ e2]; exact g2
  · have hr : va_up (rC u) i true x = true := hr
    show ∃ j, j < rO u + 1 ∧ va_up (rE u) (rO u) (some (tH u i)) j = some (tH u x)
    by_cases e : x = i
    · subst e
      exact ⟨rO u, by omega, va_up_self _ _ _⟩
    · rw [va_up_ne _ _ e] at hr
      obtain ⟨j, hj, g⟩ := h4 x hx hr
      exact ⟨j, by omega, by rw [va_up_ne _ _ (show j ≠ rO u by omega)]; exact g⟩
theorem Wk.lt {u : CS} (h : Wk u) {i : Nat} (hi : i < nU u) (hf : rC u i = false) : rO u < nU u := by
  rw [h.1]; exact sm_lt hi hf
theorem Wk.le {u : CS} (h : Wk u) : rO u ≤ nU u := by
  rw [h.1]; exact sm_le
/-- marks only grow, what was found stays found -/
def Ex (u v : CS) : Prop := (∀ i, i < nU u → rC u i = true → rC v i = true) ∧ rO u ≤ rO v ∧ ∀ j, j < rO u → rE v j = rE u j
theorem Ex.rf (u : CS) : Ex u u := ⟨fun _ _ h => h, Nat.le_refl _, fun _ _ => rfl⟩
theorem Ex.tr {u v w : CS} (hn : nU v = nU u) (h : Ex u v) (k : Ex v w) : Ex u w :=
  ⟨fun i hi hr => k.1 i (by rw [hn]; exact hi) (h.1 i hi hr), Nat.le_trans h.2.1 k.2.1, fun j hj => (k.2.2 j (Nat.lt_of_lt_of_le hj h.2.1)).trans (h.2.2 j hj)⟩
theorem mk_Ex (u : CS) (i : Nat) : Ex u (mk u i) := by
  refine ⟨fun x _ hr => ?_, Nat.le_succ _, fun j hj => ?_⟩
  · show va_up (rC u) i true x = true
    by_cases e : x = i
    · rw [e, va_up_self]
    · rw [va_up_ne _ _ e]; exact hr
  · show va_up (rE u) (rO u) (some (tH u i)) j = rE u j
    exact va_up_ne _ _ (by omega)
theorem rch_all {u : CS} (h : Wk u) {o : Option Nat} (ho : ∀ i, o = some i → i < nU u) : Sm u (rch u o) ∧ Wk (rch u o) ∧ Ex u (rch u o) ∧ (∀ i, o = some i → rC (rch u o) i = true) ∧ ∀ i, i < nU u → rC (rch u o) i = true → rC u i = true ∨ o = some i := by
  cases o with
  | none => exact ⟨Sm.rf u, h, Ex.rf u, fun i q => (by cases q), fun i _ hr => Or.inl hr⟩
  | some a =>
    have ha := ho a rfl
    show Sm u (if rC u a = true then u else mk u a) ∧ Wk (if rC u a = true then u else mk u a) ∧ Ex u (if rC u a = true then u else mk u a) ∧ (∀ i, some a = some i → rC (if rC u a = true then u else mk u a) i = true) ∧ ∀ i, i < nU u → rC (if rC u a = true then u else mk u a) i = true → rC u i = true ∨ some a = some i
    by_cases hr : rC u a = true
    · rw [if_pos hr]
      exact ⟨Sm.rf u, h, Ex.rf u, fun i q => by cases q; exact hr, fun i _ h2 => Or.inl h2⟩
    · rw [if_neg hr]
      have hf : rC u a = false := by
        cases hq : rC u a with
        | false => rfl
        | true => exact absurd hq hr
      refine ⟨mk_Sm u a, h.mk ha hf, mk_Ex u a, fun i q => by cases q; exact va_up_self _ _ _, fun i _ h2 => ?_⟩
      by_cases e : i = a
      · exact Or.inr (by rw [e])
      · have h2 : va_up (rC u) a true i = true := h2
        rw [va_up_ne _ _ e] at h2
        exact Or.inl h2
/-- what going over an array of values marks -/
def pAll (u : CS) (g : Nat → Int64) (z : Nat) (v : CS) : Prop := Sm u v ∧ Wk v ∧ Ex u v ∧ (∀ k, k < z → ∀ i, i < nU u → g k = oB i → rC v i = true) ∧ ∀ i, i < nU u → rC v i = true → rC u i = true ∨ ∃ k, k < z ∧ g k = oB i
theorem pAll.start {u : CS} (h : Wk u) (g : Nat → Int64) : pAll u g 0 u := ⟨Sm.rf u, h, Ex.rf u, fun k hk => by omega, fun _ _ hr => Or.inl hr⟩
theorem pAll.step {u v : CS} {g : Nat → Int64} {z : Nat} (h : pAll u g z v) {o : Option Nat} (ho : (∃ i, i < nU u ∧ g z = oB i ∧ o = some i) ∨ ((∀ i, i < nU u → g z ≠ oB i) ∧ o = none)) (hn : nU u < 2147483648) : pAll u g (z + 1) (rch v o) := by
  obtain ⟨h1, h2, h3, h4, h5⟩ := h
  have en : nU v = nU u := h1.2.2.2.2.2.1
  have hlt : ∀ i, o = some i → i < nU v := by
    intro i e
    rcases ho with ⟨x, hx, -, hox⟩ | ⟨-, hox⟩
    · rw [hox] at e; cases e; rw [en]; exact hx
    · rw [hox] at e; cases e
  obtain ⟨g1, g2, g3, g4, g5⟩ := rch_all h2 hlt
  refine ⟨h1.tr g1, g2, h3.tr en g3, fun k hk i hi hki => ?_, fun i hi hr => ?_⟩
  · by_cases e : k = z
    · subst e
      rcases ho with ⟨x, hx, hgx, hox⟩ | ⟨hno, -⟩
      · rw [hgx] at hki
        have e2 := oB_inj (by omega) (by omega) hki
        subst e2
        exact g4 x hox
      · exact absurd hki (hno i hi)
    · exact g3.1 i (by rw [en]; exact hi) (h4 k (by omega) i hi hki)
  · rcases g5 i (by rw [en]; exact hi) hr with h6 | h6
    · rcases h5 i hi h6 with h7 | ⟨k, hk, h7⟩
      · exact Or.inl h7
      · exact Or.inr ⟨k, by omega, h7⟩
    · rcases ho with ⟨x, hx, hgx, hox⟩ | ⟨-, hox⟩
      · rw [hox] at h6; cases h6
        exact Or.inr ⟨z, by omega, hgx⟩
      · rw [hox] at h6; cases h6
/-- a whole walk: what is marked is what is reached -/
def Wd (u v : CS) : Prop := Sm u v ∧ rO v = sm (rC v) (fun _ => 1) (nU u) ∧ rL v = sm (rC v) (fun i => 2 + sZ u i) (nU u) ∧ ∀ i, i < nU u → (rC v i = true ↔ cRe u i)
/-- following what was found -/
def pFol (u : CS) (z : Nat) (v : CS) : Prop := Sm u v ∧ Wk v ∧ (∀ i, i < nU u → rC u i = true → rC v i = true) ∧ z ≤ rO v ∧ (∀ j, j < z → ∃ i, i < nU u ∧ rE v j = some (tH u i) ∧ ∀ b, b < nU u → cEd u i b → rC v b = true) ∧ ∀ S : Nat → Prop, (∀ i, i < nU u → rC u i = true → S i) → (∀ x y, S x → y < nU u → cEd u x y → S y) → ∀ i, i < nU u → rC v i = true → S i
theorem pFol.start {u : CS} (h : Wk u) : pFol u 0 u := ⟨Sm.rf u, h, fun _ _ h => h, Nat.zero_le _, fun j hj => by omega, fun _ h1 _ i hi hr => h1 i hi hr⟩
theorem pFol.step {u v w : CS} {z i : Nat} (h : pFol u z v) (hz : z < rO v) (hi : i < nU u) (he : rE v z = some (tH u i)) (hri : rC v i = true) (k : pAll v (vS u i) (sZ u i) w) : pFol u (z + 1) w := by
  obtain ⟨h1, h2, h3, h4, h5, h6⟩ := h
  obtain ⟨k1, k2, k3, k4, k5⟩ := k
  have en : nU v = nU u := h1.2.2.2.2.2.1
  rw [en] at k4 k5
  have mono : ∀ b, b < nU u → rC v b = true → rC w b = true := fun b hb hr => k3.1 b (by rw [en]; exact hb) hr
  refine ⟨h1.tr k1, k2, fun b hb hr => mono b hb (h3 b hb hr), by have := k3.2.1; omega, fun j hj => ?_, fun S s1 s2 b hb hr => ?_⟩
  · by_cases e : j = z
    · subst e
      refine ⟨i, hi, by rw [k3.2.2 j hz]; exact he, fun b hb hib => ?_⟩
      obtain ⟨q, hq, hqb⟩ := hib
      exact k4 q hq b hb hqb
    · obtain ⟨x, hx, g1, g2⟩ := h5 j (by omega)
      exact ⟨x, hx, by rw [k3.2.2 j (by omega)]; exact g1, fun b hb hxb => mono b hb (g2 b hb hxb)⟩
  · rcases k5 b hb hr with g | ⟨q, hq, g⟩
    · exact h6 S s1 s2 b hb g
    · exact s2 i b (h6 S s1 s2 i hi hri) hb ⟨q, hq, g⟩
theorem pFol.done {u v : CS} (h : pFol u (rO v) v) (hinj : ∀ i j, i < nU u → j < nU u → tH u i = tH u j → i = j) : ∀ x y, x < nU u → y < nU u → rC v x = true → cEd u x y → rC v y = true := by
  obtain ⟨h1, h2, h3, h4, h5, h6⟩ := h
  have en : nU v = nU u := h1.2.2.2.2.2.1
  have et : tH v = tH u := h1.2.2.2.2.2.2.1
  intro x y hx hy hr hxy
  obtain ⟨j, hj, hjx⟩ := h2.2.2.2 x (by rw [en]; exact hx) hr
  obtain ⟨i, hi, g1, g2⟩ := h5 j hj
  rw [hjx, et] at g1
  have e := hinj x i hx hi (Option.some.inj g1)
  subst e
  exact g2 y hy hxy
/-- forget, go over the registers and the stack, follow: a whole walk -/
theorem Wd.of {u u0 u1 u2 v : CS} (h0 : Sm u u0) (hf : ∀ i, i < nU u → rC u0 i = false) (h1 : pAll u0 (rG u) 10 u1) (h2 : pAll u1 (sK u) (sT u) u2) (h3 : pFol u2 (rO v) v) (hinj : ∀ i j, i < nU u → j < nU u → tH u i = tH u j → i = j) : Wd u v := by
  obtain ⟨a1, a2, a3, a4, a5⟩ := h1
  obtain ⟨b1, b2, b3, b4, b5⟩ := h2
  have e0 : nU u0 = nU u := h0.2.2.2.2.2.1
  have e1 : nU u1 = nU u := a1.2.2.2.2.2.1.trans e0
  have e2 : nU u2 = nU u := b1.2.2.2.2.2.1.trans e1
  have s2 : Sm u u2 := (h0.tr a1).tr b1
  have st : tH u2 = tH u := s2.2.2.2.2.2.2.1
  have sz : sZ u2 = sZ u := s2.2.2.2.2.2.2.2.2.1
  have sv : vS u2 = vS u := s2.2.2.2.2.2.2.2.2.2
  have cl := h3.done (by rw [e2, st]; exact hinj)
  obtain ⟨c1, c2, c3, c4, c5, c6⟩ := h3
  rw [e0] at a4 a5
  rw [e1] at b4 b5
  rw [e2] at c3 c6 cl
  have s3 : Sm u v := s2.tr c1
  have ed : ∀ x y, cEd u x y → cEd u2 x y := fun x y hxy => by
    obtain ⟨q, h5, h6⟩ := hxy
    exact ⟨q, by rw [sz]; exact h5, by rw [sv]; exact h6⟩
  have ed2 : ∀ x y, cEd u2 x y → cEd u x y := fun x y hxy => by
    obtain ⟨q, h5, h6⟩ := hxy
    exact ⟨q, by rw [← sz]; exact h5, by rw [← sv]; exact h6⟩
  refine ⟨s3, ?_, ?_, fun i hi => ⟨fun hr => ?_, fun hr => ?_⟩⟩
  · rw [c2.1, s3.2.2.2.2.2.1]
  · rw [c2.2.1, s3.2.2.2.2.2.1, s3.2.2.2.2.2.2.2.2.1]
  · refine c6 (fun x => cRe u x) (fun x hx hrx => ?_) (fun x y hx hy hxy => hx.step hy (ed2 x y hxy)) i hi hr
    rcases b5 x hx hrx with g | ⟨q, hq, g⟩
    · rcases a5 x hx g with g | ⟨q, hq, g⟩
      · rw [hf x hx] at g; cases g
      · exact cRe.root hx (Or.inl ⟨q, hq, g⟩)
    · exact cRe.root hx (Or.inr ⟨q, hq, g⟩)
  · have key : i < nU u ∧ rC v i = true := by
      refine hr (fun x => x < nU u ∧ rC v x = true) (fun x hx hrx => ⟨hx, c3 x hx ?_⟩) (fun x y hx hy hxy => ⟨hy, cl x y hx.1 hy hx.2 (ed x y hxy)⟩)
      rcases hrx with ⟨q, hq, g⟩ | ⟨q, hq, g⟩
      · exact b3.1 x (by rw [e1]; exact hx) (a4 q hq x hx g)
      · exact b4 q hq x hx g
    exact key.2
/-! what the calls answer: the class -/
def cpNum (u : CS) (r v x : Int32) (w : CS) : Prop := (∃ j, j < 10 ∧ r = nI j ∧ x = 1 ∧ w = uR u (vp_updL (rG u) j v.toInt64)) ∨ (¬ isR r ∧ x = 0 ∧ w = u)
def cpCopy (u : CS) (r s x : Int32) (w : CS) : Prop := (∃ j, j < 10 ∧ r = nI j ∧ x = 1 ∧ ((s = -1 ∧ w = uR u (vp_updL (rG u) j nO)) ∨ (¬ s = -1 ∧ ∃ k, k < 10 ∧ s = nI k ∧ w = uR u (vp_updL (rG u) j (rG u k))))) ∨ ((¬ isR r ∨ (¬ s = -1 ∧ ¬ isR s)) ∧ x = 0 ∧ w = u)
def cgGet (u : CS) (r s k : Int32) (j a i q : Nat) : Prop := j < 10 ∧ r = nI j ∧ a < 10 ∧ s = nI a ∧ i < nU u ∧ rG u a = oB i ∧ q < sZ u i ∧ k = nI q
def cpGet (u : CS) (r s k x : Int32) (w : CS) : Prop := (∃ j a i q, cgGet u r s k j a i q ∧ x = 1 ∧ w = uR u (vp_updL (rG u) j (vS u i q))) ∨ ((¬ ∃ j a i q, cgGet u r s k j a i q) ∧ x = 0 ∧ w = u)
def cpSet (u : CS) (r k s x : Int32) (w : CS) : Prop := (∃ j a i q, cgGet u s r k j a i q ∧ x = 1 ∧ w = uZ u (sZ u) (rC u) (va_up (vS u) i (vp_updL (vS u i) q (rG u j)))) ∨ ((¬ ∃ j a i q, cgGet u s r k j a i q) ∧ x = 0 ∧ w = u)
def cpPush (u : CS) (r x : Int32) (w : CS) : Prop := (∃ j, j < 10 ∧ r = nI j ∧ sT u < 50 ∧ x = nI (sT u + 1) ∧ w = uA u (vp_updL (rG u) j nO) (vp_updL (sK u) (sT u) (rG u j)) (sT u + 1) (mD u) (fU u)) ∨ (¬ (isR r ∧ sT u < 50) ∧ x = -1 ∧ w = u)
def cpPop (u : CS) (r x : Int32) (w : CS) : Prop := (∃ j n, j < 10 ∧ r = nI j ∧ sT u = n + 1 ∧ x = nI n ∧ w = uA u (vp_updL (rG u) j (sK u n)) (sK u) n (mD u) (fU u)) ∨ (¬ (isR r ∧ 0 < sT u) ∧ x = -1 ∧ w = u)
def cpLook (u : CS) (r x : Int32) (w : CS) : Prop := w = u ∧ ((¬ isR r ∧ x = -1) ∨ ∃ j, j < 10 ∧ r = nI j ∧ ((∃ i, i < nU u ∧ rG u j = oB i ∧ x = nI (sZ u i)) ∨ ((∀ i, i < nU u → rG u j ≠ oB i) ∧ ((rG u j = nO ∧ x = -2) ∨ (¬ rG u j = nO ∧ x = -3)))))
def cpNumIn (u : CS) (r x : Int32) (w : CS) : Prop := w = u ∧ ((∃ j, j < 10 ∧ r = nI j ∧ rG u j < nO ∧ x = (rG u j).toInt32) ∨ ((¬ ∃ j, j < 10 ∧ r = nI j ∧ rG u j < nO) ∧ x = 0))
def cpSame (u : CS) (r s x : Int32) (w : CS) : Prop := w = u ∧ ((∃ j k, j < 10 ∧ r = nI j ∧ k < 10 ∧ s = nI k ∧ ((rG u j = rG u k ∧ x = 1) ∨ (¬ rG u j = rG u k ∧ x = 0))) ∨ (¬ (isR r ∧ isR s) ∧ x = -1))
def cpCount (u : CS) (q x : Int32) (w : CS) : Prop := (q = 0 ∧ Wd u w ∧ x = nI (rL w)) ∨ (q = 1 ∧ Wd u w ∧ x = nI (rO w)) ∨ (w = u ∧ ((q = 2 ∧ x = nI (sT u)) ∨ (q = 3 ∧ x = nI (mD u)) ∨ (q = 4 ∧ x = nI (fU u)) ∨ (¬ q = 0 ∧ ¬ q = 1 ∧ ¬ q = 2 ∧ ¬ q = 3 ∧ ¬ q = 4 ∧ x = -1)))
def cgShr (u : CS) (r : Int32) (j i n : Nat) : Prop := j < 10 ∧ r = nI j ∧ i < nU u ∧ rG u j = oB i ∧ sZ u i = n + 1
def cpShr (u : CS) (r x : Int32) (w : CS) : Prop := (∃ j i n, cgShr u r j i n ∧ x = nI n ∧ w = uZ u (va_up (sZ u) i n) (va_up (rC u) i (rC u i)) (vS u)) ∨ ((¬ ∃ j i n, cgShr u r j i n) ∧ x = -1 ∧ w = u)
def cgGrow (u : CS) (r s : Int32) (j i a : Nat) : Prop := j < 10 ∧ r = nI j ∧ i < nU u ∧ rG u j = oB i ∧ a < 10 ∧ s = nI a ∧ sZ u i < 20
def cpGrow (F : CF) (u : CS) (r s x : Int32) (w : CS) : Prop := (∃ j i a v, cgGrow u r s j i a ∧ Wd u v ∧ ((rL v + 1 ≤ kC F ∧ x = nI (sZ u i + 1) ∧ ∃ rc, w = uZ v (va_up (sZ u) i (sZ u i + 1)) rc (va_up (vS u) i (vp_updL (vS u i) (sZ u i) (rG u a)))) ∨ (kC F < rL v + 1 ∧ x = 0 ∧ w = uF v (fU u + 1)))) ∨ ((¬ ∃ j i a, cgGrow u r s j i a) ∧ x = -1 ∧ w = u)
def cgMake (r n s : Int32) (j k a : Nat) : Prop := j < 10 ∧ r = nI j ∧ k ≤ 20 ∧ n = nI k ∧ a < 10 ∧ s = nI a
/-- a row is given to a new object of z values, all x -/
def pPl (F : CF) (v : CS) (z : Nat) (x : Int64) (i : Nat) (w : CS) : Prop := i < nU w ∧ nU v ≤ nU w ∧ nU w ≤ kN F ∧ (i < nU v → rC v i = false) ∧ (∀ y, y < nU w → y ≠ i → y < nU v) ∧ (∀ y, y < nU v → y ≠ i → sZ w y = sZ v y ∧ vS w y = vS v y) ∧ sZ w i = z ∧ (∀ q, q < z → vS w i q = x) ∧ rG w = rG v ∧ sK w = sK v ∧ sT w = sT v ∧ mD w = mD v ∧ fU w = fU v
def cpMake (F : CF) (u : CS) (r n s x : Int32) (w : CS) : Prop := (∃ j k a v, cgMake r n s j k a ∧ Wd u v ∧ ((rL v + (2 + k) ≤ kC F ∧ x = 1 ∧ ∃ i v2, pPl F v k (rG u a) i v2 ∧ w = uA v2 (vp_updL (rG u) j (oB i)) (sK v2) (sT v2) (mD u + 1) (fU v2)) ∨ (kC F < rL v + (2 + k) ∧ x = 0 ∧ w = uF v (fU u + 1)))) ∨ ((¬ ∃ j k a, cgMake r n s j k a) ∧ x = -1 ∧ w = u)
end
section
/-! numbers on the machine -/
theorem c64 : (4294967297 : Int64) = lN 4294967297 := by decide
theorem c64n : (4294967296 : Int64) = nO := by decide
theorem oB_sub (i : Nat) : oB i - 4294967297 = lN i := by
  rw [c64]
  unfold oB
  rw [lN_sub (by omega), show 4294967297 + i - 4294967297 = i by omega]
theorem row_neg {v w : Int64} (hw : v - 4294967297 = w) (h : w < 0) {i : Nat} (hi : i < 2147483648) : v ≠ oB i := by
  intro e
  rw [e, oB_sub] at hw
  rw [← hw, Int64.lt_iff_toInt_lt, lN_toInt (by omega)] at h
  have : (0 : Int64).toInt = 0 := by decide
  omega
theorem row_big {v w : Int64} {N : Nat} (hw : v - 4294967297 = w) (h : lN N ≤ w) (hN : N < 2147483648) {i : Nat} (hi : i < N) : v ≠ oB i := by
  intro e
  rw [e, oB_sub] at hw
  rw [← hw] at h
  have := (lN_le (by omega) (by omega)).mp h
  omega
theorem row_in {v w : Int64} {N : Nat} (hw : v - 4294967297 = w) (h0 : ¬ w < 0) (h : ¬ lN N ≤ w) (hN : N < 2147483648) : ∃ j, j < N ∧ w = lN j ∧ v = oB j := by
  obtain ⟨k, hk, rfl⟩ := pk_lOf h0
  have hkN : k < N := by
    rcases Nat.lt_or_ge k N with q | q
    · exact q
    · exact absurd ((pk_lLE (by omega) (by omega)).mpr q) h
  refine ⟨k, hkN, rfl, ?_⟩
  have e : v = lN k + 4294967297 := by rw [← hw, Int64.sub_add_cancel]
  rw [e, c64, lN_add, Nat.add_comm]
  rfl
theorem isR_no {r : Int32} (h : r < 0 ∨ nI 10 ≤ r) : ¬ isR r := by
  rintro ⟨j, hj, rfl⟩
  rcases h with h | h
  · exact nI_pos (by omega) h
  · exact nI_ge hj (by omega) h
theorem isR_yes {r : Int32} (h1 : ¬ r < 0) (h2 : ¬ nI 10 ≤ r) : isR r := by
  rcases pk_ix r (n := 10) (by omega) with h | h | h
  · exact absurd h h1
  · exact absurd h h2
  · exact h
theorem ix_no {k : Int32} {n : Nat} (hn : n < 2147483648) (h : k < 0 ∨ nI n ≤ k) : ∀ q, q < n → k ≠ nI q := by
  rintro q hq rfl
  rcases h with h | h
  · exact nI_pos (by omega) h
  · exact nI_ge hq (by omega) h
theorem ix_yes {k : Int32} {n : Nat} (hn : n < 2147483648) (h1 : ¬ k < 0) (h2 : ¬ nI n ≤ k) : ∃ q, q < n ∧ k = nI q := by
  rcases pk_ix k (n := n) (by omega) with h | h | h
  · exact absurd h h1
  · exact absurd h h2
  · exact h
theorem cOk.N {F : CF} {u : CS} (h : cOk F u) : kN F < 2147483648 := by
  obtain ⟨h1, h2, h3, -⟩ := h
  omega
theorem cOk.n {F : CF} {u : CS} (h : cOk F u) : nU u < 2147483648 := by
  obtain ⟨h1, h2, h3, h4, -⟩ := h
  omega
theorem th_inj {F : CF} {u : CS} {A : Nat → Prop} (hD : va_D A (cW F u)) : ∀ i j, i < nU u → j < nU u → tH u i = tH u j → i = j := by
  intro i j hi hj e
  have := hD.1 _ _ _ _ (cW_th F u hi) (cW_th F u hj) e
  omega
theorem rW_lt {n i : Nat} {th : Nat → Nat} (h : i < n) : rW n th i = some (th i) := by unfold rW; rw [if_pos h]
theorem rW_ge {n i : Nat} {th : Nat → Nat} (h : ¬ i < n) : rW n th i = none := by unfold rW; rw [if_neg h]
theorem rW_some {n i a : Nat} {th : Nat → Nat} (h : rW n th i = some a) : i < n ∧ a = th i := by
  by_cases hi : i < n
  · rw [rW_lt hi] at h; exact ⟨hi, (Option.some.inj h).symm⟩
  · rw [rW_ge hi] at h; cases h
theorem rW_none {n i : Nat} {th : Nat → Nat} (h : rW n th i = none) : ¬ i < n := fun hi => by
  rw [rW_lt hi] at h; cases h
theorem rW_up {n q : Nat} {th : Nat → Nat} : va_up (rW n th) n (some q) = rW (n + 1) (va_up th n q) := by
  funext i
  by_cases e : i = n
  · subst e; rw [va_up_self, rW_lt (Nat.lt_succ_self i), va_up_self]
  · rw [va_up_ne _ _ e]
    by_cases hi : i < n
    · rw [rW_lt hi, rW_lt (show i < n + 1 by omega), va_up_ne _ _ e]
    · rw [rW_ge hi, rW_ge (show ¬ i < n + 1 by omega)]
theorem pTO.row {u : CS} {v : Int64} {r : Option Nat} (h : pTO u v r) : ∃ o : Option Nat, r = o.map (tH u) ∧ (∀ i, o = some i → i < nU u) ∧ ((∃ i, i < nU u ∧ v = oB i ∧ o = some i) ∨ ((∀ i, i < nU u → v ≠ oB i) ∧ o = none)) := by
  rcases h with ⟨i, h1, h2, h3⟩ | ⟨h1, h2⟩
  · exact ⟨some i, by rw [h3]; rfl, fun k e => by cases e; exact h1, Or.inl ⟨i, h1, h2, rfl⟩⟩
  · exact ⟨none, by rw [h2]; rfl, fun k e => (by cases e), Or.inr ⟨h1, rfl⟩⟩
/-- the first row that isn't marked -/
def pFst (F : CF) (u : CS) (i : Nat) : Prop := i ≤ kN F ∧ i ≤ nU u ∧ (∀ k, k < i → rC u k = true) ∧ (i < kN F → i < nU u → rC u i = false)
theorem pFst.lt {F : CF} {u v : CS} {k i : Nat} (hc : cOk F u) (hw : Wd u v) (hf : rL v + (2 + k) ≤ kC F) (hi : pFst F v i) : i < kN F := by
  obtain ⟨c1, c2, c3, c4, c5, c6⟩ := hc
  obtain ⟨f1, f2, f3, f4⟩ := hi
  obtain ⟨w0, w1, w2, w3⟩ := hw
  have en : nU v = nU u := w0.2.2.2.2.2.1
  rcases Nat.lt_or_ge i (kN F) with q | q
  · exact q
  · have e1 : i = nU u := by omega
    have h1 : sm (rC v) (fun _ => 1) (nU u) = nU u := sm_all (fun x hx => f3 x (by omega))
    have h2 := sm_two (f := rC v) (z := sZ u) (n := nU u)
    rw [h1, ← w2] at h2
    omega
theorem b01 {P : Prop} {x : Int32} (h : (P ∧ x = 1) ∨ (¬ P ∧ x = 0)) (e : x = 0) : ¬ P := by
  rcases h with ⟨-, h⟩ | ⟨h, -⟩
  · rw [h] at e; exact absurd e (by decide)
  · exact h
theorem b01' {P : Prop} {x : Int32} (h : (P ∧ x = 1) ∨ (¬ P ∧ x = 0)) (e : ¬ x = 0) : P := by
  rcases h with ⟨h, -⟩ | ⟨-, h⟩
  · exact h
  · exact absurd h e
theorem va_up_id {α : Type} (f : Nat → α) (i : Nat) : va_up f i (f i) = f := by
  funext j
  by_cases e : j = i
  · rw [e, va_up_self]
  · rw [va_up_ne _ _ e]
theorem cW_setR (F : CF) (u : CS) {i : Nat} (b : Bool) (h : i < nU u) : (cW F u).set (2 * i + 6) (tH u i, .inr (1, [.ref (aR u i), .int (nI (sZ u i)), .int (bI b)])) = cW F (uZ u (sZ u) (va_up (rC u) i b) (vS u)) := by
  rw [cW_setT F u (sZ u i) b h, va_up_id]
theorem cW_setM (F : CF) (u : CS) {i : Nat} (b : Bool) (h : i < nU u) : (cW F u).set (2 * i + 6) (tH u i, .inr (1, [.ref (aR u i), .int (nI (sZ u i)), .int (bI b)])) = cW F (uK u (sZ u) (va_up (rC u) i b) (vS u) (rO u) (rL u) (rE u)) := cW_setR F u b h
theorem pTI.of {u : CS} {j : Nat} {x : Option Nat} (hj : j < 10) (h : pTO u (rG u j) x) : pTI u (nI j) x := by
  rcases h with ⟨i, h1, h2, h3⟩ | ⟨h1, h2⟩
  · exact Or.inl ⟨j, i, hj, rfl, h1, h2, h3⟩
  · refine Or.inr ⟨fun j' i hj' e hi => ?_, h2⟩
    have e := nI_inj (by omega) (by omega) e
    subst e
    exact h1 i hi
theorem pTI.no {u : CS} {r : Int32} (h : ¬ isR r) : pTI u r none := Or.inr ⟨fun j _ hj e _ => absurd ⟨j, hj, e⟩ h, rfl⟩
/-- a row is filled, up to place q -/
def pFil (u : CS) (i z : Nat) (x : Int64) (q : Nat) (v : CS) : Prop := rG v = rG u ∧ sK v = sK u ∧ sT v = sT u ∧ mD v = mD u ∧ fU v = fU u ∧ nU v = nU u ∧ tH v = tH u ∧ aR v = aR u ∧ rC v = rC u ∧ rO v = rO u ∧ rL v = rL u ∧ rE v = rE u ∧ sZ v = va_up (sZ u) i z ∧ (∀ y, y ≠ i → vS v y = vS u y) ∧ ∀ k, k < q → vS v i k = x
theorem pFil.step {u v : CS} {i z q : Nat} {x : Int64} (h : pFil u i z x q v) : pFil u i z x (q + 1) (uZ v (sZ v) (rC v) (va_up (vS v) i (vp_updL (vS v i) q x))) := by
  obtain ⟨a1, a2, a3, a4, a5, a6, a7, a8, a9, a10, a11, a12, a13, a14, a15⟩ := h
  refine ⟨a1, a2, a3, a4, a5, a6, a7, a8, a9, a10, a11, a12, a13, fun y hy => ?_, fun k hk => ?_⟩
  · show va_up (vS v) i _ y = vS u y
    rw [va_up_ne _ _ hy]; exact a14 y hy
  · show va_up (vS v) i (vp_updL (vS v i) q x) i k = x
    rw [va_up_self]
    by_cases e : k = q
    · rw [e, pk_uLs]
    · rw [pk_uLn e]; exact a15 k (by omega)
def pFor (u w : CS) : Prop := Sm u w ∧ rO w = 0 ∧ rL w = 0 ∧ ∀ i, i < nU u → rC w i = false
theorem pFor.wk {u w : CS} (h : pFor u w) : Wk w := by
  obtain ⟨h1, h2, h3, h4⟩ := h
  have en : nU w = nU u := h1.2.2.2.2.2.1
  refine ⟨?_, ?_, fun j hj => by omega, fun i hi hr => ?_⟩
  · rw [h2, sm_zero (fun i hi => h4 i (by omega))]
  · rw [h3, sm_zero (fun i hi => h4 i (by omega))]
  · rw [h4 i (by omega)] at hr; cases hr
theorem cW_len (F : CF) (u : CS) : (cW F u).length = 2 * nU u + 6 := by
  show (tl (kJ F) (tH u) (aR u) (sZ u) (rC u) (vS u) (nU u)).length + 6 = _
  rw [tl_len]
theorem cW_new (F : CF) (u : CS) (q q2 : Nat) : (cW F u ++ ([(q, .inr (1, [.ref q2, .int 0, .int 0])), (q2, .inl (kJ F, 20, .inr (.inl (fun _ => 0))))] : va_W)).set 4 (kW F, .inl (kT F, kN F, .inr (.inr (.inr (.inr (va_up (rW (nU u) (tH u)) (nU u) (some q))))))) = cW F (uP u (nU u + 1) (va_up (tH u) (nU u) q) (va_up (aR u) (nU u) q2) (va_up (sZ u) (nU u) 0) (va_up (rC u) (nU u) false) (va_up (vS u) (nU u) (fun _ => 0))) := by
  rw [rW_up]
  show _ :: _ :: _ :: _ :: _ :: _ :: (tl (kJ F) (tH u) (aR u) (sZ u) (rC u) (vS u) (nU u) ++ _) = _ :: _ :: _ :: _ :: _ :: _ :: tl (kJ F) (va_up (tH u) (nU u) q) (va_up (aR u) (nU u) q2) (va_up (sZ u) (nU u) 0) (va_up (rC u) (nU u) false) (va_up (vS u) (nU u) (fun _ => 0)) (nU u + 1)
  rw [tl_congr (th' := va_up (tH u) (nU u) q) (ar' := va_up (aR u) (nU u) q2) (sz' := va_up (sZ u) (nU u) 0) (rc' := va_up (rC u) (nU u) false) (vs' := va_up (vS u) (nU u) (fun _ => 0)) (fun i hi => ⟨(va_up_ne _ _ (show i ≠ nU u by omega)).symm, (va_up_ne _ _ (show i ≠ nU u by omega)).symm, (va_up_ne _ _ (show i ≠ nU u by omega)).symm, (va_up_ne _ _ (show i ≠ nU u by omega)).symm, (va_up_ne _ _ (show i ≠ nU u by omega)).symm⟩)]
  simp only [tl, va_up_self]
  rfl
theorem cW_newat (F : CF) (u : CS) (q q2 : Nat) : (cW F u ++ ([(q, .inr (1, [.ref q2, .int 0, .int 0])), (q2, .inl (kJ F, 20, .inr (.inl (fun _ => 0))))] : va_W))[2 * nU u + 6]? = some (q, .inr (1, [.ref q2, .int 0, .int 0])) := by
  rw [List.getElem?_append_right (by rw [cW_len]; exact Nat.le_refl _), cW_len, Nat.sub_self]
  rfl
theorem cW_at4 (F : CF) (u : CS) (w : va_W) : (cW F u ++ w)[4]? = some (kW F, .inl (kT F, kN F, .inr (.inr (.inr (.inr (rW (nU u) (tH u))))))) := rfl
theorem pPl.old {F : CF} {u w : CS} {i z : Nat} {x : Int64} (hc : cOk F u) (hi : i < nU u) (hf : rC u i = false) (h : pFil u i z x z w) : pPl F u z x i w := by
  obtain ⟨a1, a2, a3, a4, a5, a6, a7, a8, a9, a10, a11, a12, a13, a14, a15⟩ := h
  refine ⟨by rw [a6]; exact hi, by rw [a6]; exact Nat.le_refl _, by rw [a6]; exact hc.2.2.2.1, fun _ => hf, fun y hy _ => by rw [← a6]; exact hy, fun y _ hn => ⟨by rw [a13, va_up_ne _ _ hn], a14 y hn⟩, by rw [a13, va_up_self], a15, a1, a2, a3, a4, a5⟩
theorem pPl.new {F : CF} {u w : CS} {z q q2 : Nat} {x : Int64} (hN : nU u < kN F) (h : pFil (uP u (nU u + 1) (va_up (tH u) (nU u) q) (va_up (aR u) (nU u) q2) (va_up (sZ u) (nU u) 0) (va_up (rC u) (nU u) false) (va_up (vS u) (nU u) (fun _ => 0))) (nU u) z x z w) : pPl F u z x (nU u) w := by
  obtain ⟨a1, a2, a3, a4, a5, a6, a7, a8, a9, a10, a11, a12, a13, a14, a15⟩ := h
  have a6 : nU w = nU u + 1 := a6
  have a13 : sZ w = va_up (va_up (sZ u) (nU u) 0) (nU u) z := a13
  have a14 : ∀ y, y ≠ nU u → vS w y = va_up (vS u) (nU u) (fun _ => 0) y := a14
  refine ⟨by omega, by omega, by omega, fun h => absurd h (Nat.lt_irrefl _), fun y hy hn => by omega, fun y hy hn => ⟨by rw [a13, va_up_ne _ _ hn, va_up_ne _ _ hn], by rw [a14 y hn, va_up_ne _ _ hn]⟩, by rw [a13, va_up_self], a15, a1, a2, a3, a4, a5⟩
theorem cOk.grow {F : CF} {u : CS} (hc : cOk F u) (hN : nU u < kN F) {q q2 : Nat} : cOk F (uP u (nU u + 1) (va_up (tH u) (nU u) q) (va_up (aR u) (nU u) q2) (va_up (sZ u) (nU u) 0) (va_up (rC u) (nU u) false) (va_up (vS u) (nU u) (fun _ => 0))) := by
  obtain ⟨c1, c2, c3, c4, c5, c6⟩ := hc
  refine ⟨c1, c2, c3, by show nU u + 1 ≤ kN F; omega, c5, fun i hi => ?_⟩
  have hi : i < nU u + 1 := hi
  show va_up (sZ u) (nU u) 0 i ≤ 20
  by_cases e : i = nU u
  · rw [e, va_up_self]; omega
  · rw [va_up_ne _ _ e]; exact c6 i (by omega)
theorem oB_add (i : Nat) : (4294967297 : Int64) + lN i = oB i := by
  rw [c64, lN_add]
  rfl
theorem ob_eq {F : CF} {u : CS} (hc : cOk F u) {i k : Nat} {v : Int64} (hi : i < nU u) (hk : k < nU u) (h1 : v = oB i) (h2 : v = oB k) : i = k := oB_inj (by have := hc.n; omega) (by have := hc.n; omega) (h1.symm.trans h2)
theorem sw4 (z : Int32) (h : ¬ z = 0 ∧ ¬ z = 1 ∧ ¬ z = 2 ∧ ¬ z = 3 ∧ ¬ z = 4) : z.toInt < 0 ∨ 4 < z.toInt := by
  have f : ∀ k : Int32, ¬ z = k → z.toInt ≠ k.toInt := fun k hk e => hk (Int32.toInt_inj.mp e)
  have h0 := f 0 h.1
  have h1 := f 1 h.2.1
  have h2 := f 2 h.2.2.1
  have h3 := f 3 h.2.2.2.1
  have h4 := f 4 h.2.2.2.2
  rw [show (0 : Int32).toInt = 0 by decide] at h0
  rw [show (1 : Int32).toInt = 1 by decide] at h1
  rw [show (2 : Int32).toInt = 2 by decide] at h2
  rw [show (3 : Int32).toInt = 3 by decide] at h3
  rw [show (4 : Int32).toInt = 4 by decide] at h4
  omega
end
section
/-! what the calls answer: the reference -/
def DW (t : DS) (R : Nat → Bool) : Prop := ∀ o, o < gM t → (R o = true ↔ dRe t o)
def dpNum (t : DS) (r v y : Int32) (w : DS) : Prop := (∃ j, j < 10 ∧ r = nI j ∧ y = 1 ∧ w = wV t (upd (gK t) j 1) (upd (gV t) j v)) ∨ (¬ isR r ∧ y = 0 ∧ w = t)
def dpCopy (t : DS) (r s y : Int32) (w : DS) : Prop := (∃ j, j < 10 ∧ r = nI j ∧ y = 1 ∧ ((s = -1 ∧ w = wV t (upd (gK t) j 0) (upd (gV t) j 0)) ∨ (¬ s = -1 ∧ ∃ k, k < 10 ∧ s = nI k ∧ w = wV t (upd (gK t) j (gK t k)) (upd (gV t) j (gV t k))))) ∨ ((¬ isR r ∨ (¬ s = -1 ∧ ¬ isR s)) ∧ y = 0 ∧ w = t)
def dgGet (t : DS) (r s k : Int32) (j a o q : Nat) : Prop := j < 10 ∧ r = nI j ∧ a < 10 ∧ s = nI a ∧ gK t a = 2 ∧ o < gM t ∧ gV t a = nI o ∧ q < gS t o ∧ k = nI q
def dpGet (t : DS) (r s k y : Int32) (w : DS) : Prop := (∃ j a o q, dgGet t r s k j a o q ∧ y = 1 ∧ w = wV t (upd (gK t) j (gK t (pL o q))) (upd (gV t) j (gV t (pL o q)))) ∨ ((¬ ∃ j a o q, dgGet t r s k j a o q) ∧ y = 0 ∧ w = t)
def dpSet (t : DS) (r k s y : Int32) (w : DS) : Prop := (∃ j a o q, dgGet t s r k j a o q ∧ y = 1 ∧ w = wV t (upd (gK t) (pL o q) (gK t j)) (upd (gV t) (pL o q) (gV t j))) ∨ ((¬ ∃ j a o q, dgGet t s r k j a o q) ∧ y = 0 ∧ w = t)
def dpPush (t : DS) (r y : Int32) (w : DS) : Prop := (∃ j, j < 10 ∧ r = nI j ∧ gT t < 50 ∧ y = nI (gT t + 1) ∧ w = wT (wV t (upd (upd (gK t) (10 + gT t) (gK t j)) j 0) (upd (upd (gV t) (10 + gT t) (gV t j)) j 0)) (gT t + 1)) ∨ (¬ (isR r ∧ gT t < 50) ∧ y = -1 ∧ w = t)
def dpPop (t : DS) (r y : Int32) (w : DS) : Prop := (∃ j n, j < 10 ∧ r = nI j ∧ gT t = n + 1 ∧ y = nI n ∧ w = wV (wT t n) (upd (gK t) j (gK t (10 + n))) (upd (gV t) j (gV t (10 + n)))) ∨ (¬ (isR r ∧ 0 < gT t) ∧ y = -1 ∧ w = t)
def dpLook (t : DS) (r y : Int32) (w : DS) : Prop := w = t ∧ ((¬ isR r ∧ y = -1) ∨ ∃ j, j < 10 ∧ r = nI j ∧ ((gK t j = 0 ∧ y = -2) ∨ (gK t j = 1 ∧ y = -3) ∨ ∃ o, gK t j = 2 ∧ o < gM t ∧ gV t j = nI o ∧ y = nI (gS t o)))
def dpNumIn (t : DS) (r y : Int32) (w : DS) : Prop := w = t ∧ ((∃ j, j < 10 ∧ r = nI j ∧ gK t j = 1 ∧ y = gV t j) ∨ ((¬ ∃ j, j < 10 ∧ r = nI j ∧ gK t j = 1) ∧ y = 0))
def dpSame (t : DS) (r s y : Int32) (w : DS) : Prop := w = t ∧ ((∃ j k, j < 10 ∧ r = nI j ∧ k < 10 ∧ s = nI k ∧ ((gK t j = gK t k ∧ gV t j = gV t k ∧ y = 1) ∨ (¬ (gK t j = gK t k ∧ gV t j = gV t k) ∧ y = 0))) ∨ (¬ (isR r ∧ isR s) ∧ y = -1))
def dpCount (t : DS) (q y : Int32) (w : DS) : Prop := ∃ R, DW t R ∧ w = wR t R ∧ ((q = 0 ∧ y = nI (sm R (fun o => 2 + gS t o) (gM t))) ∨ (q = 1 ∧ y = nI (sm R (fun _ => 1) (gM t))) ∨ (q = 2 ∧ y = nI (gT t)) ∨ (q = 3 ∧ y = nI (gM t)) ∨ (q = 4 ∧ y = nI (gF t)) ∨ (¬ q = 0 ∧ ¬ q = 1 ∧ ¬ q = 2 ∧ ¬ q = 3 ∧ ¬ q = 4 ∧ y = -1))
def dgShr (t : DS) (r : Int32) (j o n : Nat) : Prop := j < 10 ∧ r = nI j ∧ gK t j = 2 ∧ o < gM t ∧ gV t j = nI o ∧ gS t o = n + 1
def dpShr (t : DS) (r y : Int32) (w : DS) : Prop := (∃ j o n, dgShr t r j o n ∧ y = nI n ∧ w = wV (wS t (va_up (gS t) o n)) (upd (gK t) (pL o n) 0) (upd (gV t) (pL o n) 0)) ∨ ((¬ ∃ j o n, dgShr t r j o n) ∧ y = -1 ∧ w = t)
def dgGrow (t : DS) (r s : Int32) (j o a : Nat) : Prop := j < 10 ∧ r = nI j ∧ gK t j = 2 ∧ o < gM t ∧ gV t j = nI o ∧ a < 10 ∧ s = nI a ∧ gS t o < 20
def dpGrow (C : Nat) (t : DS) (r s y : Int32) (w : DS) : Prop := (∃ j o a R, dgGrow t r s j o a ∧ DW t R ∧ ((sm R (fun o => 2 + gS t o) (gM t) + 1 ≤ C ∧ y = nI (gS t o + 1) ∧ w = wS (wV (wR t R) (upd (gK t) (pL o (gS t o)) (gK t a)) (upd (gV t) (pL o (gS t o)) (gV t a))) (va_up (gS t) o (gS t o + 1))) ∨ (C < sm R (fun o => 2 + gS t o) (gM t) + 1 ∧ y = 0 ∧ w = wF (wR t R) (gF t + 1)))) ∨ ((¬ ∃ j o a, dgGrow t r s j o a) ∧ y = -1 ∧ w = t)
/-- k places from b on get x -/
def fI (f : Nat → Int32) (b k : Nat) (x : Int32) : Nat → Int32 := fun p => if b ≤ p ∧ p < b + k then x else f p
def dpMake (C : Nat) (t : DS) (r n s y : Int32) (w : DS) : Prop := (∃ j k a R, cgMake r n s j k a ∧ DW t R ∧ ((sm R (fun o => 2 + gS t o) (gM t) + (2 + k) ≤ C ∧ y = 1 ∧ w = wM (wV (wS (wR t R) (va_up (gS t) (gM t) k)) (upd (fI (gK t) (pL (gM t) 0) k (gK t a)) j 2) (upd (fI (gV t) (pL (gM t) 0) k (gV t a)) j (nI (gM t)))) (gM t + 1)) ∨ (C < sm R (fun o => 2 + gS t o) (gM t) + (2 + k) ∧ y = 0 ∧ w = wF (wR t R) (gF t + 1)))) ∨ ((¬ ∃ j k a, cgMake r n s j k a) ∧ y = -1 ∧ w = t)
/-! a call answers alike on both sides, and the states stay one -/
def Iv (F : CF) (u : CS) (t : DS) : Prop := ∃ rho, Rl u t rho ∧ cOk F u ∧ dOk t
theorem r_inj {a b : Nat} (ha : a < 100) (hb : b < 100) (h : nI a = nI b) : a = b := nI_inj (by omega) (by omega) h
theorem objc {F : CF} {u : CS} {t : DS} {rho : Nat → Nat} (h : Rl u t rho) (hc : cOk F u) (hk : dOk t) {a i : Nat} (ha : a < 10) (hi : i < nU u) (he : rG u a = oB i) : ∃ o, o < gM t ∧ gK t a = 2 ∧ gV t a = nI o ∧ dRe t o ∧ rho o = i := by
  rw [h.2.2.2.1 a ha] at he
  exact eV_obj h hc hk (gV'.reg hk (by omega)) hi he
theorem objd {u : CS} {t : DS} {rho : Nat → Nat} (h : Rl u t rho) (hk : dOk t) {a o : Nat} (ha : a < 10) (h2 : gK t a = 2) (ho : o < gM t) (hv : gV t a = nI o) : dRe t o ∧ rG u a = oB (rho o) ∧ rho o < nU u ∧ sZ u (rho o) = gS t o := by
  have hd : dRe t o := dRe.root ho ⟨a, by omega, h2, hv⟩
  have hm := hk.2.1
  refine ⟨hd, ?_, (h.2.2.2.2.2.1 o hd).1, (h.2.2.2.2.2.1 o hd).2.1⟩
  rw [h.2.2.2.1 a ha, h2, hv, eV_2 _ (by omega)]
theorem op_num {F : CF} {u u' : CS} {t t' : DS} {r v x y : Int32} (h : Iv F u t) (hc : cpNum u r v x u') (hd : dpNum t r v y t') : x = y ∧ Iv F u' t' := by
  obtain ⟨rho, h1, h2, h3⟩ := h
  rcases hc with ⟨j, hj, rfl, rfl, rfl⟩ | ⟨hn, rfl, rfl⟩ <;> rcases hd with ⟨i, hi, e, rfl, rfl⟩ | ⟨hn2, rfl, rfl⟩
  · have e := r_inj (by omega) (by omega) e
    subst e
    have := h1.reg h3 hj (a := 1) (b := v) (Or.inr (Or.inl rfl))
    rw [eV_1] at this
    exact ⟨rfl, rho, this.1, h2, this.2⟩
  · exact absurd ⟨j, hj, rfl⟩ hn2
  · exact absurd ⟨i, hi, e⟩ hn
  · exact ⟨rfl, rho, h1, h2, h3⟩
theorem op_copy {F : CF} {u u' : CS} {t t' : DS} {r s x y : Int32} (h : Iv F u t) (hc : cpCopy u r s x u') (hd : dpCopy t r s y t') : x = y ∧ Iv F u' t' := by
  obtain ⟨rho, h1, h2, h3⟩ := h
  rcases hc with ⟨j, hj, rfl, rfl, hc⟩ | ⟨hn, rfl, rfl⟩ <;> rcases hd with ⟨i, hi, e, rfl, hd⟩ | ⟨hn2, rfl, rfl⟩
  · have e := r_inj (by omega) (by omega) e
    subst e
    refine ⟨rfl, ?_⟩
    rcases hc with ⟨es, rfl⟩ | ⟨ns, k, hk, rfl, rfl⟩ <;> rcases hd with ⟨es2, rfl⟩ | ⟨ns2, k2, hk2, e2, rfl⟩
    · have := h1.reg h3 hj (a := 0) (b := 0) (Or.inl ⟨rfl, rfl⟩)
      rw [eV_0] at this
      exact ⟨rho, this.1, h2, this.2⟩
    · exact absurd es ns2
    · exact absurd es2 ns
    · have e2 := r_inj (by omega) (by omega) e2
      subst e2
      have := h1.reg h3 hj (gV'.reg h3 (p := k) (by omega))
      rw [← h1.2.2.2.1 k hk] at this
      exact ⟨rho, this.1, h2, this.2⟩
  · rcases hn2 with q | ⟨q1, q2⟩
    · exact absurd ⟨j, hj, rfl⟩ q
    · rcases hc with ⟨es, -⟩ | ⟨-, k, hk, e, -⟩
      · exact absurd es q1
      · exact absurd ⟨k, hk, e⟩ q2
  · rcases hn with q | ⟨q1, q2⟩
    · exact absurd ⟨i, hi, e⟩ q
    · rcases hd with ⟨es, -⟩ | ⟨-, k, hk, e, -⟩
      · exact absurd es q1
      · exact absurd ⟨k, hk, e⟩ q2
  · exact ⟨rfl, rho, h1, h2, h3⟩
theorem get_cd {F : CF} {u : CS} {t : DS} {rho : Nat → Nat} (h : Rl u t rho) (hc : cOk F u) (hk : dOk t) {r s k : Int32} {j a i q : Nat} (g : cgGet u r s k j a i q) : ∃ o, dgGet t r s k j a o q ∧ dRe t o ∧ rho o = i := by
  obtain ⟨g1, g2, g3, g4, g5, g6, g7, g8⟩ := g
  obtain ⟨o, ho, k2, kv, hd, rfl⟩ := objc h hc hk g3 g5 g6
  exact ⟨o, ⟨g1, g2, g3, g4, k2, ho, kv, by rw [← (h.2.2.2.2.2.1 o hd).2.1]; exact g7, g8⟩, hd, rfl⟩
theorem get_dc {u : CS} {t : DS} {rho : Nat → Nat} (h : Rl u t rho) (hk : dOk t) {r s k : Int32} {j a o q : Nat} (g : dgGet t r s k j a o q) : cgGet u r s k j a (rho o) q ∧ dRe t o := by
  obtain ⟨g1, g2, g3, g4, g5, g6, g7, g8, g9⟩ := g
  obtain ⟨hd, hr, hlt, hs⟩ := objd h hk g3 g5 g6 g7
  exact ⟨⟨g1, g2, g3, g4, hlt, hr, by rw [hs]; exact g8, g9⟩, hd⟩
theorem get_eq {t : DS} (hk : dOk t) {r s k : Int32} {j a o q j' a' o' q' : Nat} (g : dgGet t r s k j a o q) (g' : dgGet t r s k j' a' o' q') : j = j' ∧ a = a' ∧ o = o' ∧ q = q' := by
  obtain ⟨g1, g2, g3, g4, g5, g6, g7, g8, g9⟩ := g
  obtain ⟨f1, f2, f3, f4, f5, f6, f7, f8, f9⟩ := g'
  have hm := hk.2.1
  have e1 := r_inj (by omega) (by omega) (g2.symm.trans f2)
  have e2 := r_inj (by omega) (by omega) (g4.symm.trans f4)
  subst e2
  have e3 := nI_inj (by omega) (by omega) (g7.symm.trans f7)
  subst e3
  have h20 := hk.2.2.1 o g6
  have e4 := r_inj (by omega) (by omega) (g9.symm.trans f9)
  exact ⟨e1, rfl, rfl, e4⟩
theorem op_get {F : CF} {u u' : CS} {t t' : DS} {r s k x y : Int32} (h : Iv F u t) (hc : cpGet u r s k x u') (hd : dpGet t r s k y t') : x = y ∧ Iv F u' t' := by
  obtain ⟨rho, h1, h2, h3⟩ := h
  rcases hc with ⟨j, a, i, q, g, rfl, rfl⟩ | ⟨hn, rfl, rfl⟩ <;> rcases hd with ⟨j', a', o', q', g', rfl, rfl⟩ | ⟨hn2, rfl, rfl⟩
  · obtain ⟨o, g2, hd, rfl⟩ := get_cd h1 h2 h3 g
    obtain ⟨rfl, rfl, rfl, rfl⟩ := get_eq h3 g2 g'
    have hq := g2.2.2.2.2.2.2.2.1
    have := h1.reg h3 g2.1 (gV'.val h3 hd hq)
    rw [← (h1.2.2.2.2.2.1 o hd).2.2 q hq] at this
    exact ⟨rfl, rho, this.1, h2, this.2⟩
  · obtain ⟨o, g2, -⟩ := get_cd h1 h2 h3 g
    exact absurd ⟨j, a, o, q, g2⟩ hn2
  · exact absurd ⟨j', a', rho o', q', (get_dc h1 h3 g').1⟩ hn
  · exact ⟨rfl, rho, h1, h2, h3⟩
theorem cOk.uz {F : CF} {u : CS} (h : cOk F u) {i z : Nat} {rc : Nat → Bool} {vs : Nat → Nat → Int64} (hz : z ≤ 20) : cOk F (uZ u (va_up (sZ u) i z) rc vs) := by
  obtain ⟨a1, a2, a3, a4, a5, a6⟩ := h
  refine ⟨a1, a2, a3, a4, a5, fun x hx => ?_⟩
  show va_up (sZ u) i z x ≤ 20
  by_cases e : x = i
  · rw [e, va_up_self]; exact hz
  · rw [va_up_ne _ _ e]; exact a6 x hx
theorem op_set {F : CF} {u u' : CS} {t t' : DS} {r k s x y : Int32} (h : Iv F u t) (hc : cpSet u r k s x u') (hd : dpSet t r k s y t') : x = y ∧ Iv F u' t' := by
  obtain ⟨rho, h1, h2, h3⟩ := h
  rcases hc with ⟨j, a, i, q, g, rfl, rfl⟩ | ⟨hn, rfl, rfl⟩ <;> rcases hd with ⟨j', a', o', q', g', rfl, rfl⟩ | ⟨hn2, rfl, rfl⟩
  · obtain ⟨o, g2, hd, rfl⟩ := get_cd h1 h2 h3 g
    obtain ⟨rfl, rfl, rfl, rfl⟩ := get_eq h3 g2 g'
    have hq := g2.2.2.2.2.2.2.2.1
    have hj := g2.1
    have h20 := h3.2.2.1 o hd.lt
    have key := Rl.obj (u' := uZ u (sZ u) (rC u) (va_up (vS u) (rho o) (vp_updL (vS u (rho o)) q (rG u j)))) (t' := wV t (upd (gK t) (pL o q) (gK t j)) (upd (gV t) (pL o q) (gV t j))) h1 h3 hd rfl rfl rfl (fun _ _ => rfl) h20
      (fun p hp => ⟨pk_un (hp q (by omega)), pk_un (hp q (by omega))⟩)
      (fun z hz => by
        show gV' t (upd (gK t) (pL o q) (gK t j) (pL o z)) (upd (gV t) (pL o q) (gV t j) (pL o z))
        have hz : z < gS t o := hz
        by_cases e : z = q
        · subst e; rw [pk_us, pk_us]; exact gV'.reg h3 (by omega)
        · have ne : pL o z ≠ pL o q := fun e2 => e (pL_inj (by omega) (by omega) e2).2
          rw [pk_un ne, pk_un ne]; exact gV'.val h3 hd hz)
      rfl rfl rfl rfl rfl rfl (fun z hz => ⟨rfl, va_up_ne _ _ hz⟩) (h1.2.2.2.2.2.1 o hd).2.1
      (fun z hz => by
        show va_up (vS u) (rho o) (vp_updL (vS u (rho o)) q (rG u j)) (rho o) z = eV rho (upd (gK t) (pL o q) (gK t j) (pL o z)) (upd (gV t) (pL o q) (gV t j) (pL o z))
        have hz : z < gS t o := hz
        rw [va_up_self]
        by_cases e : z = q
        · subst e; rw [pk_uLs, pk_us, pk_us]; exact h1.2.2.2.1 j hj
        · have ne : pL o z ≠ pL o q := fun e2 => e (pL_inj (by omega) (by omega) e2).2
          rw [pk_uLn e, pk_un ne, pk_un ne]; exact (h1.2.2.2.2.2.1 o hd).2.2 z hz)
    exact ⟨rfl, rho, key.1, h2, key.2⟩
  · obtain ⟨o, g2, -⟩ := get_cd h1 h2 h3 g
    exact absurd ⟨j, a, o, q, g2⟩ hn2
  · exact absurd ⟨j', a', rho o', q', (get_dc h1 h3 g').1⟩ hn
  · exact ⟨rfl, rho, h1, h2, h3⟩
theorem upd_sw {f : Nat → Int32} {a b : Nat} (h : a ≠ b) (x y : Int32) : upd (upd f a x) b y = upd (upd f b y) a x := by
  funext p
  by_cases e1 : p = a
  · subst e1; rw [pk_un h, pk_us, pk_us]
  · by_cases e2 : p = b
    · subst e2; rw [pk_us, pk_un e1, pk_us]
    · rw [pk_un e2, pk_un e1, pk_un e1, pk_un e2]
theorem op_push {F : CF} {u u' : CS} {t t' : DS} {r x y : Int32} (h : Iv F u t) (hc : cpPush u r x u') (hd : dpPush t r y t') : x = y ∧ Iv F u' t' := by
  obtain ⟨rho, h1, h2, h3⟩ := h
  have est := h1.1
  rcases hc with ⟨j, hj, rfl, hs, rfl, rfl⟩ | ⟨hn, rfl, rfl⟩ <;> rcases hd with ⟨i, hi, e, hs2, rfl, rfl⟩ | ⟨hn2, rfl, rfl⟩
  · have e := r_inj (by omega) (by omega) e
    subst e
    have p1 := h1.push h3 hs2 (gV'.reg h3 (p := j) (by omega))
    rw [← h1.2.2.2.1 j hj] at p1
    have p2 := p1.1.reg p1.2 hj (a := 0) (b := 0) (Or.inl ⟨rfl, rfl⟩)
    rw [eV_0] at p2
    rw [est]
    refine ⟨rfl, rho, p2.1, ?_, p2.2⟩
    obtain ⟨a1, a2, a3, a4, a5, a6⟩ := h2
    exact ⟨a1, a2, a3, a4, by show gT t + 1 ≤ 50; omega, a6⟩
  · exact absurd ⟨⟨j, hj, rfl⟩, by omega⟩ hn2
  · exact absurd ⟨⟨i, hi, e⟩, by omega⟩ hn
  · exact ⟨rfl, rho, h1, h2, h3⟩
theorem op_pop {F : CF} {u u' : CS} {t t' : DS} {r x y : Int32} (h : Iv F u t) (hc : cpPop u r x u') (hd : dpPop t r y t') : x = y ∧ Iv F u' t' := by
  obtain ⟨rho, h1, h2, h3⟩ := h
  have est := h1.1
  rcases hc with ⟨j, n, hj, rfl, hs, rfl, rfl⟩ | ⟨hn, rfl, rfl⟩ <;> rcases hd with ⟨i, n2, hi, e, hs2, rfl, rfl⟩ | ⟨hn2, rfl, rfl⟩
  · have e := r_inj (by omega) (by omega) e
    subst e
    have en : n = n2 := by omega
    subst en
    have p1 := h1.reg h3 hj (gV'.reg h3 (p := 10 + n) (by omega))
    rw [← h1.2.2.2.2.1 n (by omega)] at p1
    have p2 := p1.1.pop p1.2 (n := n) (by show n < gT t; omega)
    refine ⟨rfl, rho, p2.1, ?_, p2.2⟩
    obtain ⟨a1, a2, a3, a4, a5, a6⟩ := h2
    exact ⟨a1, a2, a3, a4, by show n ≤ 50; omega, a6⟩
  · exact absurd ⟨⟨j, hj, rfl⟩, by omega⟩ hn2
  · exact absurd ⟨⟨i, hi, e⟩, by omega⟩ hn
  · exact ⟨rfl, rho, h1, h2, h3⟩
theorem op_look {F : CF} {u u' : CS} {t t' : DS} {r x y : Int32} (h : Iv F u t) (hc : cpLook u r x u') (hd : dpLook t r y t') : x = y ∧ Iv F u' t' := by
  obtain ⟨rho, h1, h2, h3⟩ := h
  obtain ⟨rfl, hc⟩ := hc
  obtain ⟨rfl, hd⟩ := hd
  refine ⟨?_, rho, h1, h2, h3⟩
  have hm := h3.2.1
  rcases hc with ⟨hn, rfl⟩ | ⟨j, hj, rfl, hc⟩ <;> rcases hd with ⟨hn2, rfl⟩ | ⟨i, hi, e, hd⟩
  · rfl
  · exact absurd ⟨i, hi, e⟩ hn
  · exact absurd ⟨j, hj, rfl⟩ hn2
  · have e := r_inj (by omega) (by omega) e
    subst e
    have hr := h1.2.2.2.1 j hj
    rcases hc with ⟨i, hi2, he, rfl⟩ | ⟨hno, hc⟩
    · obtain ⟨o, ho, k2, kv, hdr, rfl⟩ := objc h1 h2 h3 hj hi2 he
      rcases hd with ⟨hd, -⟩ | ⟨hd, -⟩ | ⟨o', -, ho', hv', rfl⟩
      · rw [k2] at hd; exact absurd hd (by decide)
      · rw [k2] at hd; exact absurd hd (by decide)
      · rw [kv] at hv'
        rw [← nI_inj (by omega) (by omega) hv', (h1.2.2.2.2.2.1 o hdr).2.1]
    · rcases hd with ⟨hd, rfl⟩ | ⟨hd, rfl⟩ | ⟨o', hk2, ho', hv', rfl⟩
      · rw [hd, eV_0] at hr
        rcases hc with ⟨-, rfl⟩ | ⟨hc, -⟩
        · rfl
        · exact absurd hr hc
      · rw [hd, eV_1] at hr
        rcases hc with ⟨hc, -⟩ | ⟨-, rfl⟩
        · rw [hc] at hr; exact absurd hr.symm (num_nO _)
        · rfl
      · obtain ⟨-, q1, q2, -⟩ := objd h1 h3 hj hk2 ho' hv'
        exact absurd q1 (hno _ q2)
theorem num_lt (v : Int32) : v.toInt64 < nO := by
  rw [Int64.lt_iff_toInt_lt, i64_toInt, nO_toInt]
  have := i32_lo v
  omega
theorem oB_ge {i : Nat} (hi : i < 2147483648) : ¬ oB i < nO := by
  rw [Int64.lt_iff_toInt_lt, oB_toInt hi, nO_toInt]
  omega
theorem nO_ge : ¬ nO < nO := by
  rw [Int64.lt_iff_toInt_lt]
  omega
theorem num_back (v : Int32) : v.toInt64.toInt32 = v := by simp
theorem op_numIn {F : CF} {u u' : CS} {t t' : DS} {r x y : Int32} (h : Iv F u t) (hc : cpNumIn u r x u') (hd : dpNumIn t r y t') : x = y ∧ Iv F u' t' := by
  obtain ⟨rho, h1, h2, h3⟩ := h
  obtain ⟨rfl, hc⟩ := hc
  obtain ⟨rfl, hd⟩ := hd
  refine ⟨?_, rho, h1, h2, h3⟩
  have hm := h3.2.1
  have key : ∀ j, j < 10 → (rG u' j < nO ↔ gK t' j = 1) := by
    intro j hj
    rw [h1.2.2.2.1 j hj]
    rcases gV'.reg h3 (p := j) (by omega) with ⟨e, -⟩ | e | ⟨e, o, ho, hb, hdr⟩
    · rw [e, eV_0]; exact ⟨fun q => absurd q nO_ge, fun q => absurd q (by decide)⟩
    · rw [e, eV_1]; exact ⟨fun _ => rfl, fun _ => num_lt _⟩
    · rw [e, hb, eV_2 _ (by omega)]; exact ⟨fun q => absurd q (oB_ge (h1.lt h2 hdr)), fun q => absurd q (by decide)⟩
  rcases hc with ⟨j, hj, rfl, hlt, rfl⟩ | ⟨hn, rfl⟩ <;> rcases hd with ⟨i, hi, e, hk, rfl⟩ | ⟨hn2, rfl⟩
  · have e := r_inj (by omega) (by omega) e
    subst e
    rw [h1.2.2.2.1 j hj, hk, eV_1, num_back]
  · exact absurd ⟨j, hj, rfl, (key j hj).mp hlt⟩ hn2
  · exact absurd ⟨i, hi, e, (key i hi).mpr hk⟩ hn
  · rfl
theorem op_same {F : CF} {u u' : CS} {t t' : DS} {r s x y : Int32} (h : Iv F u t) (hc : cpSame u r s x u') (hd : dpSame t r s y t') : x = y ∧ Iv F u' t' := by
  obtain ⟨rho, h1, h2, h3⟩ := h
  obtain ⟨rfl, hc⟩ := hc
  obtain ⟨rfl, hd⟩ := hd
  refine ⟨?_, rho, h1, h2, h3⟩
  rcases hc with ⟨j, k, hj, rfl, hk, rfl, hc⟩ | ⟨hn, rfl⟩ <;> rcases hd with ⟨j2, k2, hj2, e, hk2, e2, hd⟩ | ⟨hn2, rfl⟩
  · have e := r_inj (by omega) (by omega) e
    subst e
    have e2 := r_inj (by omega) (by omega) e2
    subst e2
    have key : rG u' j = rG u' k ↔ (gK t' j = gK t' k ∧ gV t' j = gV t' k) := by
      rw [h1.2.2.2.1 j hj, h1.2.2.2.1 k hk]
      exact ⟨eV_same h1 h2 h3 (gV'.reg h3 (by omega)) (gV'.reg h3 (by omega)), fun q => by rw [q.1, q.2]⟩
    rcases hc with ⟨hc, rfl⟩ | ⟨hc, rfl⟩ <;> rcases hd with ⟨hd, hd2, rfl⟩ | ⟨hd, rfl⟩
    · rfl
    · exact absurd (key.mp hc) hd
    · exact absurd (key.mpr ⟨hd, hd2⟩) hc
    · rfl
  · exact absurd ⟨⟨j, hj, rfl⟩, ⟨k, hk, rfl⟩⟩ hn2
  · exact absurd ⟨⟨j2, hj2, e⟩, ⟨k2, hk2, e2⟩⟩ hn
  · rfl
theorem Rl.sm {u v : CS} {t : DS} {rho : Nat → Nat} (hs : Sm u v) (h : Rl u t rho) : Rl v t rho := by
  obtain ⟨a1, a2, a3, a4, a5, a6, a7, a8, a9, a10⟩ := hs
  unfold Rl
  rw [a1, a2, a3, a4, a5, a6, a9, a10]
  exact h
theorem cOk.sm {F : CF} {u v : CS} (hs : Sm u v) (h : cOk F u) : cOk F v := by
  obtain ⟨a1, a2, a3, a4, a5, a6, a7, a8, a9, a10⟩ := hs
  unfold cOk
  rw [a3, a6, a9]
  exact h
theorem Wd.sum {F : CF} {u v : CS} {t : DS} {rho : Nat → Nat} {R : Nat → Bool} (h : Rl u t rho) (hc : cOk F u) (hk : dOk t) (hw : Wd u v) (hR : DW t R) : sm R (fun o => 2 + gS t o) (gM t) = rL v ∧ sm R (fun _ => 1) (gM t) = rO v := by
  obtain ⟨-, w1, w2, w3⟩ := hw
  rw [w1, w2]
  exact h.sums hc hk w3 hR
theorem op_count {F : CF} {u u' : CS} {t t' : DS} {q x y : Int32} (h : Iv F u t) (hc : cpCount u q x u') (hd : dpCount t q y t') : x = y ∧ Iv F u' t' := by
  obtain ⟨rho, h1, h2, h3⟩ := h
  obtain ⟨R, hR, rfl, hd⟩ := hd
  rcases hc with ⟨rfl, hw, rfl⟩ | ⟨rfl, hw, rfl⟩ | ⟨rfl, hc⟩
  · refine ⟨?_, rho, h1.sm hw.1, h2.sm hw.1, h3⟩
    rcases hd with ⟨-, rfl⟩ | ⟨e, -⟩ | ⟨e, -⟩ | ⟨e, -⟩ | ⟨e, -⟩ | ⟨e, -⟩
    · rw [(hw.sum h1 h2 h3 hR).1]
    · exact absurd e (by decide)
    · exact absurd e (by decide)
    · exact absurd e (by decide)
    · exact absurd e (by decide)
    · exact absurd rfl e
  · refine ⟨?_, rho, h1.sm hw.1, h2.sm hw.1, h3⟩
    rcases hd with ⟨e, -⟩ | ⟨-, rfl⟩ | ⟨e, -⟩ | ⟨e, -⟩ | ⟨e, -⟩ | ⟨-, e, -⟩
    · exact absurd e (by decide)
    · rw [(hw.sum h1 h2 h3 hR).2]
    · exact absurd e (by decide)
    · exact absurd e (by decide)
    · exact absurd e (by decide)
    · exact absurd rfl e
  · refine ⟨?_, rho, h1, h2, h3⟩
    rcases hc with ⟨rfl, rfl⟩ | ⟨rfl, rfl⟩ | ⟨rfl, rfl⟩ | ⟨n0, n1, n2, n3, n4, rfl⟩
    · rcases hd with ⟨e, -⟩ | ⟨e, -⟩ | ⟨-, rfl⟩ | ⟨e, -⟩ | ⟨e, -⟩ | ⟨-, -, e, -⟩
      · exact absurd e (by decide)
      · exact absurd e (by decide)
      · rw [h1.1]
      · exact absurd e (by decide)
      · exact absurd e (by decide)
      · exact absurd rfl e
    · rcases hd with ⟨e, -⟩ | ⟨e, -⟩ | ⟨e, -⟩ | ⟨-, rfl⟩ | ⟨e, -⟩ | ⟨-, -, -, e, -⟩
      · exact absurd e (by decide)
      · exact absurd e (by decide)
      · exact absurd e (by decide)
      · rw [h1.2.1]
      · exact absurd e (by decide)
      · exact absurd rfl e
    · rcases hd with ⟨e, -⟩ | ⟨e, -⟩ | ⟨e, -⟩ | ⟨e, -⟩ | ⟨-, rfl⟩ | ⟨-, -, -, -, e, -⟩
      · exact absurd e (by decide)
      · exact absurd e (by decide)
      · exact absurd e (by decide)
      · exact absurd e (by decide)
      · rw [h1.2.2.1]
      · exact absurd rfl e
    · rcases hd with ⟨e, -⟩ | ⟨e, -⟩ | ⟨e, -⟩ | ⟨e, -⟩ | ⟨e, -⟩ | ⟨-, -, -, -, -, rfl⟩
      · exact absurd e n0
      · exact absurd e n1
      · exact absurd e n2
      · exact absurd e n3
      · exact absurd e n4
      · rfl
theorem op_shr {F : CF} {u u' : CS} {t t' : DS} {r x y : Int32} (h : Iv F u t) (hc : cpShr u r x u') (hd : dpShr t r y t') : x = y ∧ Iv F u' t' := by
  obtain ⟨rho, h1, h2, h3⟩ := h
  have hm := h3.2.1
  rcases hc with ⟨j, i, n, ⟨g1, g2, g3, g4, g5⟩, rfl, rfl⟩ | ⟨hn, rfl, rfl⟩ <;> rcases hd with ⟨j', o', n', ⟨f1, f2, f3, f4, f5, f6⟩, rfl, rfl⟩ | ⟨hn2, rfl, rfl⟩
  · subst g2
    have e := r_inj (by omega) (by omega) f2
    subst e
    obtain ⟨o, ho, k2, kv, hdr, rfl⟩ := objc h1 h2 h3 g1 g3 g4
    have e := nI_inj (by omega) (by omega) (kv.symm.trans f5)
    subst e
    have hs := (h1.2.2.2.2.2.1 o hdr).2.1
    have en : n = n' := by omega
    subst en
    have h20 := h3.2.2.1 o ho
    have key := Rl.obj (u' := uZ u (va_up (sZ u) (rho o) n) (va_up (rC u) (rho o) (rC u (rho o))) (vS u)) (t' := wV (wS t (va_up (gS t) o n)) (upd (gK t) (pL o n) 0) (upd (gV t) (pL o n) 0)) h1 h3 hdr rfl rfl rfl (fun z hz => va_up_ne _ _ hz)
      (by show va_up (gS t) o n o ≤ 20; rw [va_up_self]; omega)
      (fun p hp => ⟨pk_un (hp n (by omega)), pk_un (hp n (by omega))⟩)
      (fun z hz => by
        have hz : z < va_up (gS t) o n o := hz
        rw [va_up_self] at hz
        show gV' t (upd (gK t) (pL o n) 0 (pL o z)) (upd (gV t) (pL o n) 0 (pL o z))
        have ne : pL o z ≠ pL o n := fun e2 => by have := (pL_inj (by omega) (by omega) e2).2; omega
        rw [pk_un ne, pk_un ne]; exact gV'.val h3 hdr (by omega))
      rfl rfl rfl rfl rfl rfl (fun z hz => ⟨va_up_ne _ _ hz, rfl⟩)
      (by show va_up (sZ u) (rho o) n (rho o) = va_up (gS t) o n o; rw [va_up_self, va_up_self])
      (fun z hz => by
        have hz : z < va_up (gS t) o n o := hz
        rw [va_up_self] at hz
        show vS u (rho o) z = eV rho (upd (gK t) (pL o n) 0 (pL o z)) (upd (gV t) (pL o n) 0 (pL o z))
        have ne : pL o z ≠ pL o n := fun e2 => by have := (pL_inj (by omega) (by omega) e2).2; omega
        rw [pk_un ne, pk_un ne]; exact (h1.2.2.2.2.2.1 o hdr).2.2 z (by omega))
    exact ⟨rfl, rho, key.1, h2.uz (by omega), key.2⟩
  · obtain ⟨o, ho, k2, kv, hdr, rfl⟩ := objc h1 h2 h3 g1 g3 g4
    exact absurd ⟨j, o, n, g1, g2, k2, ho, kv, by rw [← (h1.2.2.2.2.2.1 o hdr).2.1]; exact g5⟩ hn2
  · obtain ⟨hdr, q1, q2, q3⟩ := objd h1 h3 f1 f3 f4 f5
    exact absurd ⟨j', rho o', n', f1, f2, q2, q1, by rw [q3]; exact f6⟩ hn
  · exact ⟨rfl, rho, h1, h2, h3⟩
theorem op_grow {F : CF} {u u' : CS} {t t' : DS} {r s x y : Int32} (h : Iv F u t) (hc : cpGrow F u r s x u') (hd : dpGrow (kC F) t r s y t') : x = y ∧ Iv F u' t' := by
  obtain ⟨rho, h1, h2, h3⟩ := h
  have hm := h3.2.1
  rcases hc with ⟨j, i, a, v, ⟨g1, g2, g3, g4, g5, g6, g7⟩, hw, hc⟩ | ⟨hn, rfl, rfl⟩ <;> rcases hd with ⟨j', o', a', R, ⟨f1, f2, f3, f4, f5, f6, f7, f8⟩, hR, hd⟩ | ⟨hn2, rfl, rfl⟩
  · subst g2
    subst g6
    have e := r_inj (by omega) (by omega) f2
    subst e
    have e := r_inj (by omega) (by omega) f7
    subst e
    obtain ⟨o, ho, k2, kv, hdr, rfl⟩ := objc h1 h2 h3 g1 g3 g4
    have e := nI_inj (by omega) (by omega) (kv.symm.trans f5)
    subst e
    have hs := (h1.2.2.2.2.2.1 o hdr).2.1
    have hsum := (hw.sum h1 h2 h3 hR).1
    rw [hsum] at hd
    rcases hc with ⟨hc, rfl, rc, rfl⟩ | ⟨hc, rfl, rfl⟩ <;> rcases hd with ⟨hd, rfl, rfl⟩ | ⟨hd, rfl, rfl⟩
    · have hv : Rl v t rho := h1.sm hw.1
      obtain ⟨s1, s2, s3, s4, s5, s6, s7, s8, s9, s10⟩ := hw.1
      have key := Rl.obj (u' := uZ v (va_up (sZ u) (rho o) (sZ u (rho o) + 1)) rc (va_up (vS u) (rho o) (vp_updL (vS u (rho o)) (sZ u (rho o)) (rG u a)))) (t' := wS (wV (wR t R) (upd (gK t) (pL o (gS t o)) (gK t a)) (upd (gV t) (pL o (gS t o)) (gV t a))) (va_up (gS t) o (gS t o + 1))) hv h3 hdr rfl rfl rfl (fun z hz => va_up_ne _ _ hz)
        (by show va_up (gS t) o (gS t o + 1) o ≤ 20; rw [va_up_self]; omega)
        (fun p hp => ⟨pk_un (hp _ (by omega)), pk_un (hp _ (by omega))⟩)
        (fun z hz => by
          have hz : z < va_up (gS t) o (gS t o + 1) o := hz
          rw [va_up_self] at hz
          show gV' t (upd (gK t) (pL o (gS t o)) (gK t a) (pL o z)) (upd (gV t) (pL o (gS t o)) (gV t a) (pL o z))
          by_cases e : z = gS t o
          · subst e; rw [pk_us, pk_us]; exact gV'.reg h3 (by omega)
          · have ne : pL o z ≠ pL o (gS t o) := fun e2 => e (pL_inj (by omega) (by omega) e2).2
            rw [pk_un ne, pk_un ne]; exact gV'.val h3 hdr (by omega))
        rfl rfl rfl rfl rfl rfl
        (fun z hz => ⟨by show va_up (sZ u) (rho o) _ z = sZ v z; rw [va_up_ne _ _ hz, s9], by show va_up (vS u) (rho o) _ z = vS v z; rw [va_up_ne _ _ hz, s10]⟩)
        (by show va_up (sZ u) (rho o) (sZ u (rho o) + 1) (rho o) = va_up (gS t) o (gS t o + 1) o; rw [va_up_self, va_up_self, hs])
        (fun z hz => by
          have hz : z < va_up (gS t) o (gS t o + 1) o := hz
          rw [va_up_self] at hz
          show va_up (vS u) (rho o) (vp_updL (vS u (rho o)) (sZ u (rho o)) (rG u a)) (rho o) z = eV rho (upd (gK t) (pL o (gS t o)) (gK t a) (pL o z)) (upd (gV t) (pL o (gS t o)) (gV t a) (pL o z))
          rw [va_up_self, hs]
          by_cases e : z = gS t o
          · subst e; rw [pk_uLs, pk_us, pk_us]; exact h1.2.2.2.1 a g5
          · have ne : pL o z ≠ pL o (gS t o) := fun e2 => e (pL_inj (by omega) (by omega) e2).2
            rw [pk_uLn e, pk_un ne, pk_un ne]; exact (h1.2.2.2.2.2.1 o hdr).2.2 z (by omega))
      refine ⟨by rw [hs], rho, key.1, ?_, key.2⟩
      have h2v := h2.sm hw.1
      have := h2v.uz (i := rho o) (z := sZ u (rho o) + 1) (rc := rc) (vs := va_up (vS u) (rho o) (vp_updL (vS u (rho o)) (sZ u (rho o)) (rG u a))) (by omega)
      rw [s9] at this
      exact this
    · omega
    · omega
    · have hv : Rl v t rho := h1.sm hw.1
      refine ⟨rfl, rho, ?_, (show cOk F v from h2.sm hw.1), h3⟩
      obtain ⟨b1, b2, b3, b4⟩ := hv
      exact ⟨b1, b2, by show fU u + 1 = gF t + 1; rw [h1.2.2.1], b4⟩
  · obtain ⟨o, ho, k2, kv, hdr, rfl⟩ := objc h1 h2 h3 g1 g3 g4
    exact absurd ⟨j, o, a, g1, g2, k2, ho, kv, g5, g6, by rw [← (h1.2.2.2.2.2.1 o hdr).2.1]; exact g7⟩ hn2
  · obtain ⟨hdr, q1, q2, q3⟩ := objd h1 h3 f1 f3 f4 f5
    exact absurd ⟨j', rho o', a', f1, f2, q2, q1, f6, f7, by rw [q3]; exact f8⟩ hn
  · exact ⟨rfl, rho, h1, h2, h3⟩
theorem fI_in {f : Nat → Int32} {b k p : Nat} {x : Int32} (h1 : b ≤ p) (h2 : p < b + k) : fI f b k x p = x := by unfold fI; rw [if_pos ⟨h1, h2⟩]
theorem fI_out {f : Nat → Int32} {b k p : Nat} {x : Int32} (h : ¬ (b ≤ p ∧ p < b + k)) : fI f b k x p = f p := by unfold fI; rw [if_neg h]
theorem op_make {F : CF} {u u' : CS} {t t' : DS} {r n s x y : Int32} (hM : gM t < 512) (h : Iv F u t) (hc : cpMake F u r n s x u') (hd : dpMake (kC F) t r n s y t') : x = y ∧ Iv F u' t' := by
  obtain ⟨rho, h1, h2, h3⟩ := h
  have hm := h3.2.1
  rcases hc with ⟨j, k, a, v, ⟨g1, g2, g3, g4, g5, g6⟩, hw, hc⟩ | ⟨hn, rfl, rfl⟩ <;> rcases hd with ⟨j', k', a', R, ⟨f1, f2, f3, f4, f5, f6⟩, hR, hd⟩ | ⟨hn2, rfl, rfl⟩
  · subst g2
    subst g4
    subst g6
    have e := r_inj (by omega) (by omega) f2
    subst e
    have e := r_inj (by omega) (by omega) f4
    subst e
    have e := r_inj (by omega) (by omega) f6
    subst e
    have hsum := (hw.sum h1 h2 h3 hR).1
    rw [hsum] at hd
    rcases hc with ⟨hc, rfl, i, v2, hp, rfl⟩ | ⟨hc, rfl, rfl⟩ <;> rcases hd with ⟨hd, rfl, rfl⟩ | ⟨hd, rfl, rfl⟩
    · obtain ⟨s1, s2, s3, s4, s5, s6, s7, s8, s9, s10⟩ := hw.1
      obtain ⟨p1, p2, p3, p4, p5, p6, p7, p8, p9, p10, p11, p12, p13⟩ := hp
      rw [s6] at p2 p4 p5 p6
      have h50 := h3.1
      have hnew : ∀ o, dRe t o → rho o ≠ i := by
        intro o ho e
        have q1 := h1.to h3 ho
        rw [e] at q1
        have q2 := q1.lt
        have q3 := (hw.2.2.2 i q2).mpr q1
        rw [p4 q2] at q3
        cases q3
      have key := Rl.make (u' := uA v2 (vp_updL (rG u) j (oB i)) (sK v2) (sT v2) (mD u + 1) (fU v2)) (t' := wM (wV (wS (wR t R) (va_up (gS t) (gM t) k)) (upd (fI (gK t) (pL (gM t) 0) k (gK t a)) j 2) (upd (fI (gV t) (pL (gM t) 0) k (gV t a)) j (nI (gM t)))) (gM t + 1)) (a := gK t a) (b := gV t a) (i := i) h1 h3 g1 g3 hM (gV'.reg h3 (by omega)) hnew rfl rfl rfl (fun z hz => va_up_ne _ _ hz) (va_up_self _ _ _)
        (fun p hpr hpp => by
          show upd (fI (gK t) (pL (gM t) 0) k (gK t a)) j 2 p = gK t p ∧ upd (fI (gV t) (pL (gM t) 0) k (gV t a)) j (nI (gM t)) p = gV t p
          have ho : ¬ (pL (gM t) 0 ≤ p ∧ p < pL (gM t) 0 + k) := fun q => hpp (p - pL (gM t) 0) (by omega) (by unfold pL at q ⊢; omega)
          rw [pk_un hpr, pk_un hpr, fI_out ho, fI_out ho]
          exact ⟨rfl, rfl⟩)
        (fun z hz => by
          show upd (fI (gK t) (pL (gM t) 0) k (gK t a)) j 2 (pL (gM t) z) = gK t a ∧ upd (fI (gV t) (pL (gM t) 0) k (gV t a)) j (nI (gM t)) (pL (gM t) z) = gV t a
          have ne : pL (gM t) z ≠ j := fun e => by have := pL_ge (gM t) z; omega
          have q1 : pL (gM t) 0 ≤ pL (gM t) z := by unfold pL; omega
          have q2 : pL (gM t) z < pL (gM t) 0 + k := by unfold pL; omega
          rw [pk_un ne, pk_un ne, fI_in q1 q2, fI_in q1 q2]
          exact ⟨rfl, rfl⟩)
        ⟨pk_us, pk_us⟩
        (by show sT v2 = sT u; rw [p11, s3]) rfl (by show fU v2 = fU u; rw [p13, s5]) (fun z hz => pk_uLn hz) pk_uLs (by show sK v2 = sK u; rw [p10, s2]) p2 p1
        (fun z hz hzi => by
          have q := p6 z hz hzi
          rw [s9, s10] at q
          exact q) p7
        (fun z hz => by
          show vS v2 i z = eV rho (gK t a) (gV t a)
          rw [p8 z hz, h1.2.2.2.1 a g5])
      refine ⟨rfl, va_up rho (gM t) i, key.1, ?_, key.2⟩
      obtain ⟨a1, a2, a3, a4, a5, a6⟩ := h2
      refine ⟨a1, a2, a3, p3, by show sT v2 ≤ 50; rw [p11, s3]; exact a5, fun z hz => ?_⟩
      show sZ v2 z ≤ 20
      have hz : z < nU v2 := hz
      by_cases e : z = i
      · rw [e, p7]; exact g3
      · have q := p5 z hz e
        rw [(p6 z q e).1, s9]; exact a6 z q
    · omega
    · omega
    · have hv : Rl v t rho := h1.sm hw.1
      refine ⟨rfl, rho, ?_, (show cOk F v from h2.sm hw.1), h3⟩
      obtain ⟨b1, b2, b3, b4⟩ := hv
      exact ⟨b1, b2, by show fU u + 1 = gF t + 1; rw [h1.2.2.1], b4⟩
  · exact absurd ⟨j, k, a, g1, g2, g3, g4, g5, g6⟩ hn2
  · exact absurd ⟨j', k', a', f1, f2, f3, f4, f5, f6⟩ hn
  · exact ⟨rfl, rho, h1, h2, h3⟩
end
section
/-! the reference's walk -/
def gSd (t : DS) (R : Nat → Bool) : Prop := ∀ o, o < gM t → R o = true → dRe t o
def gRt (t : DS) (R : Nat → Bool) (z : Nat) : Prop := ∀ p, p < z → ∀ o, o < gM t → gK t p = 2 → gV t p = nI o → R o = true
def gCl (t : DS) (R : Nat → Bool) (x z : Nat) : Prop := ∀ q, q < z → ∀ o, o < gM t → gK t (pL x q) = 2 → gV t (pL x q) = nI o → R o = true
theorem DW.of {t : DS} {R : Nat → Bool} (h1 : gSd t R) (h2 : gRt t R (10 + gT t)) (h3 : ∀ x, x < gM t → R x = true → gCl t R x (gS t x)) : DW t R := by
  intro o ho
  refine ⟨fun h => h1 o ho h, fun h => ?_⟩
  have key : o < gM t ∧ R o = true := by
    refine h (fun x => x < gM t ∧ R x = true) (fun x hx hr => ⟨hx, ?_⟩) (fun x y hx hy hxy => ⟨hy, ?_⟩)
    · obtain ⟨p, hp, h4, h5⟩ := hr
      exact h2 p hp x hx h4 h5
    · obtain ⟨q, hq, h4, h5⟩ := hxy
      exact h3 x hx.1 hx.2 q hq y hy h4 h5
  exact key.2
/-- a pass: from R0, at object k and place i, R is marked, and b says whether something was -/
def gPs (t : DS) (R0 : Nat → Bool) (k i : Nat) (R : Nat → Bool) (b : Bool) : Prop := gSd t R ∧ (∀ o, o < gM t → R0 o = true → R o = true) ∧ (b = true → sm R0 (fun _ => 1) (gM t) < sm R (fun _ => 1) (gM t)) ∧ (b = false → (∀ o, o < gM t → R o = R0 o) ∧ (∀ x, x < k → R x = true → gCl t R x (gS t x)) ∧ (R k = true → gCl t R k i))
/-- what reach answers at place p -/
def gRh (t : DS) (R : Nat → Bool) (p : Nat) (x : Int32) (R' : Nat → Bool) : Prop := (∃ o, o < gM t ∧ gK t p = 2 ∧ gV t p = nI o ∧ R o = false ∧ x = 1 ∧ R' = va_up R o true) ∨ ((gK t p = 2 → ∃ o, o < gM t ∧ gV t p = nI o ∧ R o = true) ∧ x = 0 ∧ R' = R)
theorem up_mono {R : Nat → Bool} {o x : Nat} (h : R x = true) : va_up R o true x = true := by
  by_cases e : x = o
  · rw [e, va_up_self]
  · rw [va_up_ne _ _ e]; exact h
theorem gRh.mono {t : DS} {R R' : Nat → Bool} {p : Nat} {x : Int32} (h : gRh t R p x R') {y : Nat} (hy : R y = true) : R' y = true := by
  rcases h with ⟨o, -, -, -, -, -, rfl⟩ | ⟨-, -, rfl⟩
  · exact up_mono hy
  · exact hy
theorem gRh.here {t : DS} (hm : gM t ≤ 512) {R R' : Nat → Bool} {p : Nat} {x : Int32} (h : gRh t R p x R') {o : Nat} (ho : o < gM t) (h2 : gK t p = 2) (hv : gV t p = nI o) : R' o = true := by
  rcases h with ⟨y, hy, -, hv2, -, -, rfl⟩ | ⟨h, -, rfl⟩
  · rw [nI_inj (by omega) (by omega) (hv.symm.trans hv2), va_up_self]
  · obtain ⟨y, hy, hv2, hr⟩ := h h2
    rw [nI_inj (by omega) (by omega) (hv.symm.trans hv2)]; exact hr
theorem gRh.sound {t : DS} {R R' : Nat → Bool} {p : Nat} {x : Int32} (h : gRh t R p x R') (hs : gSd t R) (hp : ∀ o, o < gM t → gK t p = 2 → gV t p = nI o → dRe t o) : gSd t R' := by
  rcases h with ⟨y, hy, hk, hv2, -, -, rfl⟩ | ⟨h, -, rfl⟩
  · intro o ho hr
    by_cases e : o = y
    · rw [e]; exact hp y hy hk hv2
    · rw [va_up_ne _ _ e] at hr; exact hs o ho hr
  · exact hs
theorem gPs.step {t : DS} (hm : gM t ≤ 512) {R0 R R' : Nat → Bool} {k i : Nat} {b : Bool} {x : Int32} (h : gPs t R0 k i R b) (hk : k < gM t) (hi : i < gS t k) (hr : R k = true) (hx : gRh t R (pL k i) x R') : gPs t R0 k (i + 1) R' (decide (¬ x = 0) || b) := by
  obtain ⟨h1, h2, h3, h4⟩ := h
  have hd : dRe t k := h1 k hk hr
  refine ⟨hx.sound h1 (fun o ho hk2 hv => hd.step ho ⟨i, hi, hk2, hv⟩), fun o ho h0 => hx.mono (h2 o ho h0), fun hb => ?_, fun hb => ?_⟩
  · have hle : sm R0 (fun _ => 1) (gM t) ≤ sm R (fun _ => 1) (gM t) := by
      cases b with
      | true => exact Nat.le_of_lt (h3 rfl)
      | false => rw [sm_congr (fun o ho => ⟨(h4 rfl).1 o ho, fun _ => rfl⟩)]; exact Nat.le_refl _
    rcases hx with ⟨o, ho, -, -, hf, -, rfl⟩ | ⟨-, rfl, rfl⟩
    · rw [sm_up ho hf]; omega
    · have e : b = true := by simpa using hb
      exact h3 e
  · have hx0 : x = 0 ∧ b = false := by simpa using hb
    obtain ⟨rfl, rfl⟩ := hx0
    obtain ⟨g1, g2, g3⟩ := h4 rfl
    have e : R' = R := by
      rcases hx with ⟨_, _, _, _, _, e, _⟩ | ⟨_, _, e⟩
      · exact absurd e (by decide)
      · exact e
    have hx2 := hx
    subst e
    refine ⟨g1, g2, fun hrk q hq o ho k2 kv => ?_⟩
    by_cases e : q = i
    · subst e; exact hx2.here hm ho k2 kv
    · exact g3 hrk q (by omega) o ho k2 kv
theorem gPs.next {t : DS} {R0 R : Nat → Bool} {k i : Nat} {b : Bool} (h : gPs t R0 k i R b) (hi : gS t k ≤ i ∨ R k = false) : gPs t R0 (k + 1) 0 R b := by
  obtain ⟨h1, h2, h3, h4⟩ := h
  refine ⟨h1, h2, h3, fun hb => ?_⟩
  obtain ⟨g1, g2, g3⟩ := h4 hb
  refine ⟨g1, fun x hx hr => ?_, fun _ q hq => absurd hq (Nat.not_lt_zero q)⟩
  by_cases e : x = k
  · subst e
    rcases hi with hi | hi
    · exact fun q hq => g3 hr q (by omega)
    · rw [hr] at hi; cases hi
  · exact g2 x (by omega) hr
theorem gPs.start {t : DS} {R : Nat → Bool} (h : gSd t R) : gPs t R 0 0 R false := ⟨h, fun _ _ h => h, fun h => (by cases h), fun _ => ⟨fun _ _ => rfl, fun x hx => absurd hx (Nat.not_lt_zero x), fun _ q hq => absurd hq (Nat.not_lt_zero q)⟩⟩
/-- between passes -/
def gWh (t : DS) (R : Nat → Bool) (b : Bool) : Prop := gSd t R ∧ gRt t R (10 + gT t) ∧ (b = false → ∀ x, x < gM t → R x = true → gCl t R x (gS t x))
theorem gWh.pass {t : DS} {R0 R : Nat → Bool} {b0 b : Bool} (h : gWh t R0 b0) (hp : gPs t R0 (gM t) 0 R b) : gWh t R b := by
  obtain ⟨h1, h2, h3⟩ := h
  obtain ⟨g1, g2, g3, g4⟩ := hp
  exact ⟨g1, fun p hp o ho k2 kv => g2 o ho (h2 p hp o ho k2 kv), fun hb x hx hr => (g4 hb).2.1 x hx hr⟩
theorem gWh.less {t : DS} {R0 R : Nat → Bool} {b : Bool} (hp : gPs t R0 (gM t) 0 R b) : (if b = true then 1 else 0) + 2 * (gM t - sm R (fun _ => 1) (gM t)) < 1 + 2 * (gM t - sm R0 (fun _ => 1) (gM t)) := by
  obtain ⟨g1, g2, g3, g4⟩ := hp
  have hle := sm_le (f := R) (n := gM t)
  cases b with
  | true =>
    have := g3 rfl
    rw [if_pos rfl]
    omega
  | false =>
    rw [sm_congr (fun o ho => ⟨(g4 rfl).1 o ho, fun _ => rfl⟩)]
    simp
theorem nar_k {t : DS} {p : Nat} (hk : dOk t) (hp : dLv t p) : vp_nar .byte (gK t p) = gK t p := by
  rcases hk.2.2.2 p hp with ⟨h, -⟩ | h | ⟨h, -⟩ <;> rw [h] <;> decide
theorem pL_lt {t : DS} (hk : dOk t) {o k : Nat} (ho : o < gM t) (h : k < 20) : pL o k < 10460 := by
  have hm := hk.2.1
  unfold pL
  omega
theorem pL_I {o k : Nat} : nI 60 + nI 20 * nI o + nI k = nI (pL o k) := by
  rw [pk_mul, nI_add, nI_add]
  rfl
theorem fI_0 (f : Nat → Int32) (b : Nat) (x : Int32) : fI f b 0 x = f := by
  funext p
  exact fI_out (by omega)
theorem fI_s (f : Nat → Int32) (b k : Nat) (x : Int32) : upd (fI f b k x) (b + k) x = fI f b (k + 1) x := by
  funext p
  by_cases e : p = b + k
  · subst e; rw [pk_us, fI_in (by omega) (by omega)]
  · rw [pk_un e]
    by_cases h : b ≤ p ∧ p < b + k
    · rw [fI_in h.1 h.2, fI_in h.1 (by omega)]
    · rw [fI_out h, fI_out (by omega)]
theorem fI_mv {u : DS} {K0 V0 : Nat → Int32} {b q a : Nat} (ha : a < 10) : wV (wV u (fI K0 (pL b 0) q (K0 a)) (fI V0 (pL b 0) q (V0 a))) (upd (fI K0 (pL b 0) q (K0 a)) (pL b q) (fI K0 (pL b 0) q (K0 a) a)) (upd (fI V0 (pL b 0) q (V0 a)) (pL b q) (fI V0 (pL b 0) q (V0 a) a)) = wV u (upd (fI K0 (pL b 0) q (K0 a)) (pL b 0 + q) (K0 a)) (upd (fI V0 (pL b 0) q (V0 a)) (pL b 0 + q) (V0 a)) := by
  have h : ¬ (pL b 0 ≤ a ∧ a < pL b 0 + q) := by have := pL_ge b 0; omega
  have e : pL b q = pL b 0 + q := by unfold pL; omega
  rw [fI_out h, fI_out h, e]
end
section
set_option maxHeartbeats 4000000 in
set_option maxRecDepth 100000 in
theorem k_isR (l : Launch) (D : va_G) (tys : List (ClassId × FieldType)) (ws : va_W) (r : Int32) : mG l yX2_isRegister wX2_isRegister ({ frames := 0, cells := 0, slots := 0, locals := 0 }) D vwCl tys [.int r] ws (qI D vwCl (fun (x : Int32) (_ : Unit) => (isR r ∧ x = 1) ∨ (¬ isR r ∧ x = 0)) (fun _ => ws)) := by
  refine gg_met (cc := cX2_isRegister) (nL := 1) (ret := (some .boolean)) (lv := [(0, .int r)]) (by decide) rfl rfl (Nat.le_of_ble_eq_true rfl) ?_
  intro p_ e_ s_ m_ bl_ me_ cc_ A_ X hr hk hnm
  refine gg_iload_n X dX2_isRegister_0 rfl 0 rfl ?_
  refine gg_if_lt (tgt := 14) X dX2_isRegister_1 (by decide) (fun c_1 => ?_) (fun c_1 => ?_)
  · refine gg_iconst X dX2_isRegister_14 (v := 0) (by decide) ?_
    exact gg_zret X dX2_isRegister_15 hr hk rfl () (Or.inr ⟨isR_no (Or.inl c_1), rfl⟩) rfl (Nat.le_of_ble_eq_true rfl) (Nat.le_of_ble_eq_true rfl)
  · refine gg_iload_n X dX2_isRegister_4 rfl 0 rfl ?_
    refine gg_bipush X dX2_isRegister_5 (v := nI 10) (by decide) ?_
    refine gg_icmp_ge (tgt := 14) X dX2_isRegister_7 (by decide) (fun c_7 => ?_) (fun c_7 => ?_)
    · refine gg_iconst X dX2_isRegister_14 (v := 0) (by decide) ?_
      exact gg_zret X dX2_isRegister_15 hr hk rfl () (Or.inr ⟨isR_no (Or.inr c_7), rfl⟩) rfl (Nat.le_of_ble_eq_true rfl) (Nat.le_of_ble_eq_true rfl)
    · refine gg_iconst X dX2_isRegister_10 (v := 1) (by decide) ?_
      refine gg_goto (tgt := 15) X dX2_isRegister_11 (by decide) ?_
      exact gg_zret X dX2_isRegister_15 hr hk rfl () (Or.inl ⟨isR_yes c_1 c_7, rfl⟩) rfl (Nat.le_of_ble_eq_true rfl) (Nat.le_of_ble_eq_true rfl)
set_option maxHeartbeats 4000000 in
set_option maxRecDepth 100000 in
theorem k_hasValue (l : Launch) (D : va_G) (F : CF) (u : CS) (hc : cOk F u) (i : Nat) (hi : i < nU u) (k : Int32) : mG l yX1_hasValue wX1_hasValue ({ frames := 0, cells := 0, slots := 0, locals := 0 }) D vwCl (cT F) [.ref (tH u i), .int k] (cW F u) (qI D vwCl (fun (x : Int32) (w : CS) => w = u ∧ (((∃ q, q < sZ u i ∧ k = nI q) ∧ x = 1) ∨ (¬ (∃ q, q < sZ u i ∧ k = nI q) ∧ x = 0))) (cW F)) := by
  refine gg_met (cc := cX1_hasValue) (nL := 2) (ret := (some .boolean)) (lv := [(0, .ref (tH u i)), (1, .int k)]) (by decide) rfl rfl (Nat.le_of_ble_eq_true rfl) ?_
  intro p_ e_ s_ m_ bl_ me_ cc_ A_ X hr hk hnm
  have h20 := hc.2.2.2.2.2 i hi
  refine gg_iload_n X dX1_hasValue_0 rfl 1 rfl ?_
  refine gg_if_lt (tgt := 16) X dX1_hasValue_1 (by decide) (fun c_1 => ?_) (fun c_1 => ?_)
  · refine gg_iconst X dX1_hasValue_16 (v := 0) (by decide) ?_
    exact gg_zret X dX1_hasValue_17 hr hk rfl u (⟨rfl, Or.inr ⟨fun ⟨q, h1, h2⟩ => ix_no (n := sZ u i) (by omega) (Or.inl c_1) q h1 h2, rfl⟩⟩) rfl (Nat.le_of_ble_eq_true rfl) (Nat.le_of_ble_eq_true rfl)
  · refine gg_iload_n X dX1_hasValue_4 rfl 1 rfl ?_
    refine gg_aload_n X dX1_hasValue_5 rfl 0 rfl ?_
    refine gg_get X dX1_hasValue_6 imX1 (2 * i + 6) (cW_th _ _ hi) rfl 1 (by decide) (am 84 rfl) rfl ?_
    refine gg_icmp_ge (tgt := 16) X dX1_hasValue_9 (by decide) (fun c_9 => ?_) (fun c_9 => ?_)
    · refine gg_iconst X dX1_hasValue_16 (v := 0) (by decide) ?_
      exact gg_zret X dX1_hasValue_17 hr hk rfl u (⟨rfl, Or.inr ⟨fun ⟨q, h1, h2⟩ => ix_no (n := sZ u i) (by omega) (Or.inr c_9) q h1 h2, rfl⟩⟩) rfl (Nat.le_of_ble_eq_true rfl) (Nat.le_of_ble_eq_true rfl)
    · refine gg_iconst X dX1_hasValue_12 (v := 1) (by decide) ?_
      refine gg_goto (tgt := 17) X dX1_hasValue_13 (by decide) ?_
      exact gg_zret X dX1_hasValue_17 hr hk rfl u (⟨rfl, Or.inl ⟨ix_yes (by omega) c_1 c_9, rfl⟩⟩) rfl (Nat.le_of_ble_eq_true rfl) (Nat.le_of_ble_eq_true rfl)
set_option maxHeartbeats 4000000 in
set_option maxRecDepth 100000 in
theorem k_fill (l : Launch) (D : va_G) (F : CF) (u : CS) (hc : cOk F u) (i : Nat) (hi : i < nU u) (z : Nat) (hz : z ≤ 20) (x : Int64) : mG l yX1_fill wX1_fill ({ frames := 0, cells := 0, slots := 0, locals := 0 }) D vwCl (cT F) [.ref (tH u i), .int (nI z), .long x] (cW F u) (qV D vwCl (fun (w : CS) => pFil u i z x z w) (cW F)) := by
  refine gg_met (cc := cX1_fill) (nL := 5) (ret := none) (lv := [(0, .ref (tH u i)), (1, .int (nI z)), (2, .long x)]) (by decide) rfl rfl (Nat.le_of_ble_eq_true rfl) ?_
  intro p_ e_ s_ m_ bl_ me_ cc_ A_ X hr hk hnm
  refine gg_aload_n X dX1_fill_0 rfl 0 rfl ?_
  refine gg_iload_n X dX1_fill_1 rfl 1 rfl ?_
  refine gg_put X dX1_fill_2 imX1 tyX1 tyX1_ok nmX1 (2 * i + 6) (cW_th _ _ hi) rfl 1 (by decide) (am 84 rfl) (ws' := cW F (uZ u (va_up (sZ u) i z) (rC u) (vS u))) (ty := .int) rfl (by decide +kernel) rfl rfl (Nat.le_of_ble_eq_true rfl) ((cW_setT F u z (rC u i) hi).trans (by rw [va_up_id])) ?_
  refine gg_iconst X dX1_fill_5 (v := nI 0) (by decide) ?_
  refine gg_istore X dX1_fill_6 (by decide) rfl ?_
  refine gg_loop (ι := Nat × CS) (fun a => a.1 ≤ z ∧ pFil u i z x a.1 a.2) (fun a => z - a.1) (fun a => cW F a.2) (fun a => [(4, .int (nI a.1)), (0, .ref (tH u i)), (1, .int (nI z)), (2, .long x)]) ?_ (0, uZ u (va_up (sZ u) i z) (rC u) (vS u)) ⟨Nat.zero_le _, rfl, rfl, rfl, rfl, rfl, rfl, rfl, rfl, rfl, rfl, rfl, rfl, rfl, fun _ _ => rfl, fun k hk => by omega⟩
  intro a ha ih
  obtain ⟨q, v⟩ := a
  obtain ⟨hqz, hv⟩ := ha
  have hqz : q ≤ z := hqz
  have hv : pFil u i z x q v := hv
  have en : nU v = nU u := hv.2.2.2.2.2.1
  have et : tH v = tH u := hv.2.2.2.2.2.2.1
  have hi2 : i < nU v := by omega
  refine gg_lve (lv' := [(4, .int (nI q)), (0, .ref (tH v i)), (1, .int (nI z)), (2, .long x)]) (by rw [et]) ?_
  refine gg_iload X dX1_fill_8 0 rfl ?_
  refine gg_iload_n X dX1_fill_10 rfl 2 rfl ?_
  refine gg_icmp_ge (tgt := 38) X dX1_fill_11 (by decide) (fun c_11 => ?_) (fun c_11 => ?_)
  · have hq2 : z ≤ q := (nI_leI (by omega) (by omega)).mp c_11
    have e : q = z := by omega
    subst e
    exact gg_vret X dX1_fill_38 hr hk v (hv) rfl (Nat.le_of_ble_eq_true rfl) (Nat.le_of_ble_eq_true rfl)
  · have hq2 : ¬ z ≤ q := fun h => c_11 ((nI_leI (by omega) (by omega)).mpr h)
    refine gg_iload X dX1_fill_14 0 rfl ?_
    refine gg_aload_n X dX1_fill_16 rfl 1 rfl ?_
    refine gg_get X dX1_fill_17 imX1 (2 * i + 6) (cW_th _ _ hi2) rfl 0 (by decide) (am 83 rfl) rfl ?_
    refine gg_alen X dX1_fill_20 (2 * i + 7) 0 (cW_ar F v hi2) rfl (v := nI 20) rfl ?_
    refine gg_icmp_ge (tgt := 38) X dX1_fill_21 (by decide) (fun c_21 => ?_) (fun c_21 => ?_)
    · exact absurd ((nI_leI (by omega) (by omega)).mp c_21) (by omega)
    · refine gg_aload_n X dX1_fill_24 rfl 1 rfl ?_
      refine gg_get X dX1_fill_25 imX1 (2 * i + 6) (cW_th _ _ hi2) rfl 0 (by decide) (am 83 rfl) rfl ?_
      refine gg_iload X dX1_fill_28 0 rfl ?_
      refine gg_lload_n X dX1_fill_30 rfl 3 rfl ?_
      refine gg_last X dX1_fill_31 (2 * i + 7) 0 (cW_ar F v hi2) rfl q rfl (by omega) (by decide) (ws' := cW F (uZ v (sZ v) (rC v) (va_up (vS v) i (vp_updL (vS v i) q x)))) (cW_setA F v _ hi2) ?_
      refine gg_iinc X dX1_fill_32 0 rfl (nI_1 _) (by decide) rfl ?_
      refine gg_goto (tgt := 8) X dX1_fill_35 (by decide) ?_
      refine gg_lve (lv' := [(4, .int (nI (q + 1))), (0, .ref (tH u i)), (1, .int (nI z)), (2, .long x)]) (by rw [← et]; rfl) ?_
      exact ih (q + 1, _) ⟨by show q + 1 ≤ z; omega, hv.step⟩ (by show z - (q + 1) < z - q; omega)
set_option maxHeartbeats 4000000 in
set_option maxRecDepth 100000 in
theorem k_thingOf (l : Launch) (D : va_G) (F : CF) (u : CS) (hc : cOk F u) (v : Int64) : mG l yX0_thingOf wX0_thingOf ({ frames := 0, cells := 0, slots := 0, locals := 0 }) D vwCl (cT F) [.ref (kM F), .long v] (cW F u) (qQ D vwCl (fun (r : Option Nat) (w : CS) => w = u ∧ pTO u v r) (cW F)) := by
  refine gg_met (cc := cX0_thingOf) (nL := 5) (ret := (some (.object "SliceHeap$Thing"))) (lv := [(0, .ref (kM F)), (1, .long v)]) (by decide) rfl rfl (Nat.le_of_ble_eq_true rfl) ?_
  intro p_ e_ s_ m_ bl_ me_ cc_ A_ X hr hk hnm
  refine gg_lload_n X dX0_thingOf_0 rfl 1 rfl ?_
  refine gg_ldc2 X (v := 4294967297) (am 66 rfl) dX0_thingOf_1 ?_
  obtain ⟨w, hw⟩ : ∃ w : Int64, v - 4294967297 = w := ⟨_, rfl⟩
  refine gg_lsub X dX0_thingOf_4 hw ?_
  refine gg_lstore_n X dX0_thingOf_5 rfl (by decide) rfl ?_
  refine gg_lload_n X dX0_thingOf_6 rfl 0 rfl ?_
  refine gg_lconst X dX0_thingOf_7 (v := 0) (by decide) ?_
  refine gg_lcmp X dX0_thingOf_8 ?_
  refine gg_if_lt (tgt := 33) X dX0_thingOf_9 (by decide) (fun c_9 => ?_) (fun c_9 => ?_)
  · refine gg_null X dX0_thingOf_33 ?_
    exact gg_aret (r := none) X dX0_thingOf_34 hr hk u (⟨rfl, Or.inr ⟨fun i hi => row_neg hw ((lg_cmp_lt _ _).mp c_9) (by have hn := hc.n; omega), rfl⟩⟩) rfl (Nat.le_of_ble_eq_true rfl) (Nat.le_of_ble_eq_true rfl)
  · refine gg_lload_n X dX0_thingOf_12 rfl 0 rfl ?_
    refine gg_aload_n X dX0_thingOf_13 rfl 1 rfl ?_
    refine gg_get X dX0_thingOf_14 imX0 3 rfl rfl 0 (by decide) (am 24 rfl) rfl ?_
    refine gg_alen X dX0_thingOf_17 4 1 rfl rfl (v := nI (kN F)) rfl ?_
    refine gg_i2l X dX0_thingOf_18 (v := lN (kN F)) (nI_l (by have hN := hc.N; omega)) ?_
    refine gg_lcmp X dX0_thingOf_19 ?_
    refine gg_if_ge (tgt := 33) X dX0_thingOf_20 (by decide) (fun c_20 => ?_) (fun c_20 => ?_)
    · refine gg_null X dX0_thingOf_33 ?_
      exact gg_aret (r := none) X dX0_thingOf_34 hr hk u (⟨rfl, Or.inr ⟨fun i hi => row_big hw ((lg_cmp_ge _ _).mp c_20) hc.N (by have h4 := hc.2.2.2.1; omega), rfl⟩⟩) rfl (Nat.le_of_ble_eq_true rfl) (Nat.le_of_ble_eq_true rfl)
    · obtain ⟨j, hj, hwj, hvj⟩ := row_in hw (fun q => c_9 ((lg_cmp_lt _ _).mpr q)) (fun q => c_20 ((lg_cmp_ge _ _).mpr q)) hc.N
      refine gg_aload_n X dX0_thingOf_23 rfl 1 rfl ?_
      refine gg_get X dX0_thingOf_24 imX0 3 rfl rfl 0 (by decide) (am 24 rfl) rfl ?_
      refine gg_lload_n X dX0_thingOf_27 rfl 0 rfl ?_
      refine gg_l2i X dX0_thingOf_28 (v := nI j) (by rw [hwj]; exact lN_i j) ?_
      refine gg_aldq X dX0_thingOf_29 4 1 rfl rfl j rfl hj hc.N (r := rW (nU u) (tH u) j) rfl ?_
      refine gg_goto (tgt := 34) X dX0_thingOf_30 (by decide) ?_
      by_cases hjn : j < nU u
      · exact gg_aret X dX0_thingOf_34 hr hk u (⟨rfl, Or.inl ⟨j, hjn, hvj, rW_lt hjn⟩⟩) rfl (Nat.le_of_ble_eq_true rfl) (Nat.le_of_ble_eq_true rfl)
      · exact gg_aret X dX0_thingOf_34 hr hk u (⟨rfl, Or.inr ⟨fun i hi e => hjn (by rw [oB_inj (by have hN := hc.N; omega) (by have hn := hc.n; omega) (hvj.symm.trans e)]; exact hi), rW_ge hjn⟩⟩) rfl (Nat.le_of_ble_eq_true rfl) (Nat.le_of_ble_eq_true rfl)
set_option maxHeartbeats 4000000 in
set_option maxRecDepth 100000 in
theorem k_first (l : Launch) (D : va_G) (F : CF) (u : CS) (hc : cOk F u) : mG l yX0_firstUnreached wX0_firstUnreached ({ frames := 0, cells := 0, slots := 0, locals := 0 }) D vwCl (cT F) [.ref (kM F)] (cW F u) (qI D vwCl (fun (x : Int32) (w : CS) => w = u ∧ ∃ i, x = nI i ∧ pFst F u i) (cW F)) := by
  refine gg_met (cc := cX0_firstUnreached) (nL := 2) (ret := (some .int)) (lv := [(0, .ref (kM F))]) (by decide) rfl rfl (Nat.le_of_ble_eq_true rfl) ?_
  intro p_ e_ s_ m_ bl_ me_ cc_ A_ X hr hk hnm
  refine gg_iconst X dX0_firstUnreached_0 (v := nI 0) (by decide) ?_
  refine gg_istore_n X dX0_firstUnreached_1 rfl (by decide) rfl ?_
  refine gg_loop (ι := Nat) (fun a => a ≤ kN F ∧ a ≤ nU u ∧ ∀ k, k < a → rC u k = true) (fun a => kN F - a) (fun _ => cW F u) (fun a => [(1, .int (nI a)), (0, .ref (kM F))]) ?_ 0 ⟨Nat.zero_le _, Nat.zero_le _, fun k hk => by omega⟩
  intro q ha ih
  obtain ⟨h1, h2, h3⟩ := ha
  have hN := hc.N
  have hn := hc.n
  refine gg_iload_n X dX0_firstUnreached_2 rfl 0 rfl ?_
  refine gg_aload_n X dX0_firstUnreached_3 rfl 1 rfl ?_
  refine gg_get X dX0_firstUnreached_4 imX0 3 rfl rfl 0 (by decide) (am 24 rfl) rfl ?_
  refine gg_alen X dX0_firstUnreached_7 4 1 rfl rfl (v := nI (kN F)) rfl ?_
  refine gg_icmp_ge (tgt := 38) X dX0_firstUnreached_8 (by decide) (fun c_8 => ?_) (fun c_8 => ?_)
  · have hq2 : kN F ≤ q := (nI_leI (by omega) (by omega)).mp c_8
    refine gg_iload_n X dX0_firstUnreached_38 rfl 0 rfl ?_
    exact gg_iret X dX0_firstUnreached_39 hr hk u (⟨rfl, q, rfl, h1, h2, h3, fun g => absurd g (by omega)⟩) rfl (Nat.le_of_ble_eq_true rfl) (Nat.le_of_ble_eq_true rfl)
  · have hq2 : ¬ kN F ≤ q := fun h => c_8 ((nI_leI (by omega) (by omega)).mpr h)
    refine gg_aload_n X dX0_firstUnreached_11 rfl 1 rfl ?_
    refine gg_get X dX0_firstUnreached_12 imX0 3 rfl rfl 0 (by decide) (am 24 rfl) rfl ?_
    refine gg_iload_n X dX0_firstUnreached_15 rfl 0 rfl ?_
    refine gg_aldq X dX0_firstUnreached_16 4 1 rfl rfl q rfl (by omega) hN (r := rW (nU u) (tH u) q) rfl ?_
    refine gg_ifnull (tgt := 38) X dX0_firstUnreached_17 (by decide) (fun c_17 => ?_) (fun a_17 c_17 => ?_)
    · have hq3 := rW_none c_17
      refine gg_iload_n X dX0_firstUnreached_38 rfl 0 rfl ?_
      exact gg_iret X dX0_firstUnreached_39 hr hk u (⟨rfl, q, rfl, h1, h2, h3, fun _ g => absurd g hq3⟩) rfl (Nat.le_of_ble_eq_true rfl) (Nat.le_of_ble_eq_true rfl)
    · obtain ⟨hq, -⟩ := rW_some c_17
      refine gg_aload_n X dX0_firstUnreached_20 rfl 1 rfl ?_
      refine gg_get X dX0_firstUnreached_21 imX0 3 rfl rfl 0 (by decide) (am 24 rfl) rfl ?_
      refine gg_iload_n X dX0_firstUnreached_24 rfl 0 rfl ?_
      refine gg_aldq X dX0_firstUnreached_25 4 1 rfl rfl q rfl (by omega) hN (r := some (tH u q)) (rW_lt hq) ?_
      refine gg_getN (host := "SliceHeap") X dX0_firstUnreached_26 imX1 (2 * q + 6) (cW_th _ _ hq) rfl 2 (by decide) (X.2.2.2.2.2.2.2.1 _ (nw 12 rfl)) rfl ?_
      refine gg_if_eq (tgt := 38) X dX0_firstUnreached_29 (by decide) (fun c_29 => ?_) (fun c_29 => ?_)
      · have hr2 := bI_0 c_29
        refine gg_iload_n X dX0_firstUnreached_38 rfl 0 rfl ?_
        exact gg_iret X dX0_firstUnreached_39 hr hk u (⟨rfl, q, rfl, h1, h2, h3, fun _ _ => hr2⟩) rfl (Nat.le_of_ble_eq_true rfl) (Nat.le_of_ble_eq_true rfl)
      · have hr2 := bI_1 c_29
        refine gg_iinc X dX0_firstUnreached_32 0 rfl (nI_1 _) (by decide) rfl ?_
        refine gg_goto (tgt := 2) X dX0_firstUnreached_35 (by decide) ?_
        exact ih (q + 1) ⟨by omega, by omega, fun k hk => by
          by_cases e : k = q
          · rw [e]; exact hr2
          · exact h3 k (by omega)⟩ (by show kN F - (q + 1) < kN F - q; omega)
set_option maxHeartbeats 4000000 in
set_option maxRecDepth 100000 in
theorem k_forget (l : Launch) (D : va_G) (F : CF) (u : CS) (hc : cOk F u) : mG l yX0_forgetWalk wX0_forgetWalk ({ frames := 0, cells := 0, slots := 0, locals := 0 }) D vwCl (cT F) [.ref (kM F)] (cW F u) (qV D vwCl (fun (w : CS) => pFor u w) (cW F)) := by
  refine gg_met (cc := cX0_forgetWalk) (nL := 2) (ret := none) (lv := [(0, .ref (kM F))]) (by decide) rfl rfl (Nat.le_of_ble_eq_true rfl) ?_
  intro p_ e_ s_ m_ bl_ me_ cc_ A_ X hr hk hnm
  refine gg_iconst X dX0_forgetWalk_0 (v := nI 0) (by decide) ?_
  refine gg_istore_n X dX0_forgetWalk_1 rfl (by decide) rfl ?_
  refine gg_loop (ι := Nat × CS) (fun a => Sm u a.2 ∧ a.1 ≤ kN F ∧ ∀ k, k < a.1 → k < nU u → rC a.2 k = false) (fun a => kN F - a.1) (fun a => cW F a.2) (fun a => [(1, .int (nI a.1)), (0, .ref (kM F))]) ?_ (0, u) ⟨Sm.rf u, Nat.zero_le _, fun k hk => absurd hk (Nat.not_lt_zero k)⟩
  intro a ha ih
  obtain ⟨q, v⟩ := a
  obtain ⟨hs, h1, h2⟩ := ha
  have hs : Sm u v := hs
  have h1 : q ≤ kN F := h1
  have h2 : ∀ k, k < q → k < nU u → rC v k = false := h2
  have hN := hc.N
  have hn := hc.n
  have h4 := hc.2.2.2.1
  have en : nU v = nU u := hs.2.2.2.2.2.1
  refine gg_iload_n X dX0_forgetWalk_2 rfl 0 rfl ?_
  refine gg_aload_n X dX0_forgetWalk_3 rfl 1 rfl ?_
  refine gg_get X dX0_forgetWalk_4 imX0 3 rfl rfl 0 (by decide) (am 24 rfl) rfl ?_
  refine gg_alen X dX0_forgetWalk_7 4 1 rfl rfl (v := nI (kN F)) rfl ?_
  refine gg_icmp_ge (tgt := 36) X dX0_forgetWalk_8 (by decide) (fun c_8 => ?_) (fun c_8 => ?_)
  · have hq2 : kN F ≤ q := (nI_leI (by omega) (by omega)).mp c_8
    have hall : ∀ i, i < nU u → rC v i = false := fun i hi => h2 i (by omega) hi
    refine gg_aload_n X dX0_forgetWalk_36 rfl 1 rfl ?_
    refine gg_iconst X dX0_forgetWalk_37 (v := nI 0) (by decide) ?_
    refine gg_put X dX0_forgetWalk_38 imX0 tyX0 tyX0_ok nmX0 3 rfl rfl 2 (by decide) (am 26 rfl) (ws' := cW F (uO v 0 (rL v) (rE v))) (ty := .int) rfl (by decide +kernel) rfl rfl (Nat.le_of_ble_eq_true rfl) (rfl) ?_
    refine gg_aload_n X dX0_forgetWalk_41 rfl 1 rfl ?_
    refine gg_iconst X dX0_forgetWalk_42 (v := nI 0) (by decide) ?_
    refine gg_put X dX0_forgetWalk_43 imX0 tyX0 tyX0_ok nmX0 3 rfl rfl 3 (by decide) (am 27 rfl) (ws' := cW F (uO v 0 0 (rE v))) (ty := .int) rfl (by decide +kernel) rfl rfl (Nat.le_of_ble_eq_true rfl) (rfl) ?_
    exact gg_vret X dX0_forgetWalk_46 hr hk (uO v 0 0 (rE v)) (⟨hs, rfl, rfl, hall⟩) rfl (Nat.le_of_ble_eq_true rfl) (Nat.le_of_ble_eq_true rfl)
  · have hq2 : ¬ kN F ≤ q := fun h => c_8 ((nI_leI (by omega) (by omega)).mpr h)
    refine gg_aload_n X dX0_forgetWalk_11 rfl 1 rfl ?_
    refine gg_get X dX0_forgetWalk_12 imX0 3 rfl rfl 0 (by decide) (am 24 rfl) rfl ?_
    refine gg_iload_n X dX0_forgetWalk_15 rfl 0 rfl ?_
    refine gg_aldq X dX0_forgetWalk_16 4 1 rfl rfl q rfl (by omega) hN (r := rW (nU v) (tH v) q) rfl ?_
    refine gg_ifnull (tgt := 36) X dX0_forgetWalk_17 (by decide) (fun c_17 => ?_) (fun a_17 c_17 => ?_)
    · have hq3 := rW_none c_17
      have hall : ∀ i, i < nU u → rC v i = false := fun i hi => h2 i (by omega) hi
      refine gg_aload_n X dX0_forgetWalk_36 rfl 1 rfl ?_
      refine gg_iconst X dX0_forgetWalk_37 (v := nI 0) (by decide) ?_
      refine gg_put X dX0_forgetWalk_38 imX0 tyX0 tyX0_ok nmX0 3 rfl rfl 2 (by decide) (am 26 rfl) (ws' := cW F (uO v 0 (rL v) (rE v))) (ty := .int) rfl (by decide +kernel) rfl rfl (Nat.le_of_ble_eq_true rfl) (rfl) ?_
      refine gg_aload_n X dX0_forgetWalk_41 rfl 1 rfl ?_
      refine gg_iconst X dX0_forgetWalk_42 (v := nI 0) (by decide) ?_
      refine gg_put X dX0_forgetWalk_43 imX0 tyX0 tyX0_ok nmX0 3 rfl rfl 3 (by decide) (am 27 rfl) (ws' := cW F (uO v 0 0 (rE v))) (ty := .int) rfl (by decide +kernel) rfl rfl (Nat.le_of_ble_eq_true rfl) (rfl) ?_
      exact gg_vret X dX0_forgetWalk_46 hr hk (uO v 0 0 (rE v)) (⟨hs, rfl, rfl, hall⟩) rfl (Nat.le_of_ble_eq_true rfl) (Nat.le_of_ble_eq_true rfl)
    · obtain ⟨hq, -⟩ := rW_some c_17
      refine gg_aload_n X dX0_forgetWalk_20 rfl 1 rfl ?_
      refine gg_get X dX0_forgetWalk_21 imX0 3 rfl rfl 0 (by decide) (am 24 rfl) rfl ?_
      refine gg_iload_n X dX0_forgetWalk_24 rfl 0 rfl ?_
      refine gg_aldq X dX0_forgetWalk_25 4 1 rfl rfl q rfl (by omega) hN (r := some (tH v q)) (rW_lt hq) ?_
      refine gg_iconst X dX0_forgetWalk_26 (v := bI false) (by decide) ?_
      refine gg_putN (host := "SliceHeap") X dX0_forgetWalk_27 imX1 tyX1 tyX1_ok nmX1 (2 * q + 6) (cW_th _ _ hq) rfl 2 (by decide) (X.2.2.2.2.2.2.2.1 _ (nw 12 rfl)) (ws' := cW F (uZ v (sZ v) (va_up (rC v) q false) (vS v))) (ty := .boolean) rfl (by decide +kernel) rfl rfl (Nat.le_of_ble_eq_true rfl) (cW_setR F v false hq) ?_
      refine gg_iinc X dX0_forgetWalk_30 0 rfl (nI_1 _) (by decide) rfl ?_
      refine gg_goto (tgt := 2) X dX0_forgetWalk_33 (by decide) ?_
      exact ih (q + 1, uZ v (sZ v) (va_up (rC v) q false) (vS v)) ⟨hs, by show q + 1 ≤ kN F; omega, fun k hk hku => by
        show va_up (rC v) q false k = false
        have hk : k < q + 1 := hk
        by_cases e : k = q
        · rw [e, va_up_self]
        · rw [va_up_ne _ _ e]; exact h2 k (by omega) hku⟩ (by show kN F - (q + 1) < kN F - q; omega)
set_option maxHeartbeats 4000000 in
set_option maxRecDepth 100000 in
theorem k_reachN (l : Launch) (D : va_G) (F : CF) (u : CS) : mG l yX0_reach wX0_reach ({ frames := 0, cells := 0, slots := 0, locals := 0 }) D vwCl (cT F) [.ref (kM F), .null] (cW F u) (qV D vwCl (fun (w : CS) => w = u) (cW F)) := by
  refine gg_met (cc := cX0_reach) (nL := 2) (ret := none) (lv := [(0, .ref (kM F)), (1, .null)]) (by decide) rfl rfl (Nat.le_of_ble_eq_true rfl) ?_
  intro p_ e_ s_ m_ bl_ me_ cc_ A_ X hr hk hnm
  refine gg_aload_nN X dX0_reach_0 rfl 1 rfl ?_
  refine gg_ifnull (r := none) (tgt := 23) X dX0_reach_1 (by decide) (fun c_1 => ?_) (fun a_1 c_1 => ?_)
  · exact gg_vret X dX0_reach_23 hr hk u (rfl) rfl (Nat.le_of_ble_eq_true rfl) (Nat.le_of_ble_eq_true rfl)
  · cases c_1
set_option maxHeartbeats 4000000 in
set_option maxRecDepth 100000 in
theorem k_reachS (l : Launch) (D : va_G) (F : CF) (u : CS) (hc : cOk F u) (hw : Wk u) (i : Nat) (hi : i < nU u) : mG l yX0_reach wX0_reach ({ frames := 0, cells := 0, slots := 0, locals := 0 }) D vwCl (cT F) [.ref (kM F), .ref (tH u i)] (cW F u) (qV D vwCl (fun (w : CS) => w = rch u (some i)) (cW F)) := by
  refine gg_met (cc := cX0_reach) (nL := 2) (ret := none) (lv := [(0, .ref (kM F)), (1, .ref (tH u i))]) (by decide) rfl rfl (Nat.le_of_ble_eq_true rfl) ?_
  intro p_ e_ s_ m_ bl_ me_ cc_ A_ X hr hk hnm
  have hN := hc.N
  have hn := hc.n
  have h4 := hc.2.2.2.1
  refine gg_aload_n X dX0_reach_0 rfl 1 rfl ?_
  refine gg_ifnull (r := some (tH u i)) (tgt := 23) X dX0_reach_1 (by decide) (fun c_1 => ?_) (fun a_1 c_1 => ?_)
  · cases c_1
  · refine gg_aload_n X dX0_reach_4 rfl 1 rfl ?_
    refine gg_getN (host := "SliceHeap") X dX0_reach_5 imX1 (2 * i + 6) (cW_th _ _ hi) rfl 2 (by decide) (X.2.2.2.2.2.2.2.1 _ (nw 12 rfl)) rfl ?_
    refine gg_if_ne (tgt := 23) X dX0_reach_8 (by decide) (fun c_8 => ?_) (fun c_8 => ?_)
    · have hr2 := bI_1 c_8
      exact gg_vret X dX0_reach_23 hr hk u (by show u = if rC u i = true then u else mk u i; rw [if_pos hr2]) rfl (Nat.le_of_ble_eq_true rfl) (Nat.le_of_ble_eq_true rfl)
    · have hr2 := bI_0 c_8
      have hlt := hw.lt hi hr2
      refine gg_aload_n X dX0_reach_11 rfl 0 rfl ?_
      refine gg_get X dX0_reach_12 imX0 3 rfl rfl 2 (by decide) (am 26 rfl) rfl ?_
      refine gg_aload_n X dX0_reach_15 rfl 0 rfl ?_
      refine gg_get X dX0_reach_16 imX0 3 rfl rfl 1 (by decide) (am 25 rfl) rfl ?_
      refine gg_alen X dX0_reach_19 5 1 rfl rfl (v := nI (kN F)) rfl ?_
      refine gg_icmp_lt (tgt := 24) X dX0_reach_20 (by decide) (fun c_20 => ?_) (fun c_20 => ?_)
      · refine gg_aload_n X dX0_reach_24 rfl 1 rfl ?_
        refine gg_iconst X dX0_reach_25 (v := bI true) (by decide) ?_
        refine gg_putN (host := "SliceHeap") X dX0_reach_26 imX1 tyX1 tyX1_ok nmX1 (2 * i + 6) (cW_th _ _ hi) rfl 2 (by decide) (X.2.2.2.2.2.2.2.1 _ (nw 12 rfl)) (ws' := cW F (uK u (sZ u) (va_up (rC u) i true) (vS u) (rO u) (rL u) (rE u))) (ty := .boolean) rfl (by decide +kernel) rfl rfl (Nat.le_of_ble_eq_true rfl) (cW_setM F u true hi) ?_
        refine gg_aload_n X dX0_reach_29 rfl 0 rfl ?_
        refine gg_get X dX0_reach_30 imX0 3 rfl rfl 1 (by decide) (am 25 rfl) rfl ?_
        refine gg_aload_n X dX0_reach_33 rfl 0 rfl ?_
        refine gg_get X dX0_reach_34 imX0 3 rfl rfl 2 (by decide) (am 26 rfl) rfl ?_
        refine gg_aload_n X dX0_reach_37 rfl 1 rfl ?_
        refine gg_astq X dX0_reach_38 5 1 (2 * i + 6) 1 rfl rfl (cW_th F (uK u (sZ u) (va_up (rC u) i true) (vS u) (rO u) (rL u) (rE u)) hi) rfl (rO u) rfl (by omega) hN (ws' := cW F (uK u (sZ u) (va_up (rC u) i true) (vS u) (rO u) (rL u) (va_up (rE u) (rO u) (some (tH u i))))) rfl ?_
        refine gg_aload_n X dX0_reach_39 rfl 0 rfl ?_
        refine gg_dup X dX0_reach_40 rfl ?_
        refine gg_get X dX0_reach_41 imX0 3 rfl rfl 2 (by decide) (am 26 rfl) rfl ?_
        refine gg_iconst X dX0_reach_44 (v := 1) (by decide) ?_
        refine gg_iadd X dX0_reach_45 (nI_1 _) ?_
        refine gg_put X dX0_reach_46 imX0 tyX0 tyX0_ok nmX0 3 rfl rfl 2 (by decide) (am 26 rfl) (ws' := cW F (uK u (sZ u) (va_up (rC u) i true) (vS u) (rO u + 1) (rL u) (va_up (rE u) (rO u) (some (tH u i))))) (ty := .int) rfl (by decide +kernel) rfl rfl (Nat.le_of_ble_eq_true rfl) (rfl) ?_
        refine gg_aload_n X dX0_reach_49 rfl 0 rfl ?_
        refine gg_dup X dX0_reach_50 rfl ?_
        refine gg_get X dX0_reach_51 imX0 3 rfl rfl 3 (by decide) (am 27 rfl) rfl ?_
        refine gg_iconst X dX0_reach_54 (v := nI 2) (by decide) ?_
        refine gg_aload_n X dX0_reach_55 rfl 1 rfl ?_
        refine gg_getN (host := "SliceHeap") X dX0_reach_56 imX1 (2 * i + 6) (cW_th _ _ hi) rfl 1 (by decide) (X.2.2.2.2.2.2.2.1 _ (nw 11 rfl)) rfl ?_
        refine gg_iadd X dX0_reach_59 (nI_add _ _) ?_
        refine gg_iadd X dX0_reach_60 (nI_add _ _) ?_
        refine gg_put X dX0_reach_61 imX0 tyX0 tyX0_ok nmX0 3 rfl rfl 3 (by decide) (am 27 rfl) (ws' := cW F (mk u i)) (ty := .int) rfl (by decide +kernel) rfl rfl (Nat.le_of_ble_eq_true rfl) (rfl) ?_
        exact gg_vret X dX0_reach_64 hr hk (mk u i) (by show mk u i = if rC u i = true then u else mk u i; rw [if_neg (by rw [hr2]; decide)]) rfl (Nat.le_of_ble_eq_true rfl) (Nat.le_of_ble_eq_true rfl)
      · exact absurd ((nI_ltI (by omega) (by omega)).mpr (by omega)) c_20
theorem k_reach (l : Launch) (D : va_G) (F : CF) (u : CS) (hc : cOk F u) (hw : Wk u) (o : Option Nat) (ho : ∀ i, o = some i → i < nU u) : mG l yX0_reach wX0_reach ({ frames := 0, cells := 0, slots := 0, locals := 0 }) D vwCl (cT F) [.ref (kM F), va_rf (o.map (tH u))] (cW F u) (qV D vwCl (fun (w : CS) => w = rch u o) (cW F)) := by
  cases o with
  | none => exact k_reachN l D F u
  | some i => exact k_reachS l D F u hc hw i (ho i rfl)
set_option maxHeartbeats 4000000 in
set_option maxRecDepth 100000 in
theorem k_reachAll (l : Launch) (D : va_G) (F : CF) (u : CS) (hc : cOk F u) (hw : Wk u) (a q0 ln z : Nat) (g : Nat → Int64) (hz : z ≤ ln) (hln : ln < 2147483648) (hq : ∀ v, Sm u v → (cW F v)[q0]? = some (a, .inl (kJ F, ln, .inr (.inl g)))) : mG l yX0_reachAll wX0_reachAll ({ frames := 1, cells := 0, slots := 0, locals := 24 }) D vwCl (cT F) [.ref (kM F), .ref a, .int (nI z)] (cW F u) (qV D vwCl (fun (w : CS) => pAll u g z w) (cW F)) := by
  refine gg_met (cc := cX0_reachAll) (nL := 4) (ret := none) (lv := [(0, .ref (kM F)), (1, .ref a), (2, .int (nI z))]) (by decide) rfl rfl (Nat.le_of_ble_eq_true rfl) ?_
  intro p_ e_ s_ m_ bl_ me_ cc_ A_ X hr hk hnm
  refine gg_iconst X dX0_reachAll_0 (v := nI 0) (by decide) ?_
  refine gg_istore_n X dX0_reachAll_1 rfl (by decide) rfl ?_
  refine gg_loop (ι := Nat × CS) (fun b => b.1 ≤ z ∧ pAll u g b.1 b.2) (fun b => z - b.1) (fun b => cW F b.2) (fun b => [(3, .int (nI b.1)), (0, .ref (kM F)), (1, .ref a), (2, .int (nI z))]) ?_ (0, u) ⟨Nat.zero_le _, pAll.start hw g⟩
  intro b hb ih
  obtain ⟨q, v⟩ := b
  obtain ⟨hqz, hv⟩ := hb
  have hqz : q ≤ z := hqz
  have hv : pAll u g q v := hv
  have en : nU v = nU u := hv.1.2.2.2.2.2.1
  have hcv : cOk F v := hc.sm hv.1
  refine gg_iload_n X dX0_reachAll_2 rfl 0 rfl ?_
  refine gg_iload_n X dX0_reachAll_3 rfl 3 rfl ?_
  refine gg_icmp_ge (tgt := 30) X dX0_reachAll_4 (by decide) (fun c_4 => ?_) (fun c_4 => ?_)
  · have hq2 : z ≤ q := (nI_leI (by omega) (by omega)).mp c_4
    have e : q = z := by omega
    subst e
    exact gg_vret X dX0_reachAll_30 hr hk v (hv) rfl (Nat.le_of_ble_eq_true rfl) (Nat.le_of_ble_eq_true rfl)
  · have hq2 : ¬ z ≤ q := fun h => c_4 ((nI_leI (by omega) (by omega)).mpr h)
    refine gg_iload_n X dX0_reachAll_7 rfl 0 rfl ?_
    refine gg_aload_n X dX0_reachAll_8 rfl 2 rfl ?_
    refine gg_alen X dX0_reachAll_9 q0 0 (hq v hv.1) rfl (v := nI ln) rfl ?_
    refine gg_icmp_ge (tgt := 30) X dX0_reachAll_10 (by decide) (fun c_10 => ?_) (fun c_10 => ?_)
    · exact absurd ((nI_leI (by omega) (by omega)).mp c_10) (by omega)
    · refine gg_aload_n X dX0_reachAll_13 rfl 1 rfl ?_
      refine gg_aload_n X dX0_reachAll_14 rfl 1 rfl ?_
      refine gg_aload_n X dX0_reachAll_15 rfl 2 rfl ?_
      refine gg_iload_n X dX0_reachAll_16 rfl 0 rfl ?_
      refine gg_lald X dX0_reachAll_17 q0 0 (hq v hv.1) rfl q rfl (by omega) hln ?_
      refine gc_q X (gr_V (q0 := 3) X dX0_reachAll_18 X.2.2.2.2.2.1 (k_thingOf l D F v hcv (g q)) (cwV 1 X.2.2.2.2.1 (gdV (al 63 rfl) (al 64 rfl) (al 235 rfl) (al 3 rfl) (al 65 rfl)) rfl rfl rfl (by decide +kernel) ⟨Nat.le_of_ble_eq_true rfl, Nat.le_of_ble_eq_true rfl⟩) rfl rfl rfl rfl rfl (Nat.le_of_ble_eq_true rfl) ⟨Nat.le_of_ble_eq_true rfl, Nat.le_of_ble_eq_true rfl⟩) (fun r_18 w_18 h_18 => ?_)
      obtain ⟨ew, h_18⟩ := h_18
      rw [ew]
      obtain ⟨o, eo, ho, hoo⟩ := h_18.row
      rw [eo]
      refine gc_v X (gr_V (q0 := 3) X dX0_reachAll_21 X.2.2.2.2.2.1 (k_reach l D F v hcv hv.2.1 o ho) (cwV 1 X.2.2.2.2.1 (gdV (al 67 rfl) (al 68 rfl) (al 236 rfl) (al 3 rfl) (al 69 rfl)) rfl rfl rfl (by decide +kernel) ⟨Nat.le_of_ble_eq_true rfl, Nat.le_of_ble_eq_true rfl⟩) rfl rfl rfl rfl rfl (Nat.le_of_ble_eq_true rfl) ⟨Nat.le_of_ble_eq_true rfl, Nat.le_of_ble_eq_true rfl⟩) (fun w_21 h_21 => ?_)
      rw [h_21]
      refine gg_iinc X dX0_reachAll_24 0 rfl (nI_1 _) (by decide) rfl ?_
      refine gg_goto (tgt := 2) X dX0_reachAll_27 (by decide) ?_
      exact ih (q + 1, rch v o) ⟨by show q + 1 ≤ z; omega, hv.step (by rw [en] at hoo; exact hoo) hc.n⟩ (by show z - (q + 1) < z - q; omega)
set_option maxHeartbeats 4000000 in
set_option maxRecDepth 100000 in
theorem k_follow (l : Launch) (D : va_G) (F : CF) (u : CS) (hc : cOk F u) (hw : Wk u) : mG l yX0_followReached wX0_followReached ({ frames := 2, cells := 0, slots := 0, locals := 47 }) D vwCl (cT F) [.ref (kM F)] (cW F u) (qV D vwCl (fun (w : CS) => pFol u (rO w) w) (cW F)) := by
  refine gg_met (cc := cX0_followReached) (nL := 3) (ret := none) (lv := [(0, .ref (kM F))]) (by decide) rfl rfl (Nat.le_of_ble_eq_true rfl) ?_
  intro p_ e_ s_ m_ bl_ me_ cc_ A_ X hr hk hnm
  refine gg_iconst X dX0_followReached_0 (v := nI 0) (by decide) ?_
  refine gg_istore_n X dX0_followReached_1 rfl (by decide) rfl ?_
  refine gg_loop (ι := Nat × CS) (fun b => pFol u b.1 b.2) (fun b => nU u - b.1) (fun b => cW F b.2) (fun b => [(1, .int (nI b.1)), (0, .ref (kM F))]) ?_ (0, u) (pFol.start hw)
  intro b hv ih
  obtain ⟨q, v⟩ := b
  have hv : pFol u q v := hv
  have en : nU v = nU u := hv.1.2.2.2.2.2.1
  have et : tH v = tH u := hv.1.2.2.2.2.2.2.1
  have ez : sZ v = sZ u := hv.1.2.2.2.2.2.2.2.2.1
  have ev : vS v = vS u := hv.1.2.2.2.2.2.2.2.2.2
  have hcv : cOk F v := hc.sm hv.1
  have hle : rO v ≤ nU v := hv.2.1.le
  have hqo : q ≤ rO v := hv.2.2.2.1
  have hN := hc.N
  have hn := hc.n
  have h4 := hc.2.2.2.1
  refine gg_iload_n X dX0_followReached_2 rfl 0 rfl ?_
  refine gg_aload_n X dX0_followReached_3 rfl 1 rfl ?_
  refine gg_get X dX0_followReached_4 imX0 3 rfl rfl 2 (by decide) (am 26 rfl) rfl ?_
  refine gg_icmp_ge (tgt := 48) X dX0_followReached_7 (by decide) (fun c_7 => ?_) (fun c_7 => ?_)
  · have hq2 : rO v ≤ q := (nI_leI (a := rO v) (b := q) (by omega) (by omega)).mp c_7
    have e : q = rO v := by omega
    subst e
    exact gg_vret X dX0_followReached_48 hr hk v (hv) rfl (Nat.le_of_ble_eq_true rfl) (Nat.le_of_ble_eq_true rfl)
  · have hq2 : ¬ rO v ≤ q := fun h => c_7 ((nI_leI (a := rO v) (b := q) (by omega) (by omega)).mpr h)
    obtain ⟨i, hi, hei, hri⟩ := hv.2.1.2.2.1 q (by omega)
    have h20 := hcv.2.2.2.2.2 i hi
    refine gg_iload_n X dX0_followReached_10 rfl 0 rfl ?_
    refine gg_aload_n X dX0_followReached_11 rfl 1 rfl ?_
    refine gg_get X dX0_followReached_12 imX0 3 rfl rfl 1 (by decide) (am 25 rfl) rfl ?_
    refine gg_alen X dX0_followReached_15 5 1 rfl rfl (v := nI (kN F)) rfl ?_
    refine gg_icmp_ge (tgt := 48) X dX0_followReached_16 (by decide) (fun c_16 => ?_) (fun c_16 => ?_)
    · exact absurd ((nI_leI (by omega) (by omega)).mp c_16) (by omega)
    · refine gg_aload_n X dX0_followReached_19 rfl 1 rfl ?_
      refine gg_get X dX0_followReached_20 imX0 3 rfl rfl 1 (by decide) (am 25 rfl) rfl ?_
      refine gg_iload_n X dX0_followReached_23 rfl 0 rfl ?_
      refine gg_aldq X dX0_followReached_24 5 1 rfl rfl q rfl (by omega) hN (r := some (tH v i)) hei ?_
      refine gg_astore_n X dX0_followReached_25 rfl (by decide) rfl ?_
      refine gg_aload_n X dX0_followReached_26 rfl 0 rfl ?_
      refine gg_ifnullS X dX0_followReached_27 ?_
      refine gg_aload_n X dX0_followReached_30 rfl 2 rfl ?_
      refine gg_aload_n X dX0_followReached_31 rfl 0 rfl ?_
      refine gg_getN (host := "SliceHeap") X dX0_followReached_32 imX1 (2 * i + 6) (cW_th _ _ hi) rfl 0 (by decide) (X.2.2.2.2.2.2.2.1 _ (nw 9 rfl)) rfl ?_
      refine gg_aload_n X dX0_followReached_35 rfl 0 rfl ?_
      refine gg_getN (host := "SliceHeap") X dX0_followReached_36 imX1 (2 * i + 6) (cW_th _ _ hi) rfl 1 (by decide) (X.2.2.2.2.2.2.2.1 _ (nw 11 rfl)) rfl ?_
      refine gc_v X (gr_V (q0 := 3) X dX0_followReached_39 X.2.2.2.2.2.1 (k_reachAll l D F v hcv hv.2.1 (aR v i) (2 * i + 7) 20 (sZ v i) (vS v i) h20 (by decide) (fun w hs => by
          have h := cW_ar F w (i := i) (by rw [hs.2.2.2.2.2.1]; exact hi)
          rw [hs.2.2.2.2.2.2.2.1, hs.2.2.2.2.2.2.2.2.2] at h
          exact h)) (cwV 2 X.2.2.2.2.1 (gdV (al 72 rfl) (al 61 rfl) (al 234 rfl) (al 3 rfl) (al 62 rfl)) rfl rfl rfl (by decide +kernel) ⟨Nat.le_of_ble_eq_true rfl, Nat.le_of_ble_eq_true rfl⟩) rfl rfl rfl rfl rfl (Nat.le_of_ble_eq_true rfl) ⟨Nat.le_of_ble_eq_true rfl, Nat.le_of_ble_eq_true rfl⟩) (fun w_39 h_39 => ?_)
      refine gg_iinc X dX0_followReached_42 1 rfl (nI_1 _) (by decide) rfl ?_
      refine gg_goto (tgt := 2) X dX0_followReached_45 (by decide) ?_
      refine gg_lv [0, 2] rfl ?_
      exact ih (q + 1, w_39) (hv.step (by omega) (by omega) (by rw [← et]; exact hei) hri (by rw [← ev, ← ez]; exact h_39)) (by show nU u - (q + 1) < nU u - q; omega)
end
section
set_option maxHeartbeats 4000000 in
set_option maxRecDepth 100000 in
theorem k_walk (l : Launch) (D : va_G) (F : CF) (u : CS) (hc : cOk F u) : mG l yX2_walk wX2_walk ({ frames := 3, cells := 0, slots := 0, locals := 69 }) D vwCl (cT F) [.ref (kH F)] (cW F u) (qV D vwCl (fun (w : CS) => Wd u w) (cW F)) := by
  refine gg_met (cc := cX2_walk) (nL := 1) (ret := none) (lv := [(0, .ref (kH F))]) (by decide) rfl rfl (Nat.le_of_ble_eq_true rfl) ?_
  intro p_ e_ s_ m_ bl_ me_ cc_ A_ X hr hk hnm
  refine gg_D (fun hD => ?_)
  have hinj := th_inj hD
  refine gg_aload_n X dX2_walk_0 rfl 0 rfl ?_
  refine gg_get X dX2_walk_1 imX2 0 rfl rfl 3 (by decide) (am 36 rfl) rfl ?_
  refine gc_v X (gr_VN (q0 := 3) (host := "SliceHeap") X dX2_walk_4 X.2.2.2.2.2.1 (k_forget l D F u hc) ⟨va_cnB 0 X.2.2.2.2.1 (gd0 (al 60 rfl)) rfl rfl rfl (X.2.2.2.2.2.2.2.1 _ (nw 3 rfl)) (X.2.2.2.2.1 _ (am 3 rfl)) (by decide +kernel) ⟨Nat.le_of_ble_eq_true rfl, Nat.le_of_ble_eq_true rfl⟩, (X.2.2.2.2.1 _ (am 59 rfl)), (X.2.2.2.2.1 _ (am 233 rfl))⟩ rfl rfl rfl rfl rfl (Nat.le_of_ble_eq_true rfl) ⟨Nat.le_of_ble_eq_true rfl, Nat.le_of_ble_eq_true rfl⟩) (fun u0 h0 => ?_)
  have s0 := h0.1
  have hc0 : cOk F u0 := hc.sm s0
  refine gg_aload_n X dX2_walk_7 rfl 0 rfl ?_
  refine gg_get X dX2_walk_8 imX2 0 rfl rfl 3 (by decide) (am 36 rfl) rfl ?_
  refine gg_aload_n X dX2_walk_11 rfl 0 rfl ?_
  refine gg_get X dX2_walk_12 imX2 0 rfl rfl 1 (by decide) (am 34 rfl) rfl ?_
  refine gg_bipush X dX2_walk_15 (v := nI 10) (by decide) ?_
  refine gc_v X (gr_VN (q0 := 3) (host := "SliceHeap") X dX2_walk_17 X.2.2.2.2.2.1 (k_reachAll l D F u0 hc0 h0.wk (kR F) 1 10 10 (rG u0) (Nat.le_refl _) (by decide) (fun w hs => by rw [← hs.1]; rfl)) ⟨va_cnB 2 X.2.2.2.2.1 (gd0 (al 62 rfl)) rfl rfl rfl (X.2.2.2.2.2.2.2.1 _ (nw 4 rfl)) (X.2.2.2.2.1 _ (am 3 rfl)) (by decide +kernel) ⟨Nat.le_of_ble_eq_true rfl, Nat.le_of_ble_eq_true rfl⟩, (X.2.2.2.2.1 _ (am 61 rfl)), (X.2.2.2.2.1 _ (am 234 rfl))⟩ rfl rfl rfl rfl rfl (Nat.le_of_ble_eq_true rfl) ⟨Nat.le_of_ble_eq_true rfl, Nat.le_of_ble_eq_true rfl⟩) (fun u1 h1 => ?_)
  have s1 := s0.tr h1.1
  have hc1 : cOk F u1 := hc.sm s1
  refine gg_aload_n X dX2_walk_20 rfl 0 rfl ?_
  refine gg_get X dX2_walk_21 imX2 0 rfl rfl 3 (by decide) (am 36 rfl) rfl ?_
  refine gg_aload_n X dX2_walk_24 rfl 0 rfl ?_
  refine gg_get X dX2_walk_25 imX2 0 rfl rfl 2 (by decide) (am 35 rfl) rfl ?_
  refine gg_aload_n X dX2_walk_28 rfl 0 rfl ?_
  refine gg_get X dX2_walk_29 imX2 0 rfl rfl 4 (by decide) (am 37 rfl) rfl ?_
  refine gc_v X (gr_VN (q0 := 3) (host := "SliceHeap") X dX2_walk_32 X.2.2.2.2.2.1 (k_reachAll l D F u1 hc1 h1.2.1 (kS F) 2 50 (sT u1) (sK u1) hc1.2.2.2.2.1 (by decide) (fun w hs => by rw [← hs.2.1]; rfl)) ⟨va_cnB 2 X.2.2.2.2.1 (gd0 (al 62 rfl)) rfl rfl rfl (X.2.2.2.2.2.2.2.1 _ (nw 4 rfl)) (X.2.2.2.2.1 _ (am 3 rfl)) (by decide +kernel) ⟨Nat.le_of_ble_eq_true rfl, Nat.le_of_ble_eq_true rfl⟩, (X.2.2.2.2.1 _ (am 61 rfl)), (X.2.2.2.2.1 _ (am 234 rfl))⟩ rfl rfl rfl rfl rfl (Nat.le_of_ble_eq_true rfl) ⟨Nat.le_of_ble_eq_true rfl, Nat.le_of_ble_eq_true rfl⟩) (fun u2 h2 => ?_)
  have s2 := s1.tr h2.1
  have hc2 : cOk F u2 := hc.sm s2
  refine gg_aload_n X dX2_walk_35 rfl 0 rfl ?_
  refine gg_get X dX2_walk_36 imX2 0 rfl rfl 3 (by decide) (am 36 rfl) rfl ?_
  refine gc_v X (gr_VN (q0 := 3) (host := "SliceHeap") X dX2_walk_39 X.2.2.2.2.2.1 (k_follow l D F u2 hc2 h2.2.1) ⟨va_cnB 0 X.2.2.2.2.1 (gd0 (al 71 rfl)) rfl rfl rfl (X.2.2.2.2.2.2.2.1 _ (nw 5 rfl)) (X.2.2.2.2.1 _ (am 3 rfl)) (by decide +kernel) ⟨Nat.le_of_ble_eq_true rfl, Nat.le_of_ble_eq_true rfl⟩, (X.2.2.2.2.1 _ (am 70 rfl)), (X.2.2.2.2.1 _ (am 237 rfl))⟩ rfl rfl rfl rfl rfl (Nat.le_of_ble_eq_true rfl) ⟨Nat.le_of_ble_eq_true rfl, Nat.le_of_ble_eq_true rfl⟩) (fun u3 h3 => ?_)
  exact gg_vret X dX2_walk_42 hr hk u3 (Wd.of s0 h0.2.2.2 (by rw [← s0.1]; exact h1) (by rw [← s1.2.1, ← s1.2.2.1]; exact h2) h3 hinj) rfl (Nat.le_of_ble_eq_true rfl) (Nat.le_of_ble_eq_true rfl)
set_option maxHeartbeats 4000000 in
set_option maxRecDepth 100000 in
theorem k_room (l : Launch) (D : va_G) (F : CF) (u : CS) (hc : cOk F u) (n : Nat) (hn : n ≤ 22) : mG l yX2_hasRoomFor wX2_hasRoomFor ({ frames := 4, cells := 0, slots := 0, locals := 89 }) D vwCl (cT F) [.ref (kH F), .int (nI n)] (cW F u) (qI D vwCl (fun (x : Int32) (w : CS) => Wd u w ∧ ((rL w + n ≤ kC F ∧ x = 1) ∨ (¬ rL w + n ≤ kC F ∧ x = 0))) (cW F)) := by
  refine gg_met (cc := cX2_hasRoomFor) (nL := 2) (ret := (some .boolean)) (lv := [(0, .ref (kH F)), (1, .int (nI n))]) (by decide) rfl rfl (Nat.le_of_ble_eq_true rfl) ?_
  intro p_ e_ s_ m_ bl_ me_ cc_ A_ X hr hk hnm
  refine gg_aload_n X dX2_hasRoomFor_0 rfl 0 rfl ?_
  refine gc_v X (gr_V (q0 := 0) X dX2_hasRoomFor_1 X.2.2.2.2.2.1 (k_walk l D F u hc) (cwV 0 X.2.2.2.2.1 (gdV (al 56 rfl) (al 57 rfl) (al 232 rfl) (al 1 rfl) (al 58 rfl)) rfl rfl rfl (by decide +kernel) ⟨Nat.le_of_ble_eq_true rfl, Nat.le_of_ble_eq_true rfl⟩) rfl rfl rfl rfl rfl (Nat.le_of_ble_eq_true rfl) ⟨Nat.le_of_ble_eq_true rfl, Nat.le_of_ble_eq_true rfl⟩) (fun v hv => ?_)
  have hL : rL v ≤ 22 * nU u := by
    rw [hv.2.2.1]
    exact sm_top (fun i hi => by have := hc.2.2.2.2.2 i hi; omega)
  obtain ⟨c1, c2, c3, c4, c5, c6⟩ := id hc
  refine gg_aload_n X dX2_hasRoomFor_4 rfl 0 rfl ?_
  refine gg_get X dX2_hasRoomFor_5 imX2 0 rfl rfl 3 (by decide) (am 36 rfl) rfl ?_
  refine gg_getN (host := "SliceHeap") X dX2_hasRoomFor_8 imX0 3 rfl rfl 3 (by decide) (X.2.2.2.2.2.2.2.1 _ (nw 2 rfl)) rfl ?_
  refine gg_iload_n X dX2_hasRoomFor_11 rfl 1 rfl ?_
  refine gg_iadd X dX2_hasRoomFor_12 (nI_add _ _) ?_
  refine gg_aload_n X dX2_hasRoomFor_13 rfl 0 rfl ?_
  refine gg_get X dX2_hasRoomFor_14 imX2 0 rfl rfl 0 (by decide) (am 33 rfl) rfl ?_
  refine gg_icmp_gt (tgt := 24) X dX2_hasRoomFor_17 (by decide) (fun c_17 => ?_) (fun c_17 => ?_)
  · refine gg_iconst X dX2_hasRoomFor_24 (v := 0) (by decide) ?_
    exact gg_zret X dX2_hasRoomFor_25 hr hk rfl v (⟨hv, Or.inr ⟨fun h => nI_nlt h (by omega) c_17, rfl⟩⟩) rfl (Nat.le_of_ble_eq_true rfl) (Nat.le_of_ble_eq_true rfl)
  · refine gg_iconst X dX2_hasRoomFor_20 (v := 1) (by decide) ?_
    refine gg_goto (tgt := 25) X dX2_hasRoomFor_21 (by decide) ?_
    exact gg_zret X dX2_hasRoomFor_25 hr hk rfl v (⟨hv, Or.inl ⟨Nat.not_lt.mp (fun h => c_17 (nI_lt h (by omega))), rfl⟩⟩) rfl (Nat.le_of_ble_eq_true rfl) (Nat.le_of_ble_eq_true rfl)
set_option maxHeartbeats 4000000 in
set_option maxRecDepth 100000 in
theorem k_full (l : Launch) (D : va_G) (F : CF) (u : CS) : mG l yX2_tellFull wX2_tellFull ({ frames := 0, cells := 0, slots := 0, locals := 0 }) D vwCl (cT F) [.ref (kH F)] (cW F u) (qI D vwCl (fun (x : Int32) (w : CS) => x = 0 ∧ w = uF u (fU u + 1)) (cW F)) := by
  refine gg_met (cc := cX2_tellFull) (nL := 1) (ret := (some .int)) (lv := [(0, .ref (kH F))]) (by decide) rfl rfl (Nat.le_of_ble_eq_true rfl) ?_
  intro p_ e_ s_ m_ bl_ me_ cc_ A_ X hr hk hnm
  refine gg_aload_n X dX2_tellFull_0 rfl 0 rfl ?_
  refine gg_dup X dX2_tellFull_1 rfl ?_
  refine gg_get X dX2_tellFull_2 imX2 0 rfl rfl 6 (by decide) (am 39 rfl) rfl ?_
  refine gg_iconst X dX2_tellFull_5 (v := 1) (by decide) ?_
  refine gg_iadd X dX2_tellFull_6 (nI_1 _) ?_
  refine gg_put X dX2_tellFull_7 imX2 tyX2 tyX2_ok nmX2 0 rfl rfl 6 (by decide) (am 39 rfl) (ws' := cW F (uF u (fU u + 1))) (ty := .int) rfl (by decide +kernel) rfl rfl (Nat.le_of_ble_eq_true rfl) (rfl) ?_
  refine gg_iconst X dX2_tellFull_10 (v := 0) (by decide) ?_
  exact gg_iret X dX2_tellFull_11 hr hk (uF u (fU u + 1)) (⟨rfl, rfl⟩) rfl (Nat.le_of_ble_eq_true rfl) (Nat.le_of_ble_eq_true rfl)
set_option maxHeartbeats 4000000 in
set_option maxRecDepth 100000 in
theorem k_thingIn (l : Launch) (D : va_G) (F : CF) (u : CS) (hc : cOk F u) (r : Int32) : mG l yX2_thingIn wX2_thingIn ({ frames := 1, cells := 0, slots := 0, locals := 24 }) D vwCl (cT F) [.ref (kH F), .int r] (cW F u) (qQ D vwCl (fun (x : Option Nat) (w : CS) => w = u ∧ pTI u r x) (cW F)) := by
  refine gg_met (cc := cX2_thingIn) (nL := 2) (ret := (some (.object "SliceHeap$Thing"))) (lv := [(0, .ref (kH F)), (1, .int r)]) (by decide) rfl rfl (Nat.le_of_ble_eq_true rfl) ?_
  intro p_ e_ s_ m_ bl_ me_ cc_ A_ X hr hk hnm
  refine gg_iload_n X dX2_thingIn_0 rfl 1 rfl ?_
  refine gc_i X (gr_S X dX2_thingIn_1 X.2.2.2.2.2.1 (k_isR l D (cT F) (cW F u) r) (cwS 1 X.2.2.2.2.1 (gdS (al 50 rfl) (al 51 rfl) (al 1 rfl) (al 52 rfl)) rfl rfl rfl (by decide +kernel) ⟨Nat.le_of_ble_eq_true rfl, Nat.le_of_ble_eq_true rfl⟩) rfl rfl (Nat.le_of_ble_eq_true rfl) ⟨Nat.le_of_ble_eq_true rfl, Nat.le_of_ble_eq_true rfl⟩) (fun r_1 w_1 h_1 => ?_)
  refine gg_if_eq (tgt := 23) X dX2_thingIn_4 (by decide) (fun c_4 => ?_) (fun c_4 => ?_)
  · refine gg_null X dX2_thingIn_23 ?_
    exact gg_aret (r := none) X dX2_thingIn_24 hr hk u (⟨rfl, pTI.no (b01 h_1 c_4)⟩) rfl (Nat.le_of_ble_eq_true rfl) (Nat.le_of_ble_eq_true rfl)
  · obtain ⟨j, hj, rfl⟩ := b01' h_1 c_4
    refine gg_aload_n X dX2_thingIn_7 rfl 0 rfl ?_
    refine gg_get X dX2_thingIn_8 imX2 0 rfl rfl 3 (by decide) (am 36 rfl) rfl ?_
    refine gg_aload_n X dX2_thingIn_11 rfl 0 rfl ?_
    refine gg_get X dX2_thingIn_12 imX2 0 rfl rfl 1 (by decide) (am 34 rfl) rfl ?_
    refine gg_iload_n X dX2_thingIn_15 rfl 1 rfl ?_
    refine gg_lald X dX2_thingIn_16 1 0 rfl rfl j rfl hj (by decide) ?_
    refine gc_q X (gr_VN (q0 := 3) (host := "SliceHeap") X dX2_thingIn_17 X.2.2.2.2.2.1 (k_thingOf l D F u hc (rG u j)) ⟨va_cnB 1 X.2.2.2.2.1 (gd0 (al 65 rfl)) rfl rfl rfl (X.2.2.2.2.2.2.2.1 _ (nw 14 rfl)) (X.2.2.2.2.1 _ (am 3 rfl)) (by decide +kernel) ⟨Nat.le_of_ble_eq_true rfl, Nat.le_of_ble_eq_true rfl⟩, (X.2.2.2.2.1 _ (am 64 rfl)), (X.2.2.2.2.1 _ (am 235 rfl))⟩ rfl rfl rfl rfl rfl (Nat.le_of_ble_eq_true rfl) ⟨Nat.le_of_ble_eq_true rfl, Nat.le_of_ble_eq_true rfl⟩) (fun r_17 w_17 h_17 => ?_)
    obtain ⟨ew, h_17⟩ := h_17
    rw [ew]
    refine gg_goto (tgt := 24) X dX2_thingIn_20 (by decide) ?_
    exact gg_aret X dX2_thingIn_24 hr hk u (⟨rfl, pTI.of hj h_17⟩) rfl (Nat.le_of_ble_eq_true rfl) (Nat.le_of_ble_eq_true rfl)
set_option maxHeartbeats 4000000 in
set_option maxRecDepth 100000 in
theorem k_thingInit (l : Launch) (D : va_G) (F : CF) (q : Nat) : mG l yX1_init wX1_init ({ frames := 1, cells := 1, slots := 20, locals := 30 }) D vwCl (cT F) [.ref q] [(q, .inr (1, [.null, .int 0, .int 0]))] (qV D vwCl (fun (_ : Nat) => True) (fun q2 => [(q, .inr (1, [.ref q2, .int 0, .int 0])), (q2, .inl (kJ F, 20, .inr (.inl (fun _ => 0))))])) := by
  refine gg_met (cc := cX1_init) (nL := 1) (ret := none) (lv := [(0, .ref q)]) (by decide) rfl rfl (Nat.le_of_ble_eq_true rfl) ?_
  intro p_ e_ s_ m_ bl_ me_ cc_ A_ X hr hk hnm
  refine gg_aload_n X dX1_init_0 rfl 0 rfl ?_
  refine gg_objInit X dX1_init_1 (am 82 rfl) (am 12 rfl) (am 13 rfl) (Nat.le_of_ble_eq_true rfl) (Nat.le_of_ble_eq_true rfl) ?_
  refine gg_aload_n X dX1_init_4 rfl 0 rfl ?_
  refine gg_bipush X dX1_init_5 (v := nI 20) (by decide) ?_
  refine gg_newa X dX1_init_7 (ty := .long) rfl (fun _ h => by cases h) (am 32 rfl) 0 rfl 20 (a0 := (20, .inr (.inl (fun _ => 0)))) (fun _ => rfl) rfl (by decide) (by decide) (Nat.le_of_ble_eq_true rfl) (Nat.le_of_ble_eq_true rfl) (fun q2 => ?_)
  refine gg_putF X dX1_init_9 imX1 tyX1 tyX1_ok nmX1 0 rfl rfl 0 (by decide) (am 83 rfl) hnm rfl (ws' := [(q, .inr (1, [.ref q2, .int 0, .int 0])), (q2, .inl (kJ F, 20, .inr (.inl (fun _ => 0))))]) (ty := .array .long) rfl (by decide +kernel) rfl rfl (Nat.le_of_ble_eq_true rfl) (rfl) ?_
  exact gg_vret X dX1_init_12 hr hk q2 (trivial) rfl (Nat.le_of_ble_eq_true rfl) (Nat.le_of_ble_eq_true rfl)
set_option maxHeartbeats 4000000 in
set_option maxRecDepth 100000 in
theorem k_place (l : Launch) (D : va_G) (F : CF) (u : CS) (hc : cOk F u) (z : Nat) (hz : z ≤ 20) (x : Int64) (hroom : ∀ i, pFst F u i → i < kN F) : mG l yX0_place wX0_place ({ frames := 2, cells := 2, slots := 23, locals := 50 }) D vwCl (cT F) [.ref (kM F), .int (nI z), .long x] (cW F u) (qL D vwCl (fun (r : Int64) (w : CS) => ∃ i, r = oB i ∧ pPl F u z x i w) (cW F)) := by
  refine gg_met (cc := cX0_place) (nL := 5) (ret := (some .long)) (lv := [(0, .ref (kM F)), (1, .int (nI z)), (2, .long x)]) (by decide) rfl rfl (Nat.le_of_ble_eq_true rfl) ?_
  intro p_ e_ s_ m_ bl_ me_ cc_ A_ X hr hk hnm
  have hN := hc.N
  have hn := hc.n
  have h4 := hc.2.2.2.1
  refine gg_aload_n X dX0_place_0 rfl 0 rfl ?_
  refine gc_i X (gr_V (q0 := 3) X dX0_place_1 X.2.2.2.2.2.1 (k_first l D F u hc) (cwV 0 X.2.2.2.2.1 (gdV (al 75 rfl) (al 76 rfl) (al 239 rfl) (al 3 rfl) (al 77 rfl)) rfl rfl rfl (by decide +kernel) ⟨Nat.le_of_ble_eq_true rfl, Nat.le_of_ble_eq_true rfl⟩) rfl rfl rfl rfl rfl (Nat.le_of_ble_eq_true rfl) ⟨Nat.le_of_ble_eq_true rfl, Nat.le_of_ble_eq_true rfl⟩) (fun r_1 w_1 h_1 => ?_)
  obtain ⟨ew, i, er, hf⟩ := h_1
  rw [ew, er]
  have hiN := hroom i hf
  refine gg_istore X dX0_place_4 (by decide) rfl ?_
  refine gg_iload X dX0_place_6 0 rfl ?_
  refine gg_aload_n X dX0_place_8 rfl 1 rfl ?_
  refine gg_get X dX0_place_9 imX0 3 rfl rfl 0 (by decide) (am 24 rfl) rfl ?_
  refine gg_alen X dX0_place_12 4 1 rfl rfl (v := nI (kN F)) rfl ?_
  refine gg_icmp_lt (tgt := 20) X dX0_place_13 (by decide) (fun c_13 => ?_) (fun c_13 => ?_)
  · refine gg_aload_n X dX0_place_20 rfl 1 rfl ?_
    refine gg_get X dX0_place_21 imX0 3 rfl rfl 0 (by decide) (am 24 rfl) rfl ?_
    refine gg_iload X dX0_place_24 0 rfl ?_
    refine gg_aldq X dX0_place_26 4 1 rfl rfl i rfl hiN hN (r := rW (nU u) (tH u) i) rfl ?_
    refine gg_ifnonnull (tgt := 44) X dX0_place_27 (by decide) (fun a_27 c_27 => ?_) (fun c_27 => ?_)
    · obtain ⟨hi, -⟩ := rW_some c_27
      refine gg_aload_n X dX0_place_44 rfl 1 rfl ?_
      refine gg_get X dX0_place_45 imX0 3 rfl rfl 0 (by decide) (am 24 rfl) rfl ?_
      refine gg_iload X dX0_place_48 0 rfl ?_
      refine gg_aldq X dX0_place_50 4 1 rfl rfl i rfl hiN hN (r := some (tH u i)) (rW_lt hi) ?_
      refine gg_iload_n X dX0_place_51 rfl 2 rfl ?_
      refine gg_lload_n X dX0_place_52 rfl 3 rfl ?_
      refine gc_v X (gr_VN (q0 := (2 * i + 6)) (host := "SliceHeap") X dX0_place_53 X.2.2.2.2.2.1 (k_fill l D F u hc i hi z hz x) ⟨va_cnB 2 X.2.2.2.2.1 (gd0 (al 89 rfl)) rfl rfl rfl (X.2.2.2.2.2.2.2.1 _ (nw 13 rfl)) (X.2.2.2.2.1 _ (am 5 rfl)) (by decide +kernel) ⟨Nat.le_of_ble_eq_true rfl, Nat.le_of_ble_eq_true rfl⟩, (X.2.2.2.2.1 _ (am 88 rfl)), (X.2.2.2.2.1 _ (am 240 rfl))⟩ (cW_th F u hi) rfl rfl rfl rfl (Nat.le_of_ble_eq_true rfl) ⟨Nat.le_of_ble_eq_true rfl, Nat.le_of_ble_eq_true rfl⟩) (fun w_53 h_53 => ?_)
      refine gg_ldc2 X (v := 4294967297) (am 66 rfl) dX0_place_56 ?_
      refine gg_iload X dX0_place_59 0 rfl ?_
      refine gg_i2l X dX0_place_61 (v := lN i) (nI_l (by omega)) ?_
      refine gg_ladd X dX0_place_62 (oB_add _) ?_
      exact gg_lret X dX0_place_63 hr hk w_53 (⟨i, rfl, pPl.old hc hi (hf.2.2.2 hiN hi) h_53⟩) rfl (Nat.le_of_ble_eq_true rfl) (Nat.le_of_ble_eq_true rfl)
    · have hi := rW_none c_27
      have ei : i = nU u := by have := hf.2.1; omega
      subst ei
      refine gg_aload_n X dX0_place_30 rfl 1 rfl ?_
      refine gg_get X dX0_place_31 imX0 3 rfl rfl 0 (by decide) (am 24 rfl) rfl ?_
      refine gg_iload X dX0_place_34 0 rfl ?_
      refine gg_new (C := RX1) (T := TX1) (N' := 3) (ci := 1) X dX0_place_36 imX1 tyX1 tyX1_ok (am 23 rfl) (am 79 rfl) (am 5 rfl) rfl (fs := [.null, .int 0, .int 0]) (fun j hj => by rcases (show j = 0 ∨ j = 1 ∨ j = 2 by omega) with rfl | rfl | rfl <;> rfl) (Nat.le_of_ble_eq_true rfl) (Nat.le_of_ble_eq_true rfl) (fun q => ?_)
      refine gg_dup X dX0_place_39 rfl ?_
      refine gc_vR X (gr_IN (host := "SliceHeap") X dX0_place_40 X.2.2.2.2.2.1 (k_thingInit l D F q) ⟨va_cnB 0 X.2.2.2.2.1 (gd0 (al 81 rfl)) rfl rfl rfl (X.2.2.2.2.2.2.2.1 _ (nw 7 rfl)) (X.2.2.2.2.1 _ (am 5 rfl)) (by decide +kernel) ⟨Nat.le_of_ble_eq_true rfl, Nat.le_of_ble_eq_true rfl⟩, rfl, (X.2.2.2.2.1 _ (am 80 rfl))⟩ rfl rfl (Nat.le_of_ble_eq_true rfl) ⟨Nat.le_of_ble_eq_true rfl, Nat.le_of_ble_eq_true rfl⟩) (fun q2 h_40 => ?_)
      refine gg_astq X dX0_place_43 4 1 (2 * nU u + 6) 1 (cW_at4 F u _) rfl (cW_newat F u q q2) rfl (nU u) rfl (by omega) hN (ws' := cW F (uP u (nU u + 1) (va_up (tH u) (nU u) q) (va_up (aR u) (nU u) q2) (va_up (sZ u) (nU u) 0) (va_up (rC u) (nU u) false) (va_up (vS u) (nU u) (fun _ => 0)))) (cW_new F u q q2) ?_
      refine gg_aload_n X dX0_place_44 rfl 1 rfl ?_
      refine gg_get X dX0_place_45 imX0 3 rfl rfl 0 (by decide) (am 24 rfl) rfl ?_
      refine gg_iload X dX0_place_48 0 rfl ?_
      refine gg_aldq X dX0_place_50 4 1 rfl rfl (nU u) rfl hiN hN (r := some (va_up (tH u) (nU u) q (nU u))) (rW_lt (Nat.lt_succ_self _)) ?_
      refine gg_iload_n X dX0_place_51 rfl 2 rfl ?_
      refine gg_lload_n X dX0_place_52 rfl 3 rfl ?_
      refine gc_v X (gr_VN (q0 := (2 * nU u + 6)) (host := "SliceHeap") X dX0_place_53 X.2.2.2.2.2.1 (k_fill l D F (uP u (nU u + 1) (va_up (tH u) (nU u) q) (va_up (aR u) (nU u) q2) (va_up (sZ u) (nU u) 0) (va_up (rC u) (nU u) false) (va_up (vS u) (nU u) (fun _ => 0))) (hc.grow hiN) (nU u) (Nat.lt_succ_self _) z hz x) ⟨va_cnB 2 X.2.2.2.2.1 (gd0 (al 89 rfl)) rfl rfl rfl (X.2.2.2.2.2.2.2.1 _ (nw 13 rfl)) (X.2.2.2.2.1 _ (am 5 rfl)) (by decide +kernel) ⟨Nat.le_of_ble_eq_true rfl, Nat.le_of_ble_eq_true rfl⟩, (X.2.2.2.2.1 _ (am 88 rfl)), (X.2.2.2.2.1 _ (am 240 rfl))⟩ (cW_th F _ (Nat.lt_succ_self _)) rfl rfl rfl rfl (Nat.le_of_ble_eq_true rfl) ⟨Nat.le_of_ble_eq_true rfl, Nat.le_of_ble_eq_true rfl⟩) (fun w_53 h_53 => ?_)
      refine gg_ldc2 X (v := 4294967297) (am 66 rfl) dX0_place_56 ?_
      refine gg_iload X dX0_place_59 0 rfl ?_
      refine gg_i2l X dX0_place_61 (v := lN (nU u)) (nI_l (by omega)) ?_
      refine gg_ladd X dX0_place_62 (oB_add _) ?_
      exact gg_lret X dX0_place_63 hr hk w_53 (⟨nU u, rfl, pPl.new hiN h_53⟩) rfl (Nat.le_of_ble_eq_true rfl) (Nat.le_of_ble_eq_true rfl)
  · exact absurd ((nI_ltI (by omega) (by omega)).mpr hiN) c_13
end
section
set_option maxHeartbeats 4000000 in
set_option maxRecDepth 100000 in
theorem k_number (l : Launch) (D : va_G) (F : CF) (u : CS) (r v : Int32) : mG l yX2_number wX2_number ({ frames := 1, cells := 0, slots := 0, locals := 20 }) D vwCl (cT F) [.ref (kH F), .int r, .int v] (cW F u) (qI D vwCl (fun (x : Int32) (w : CS) => cpNum u r v x w) (cW F)) := by
  refine gg_met (cc := cX2_number) (nL := 3) (ret := (some .boolean)) (lv := [(0, .ref (kH F)), (1, .int r), (2, .int v)]) (by decide) rfl rfl (Nat.le_of_ble_eq_true rfl) ?_
  intro p_ e_ s_ m_ bl_ me_ cc_ A_ X hr hk hnm
  refine gg_iload_n X dX2_number_0 rfl 1 rfl ?_
  refine gc_i X (gr_S X dX2_number_1 X.2.2.2.2.2.1 (k_isR l D (cT F) (cW F u) r) (cwS 1 X.2.2.2.2.1 (gdS (al 50 rfl) (al 51 rfl) (al 1 rfl) (al 52 rfl)) rfl rfl rfl (by decide +kernel) ⟨Nat.le_of_ble_eq_true rfl, Nat.le_of_ble_eq_true rfl⟩) rfl rfl (Nat.le_of_ble_eq_true rfl) ⟨Nat.le_of_ble_eq_true rfl, Nat.le_of_ble_eq_true rfl⟩) (fun r_1 w_1 h_1 => ?_)
  refine gg_if_ne (tgt := 9) X dX2_number_4 (by decide) (fun c_4 => ?_) (fun c_4 => ?_)
  · obtain ⟨j, hj, rfl⟩ := b01' h_1 c_4
    refine gg_aload_n X dX2_number_9 rfl 0 rfl ?_
    refine gg_get X dX2_number_10 imX2 0 rfl rfl 1 (by decide) (am 34 rfl) rfl ?_
    refine gg_iload_n X dX2_number_13 rfl 1 rfl ?_
    refine gg_iload_n X dX2_number_14 rfl 2 rfl ?_
    refine gg_i2l X dX2_number_15 rfl ?_
    refine gg_last X dX2_number_16 1 0 rfl rfl j rfl hj (by decide) (ws' := cW F (uR u (vp_updL (rG u) j v.toInt64))) rfl ?_
    refine gg_iconst X dX2_number_17 (v := 1) (by decide) ?_
    exact gg_zret X dX2_number_18 hr hk rfl (uR u (vp_updL (rG u) j v.toInt64)) (Or.inl ⟨j, hj, rfl, rfl, rfl⟩) rfl (Nat.le_of_ble_eq_true rfl) (Nat.le_of_ble_eq_true rfl)
  · refine gg_iconst X dX2_number_7 (v := 0) (by decide) ?_
    exact gg_zret X dX2_number_8 hr hk rfl u (Or.inr ⟨b01 h_1 c_4, rfl, rfl⟩) rfl (Nat.le_of_ble_eq_true rfl) (Nat.le_of_ble_eq_true rfl)
set_option maxHeartbeats 4000000 in
set_option maxRecDepth 100000 in
theorem k_copy (l : Launch) (D : va_G) (F : CF) (u : CS) (r s : Int32) : mG l yX2_copy wX2_copy ({ frames := 1, cells := 0, slots := 0, locals := 20 }) D vwCl (cT F) [.ref (kH F), .int r, .int s] (cW F u) (qI D vwCl (fun (x : Int32) (w : CS) => cpCopy u r s x w) (cW F)) := by
  refine gg_met (cc := cX2_copy) (nL := 3) (ret := (some .boolean)) (lv := [(0, .ref (kH F)), (1, .int r), (2, .int s)]) (by decide) rfl rfl (Nat.le_of_ble_eq_true rfl) ?_
  intro p_ e_ s_ m_ bl_ me_ cc_ A_ X hr hk hnm
  refine gg_iload_n X dX2_copy_0 rfl 1 rfl ?_
  refine gc_i X (gr_S X dX2_copy_1 X.2.2.2.2.2.1 (k_isR l D (cT F) (cW F u) r) (cwS 1 X.2.2.2.2.1 (gdS (al 50 rfl) (al 51 rfl) (al 1 rfl) (al 52 rfl)) rfl rfl rfl (by decide +kernel) ⟨Nat.le_of_ble_eq_true rfl, Nat.le_of_ble_eq_true rfl⟩) rfl rfl (Nat.le_of_ble_eq_true rfl) ⟨Nat.le_of_ble_eq_true rfl, Nat.le_of_ble_eq_true rfl⟩) (fun r_1 w_1 h_1 => ?_)
  refine gg_if_eq (tgt := 19) X dX2_copy_4 (by decide) (fun c_4 => ?_) (fun c_4 => ?_)
  · refine gg_iconst X dX2_copy_19 (v := 0) (by decide) ?_
    exact gg_zret X dX2_copy_20 hr hk rfl u (Or.inr ⟨Or.inl (b01 h_1 c_4), rfl, rfl⟩) rfl (Nat.le_of_ble_eq_true rfl) (Nat.le_of_ble_eq_true rfl)
  · obtain ⟨j, hj, rfl⟩ := b01' h_1 c_4
    refine gg_iload_n X dX2_copy_7 rfl 2 rfl ?_
    refine gg_iconst X dX2_copy_8 (v := (-1)) (by decide) ?_
    refine gg_icmp_eq (tgt := 21) X dX2_copy_9 (by decide) (fun c_9 => ?_) (fun c_9 => ?_)
    · refine gg_aload_n X dX2_copy_21 rfl 0 rfl ?_
      refine gg_get X dX2_copy_22 imX2 0 rfl rfl 1 (by decide) (am 34 rfl) rfl ?_
      refine gg_iload_n X dX2_copy_25 rfl 1 rfl ?_
      refine gg_iload_n X dX2_copy_26 rfl 2 rfl ?_
      refine gg_iconst X dX2_copy_27 (v := (-1)) (by decide) ?_
      refine gg_icmp_ne (tgt := 37) X dX2_copy_28 (by decide) (fun c_28 => ?_) (fun c_28 => ?_)
      · exact absurd c_9 c_28
      · refine gg_ldc2 X (v := 4294967296) (am 14 rfl) dX2_copy_31 ?_
        refine gg_goto (tgt := 43) X dX2_copy_34 (by decide) ?_
        refine gg_last X dX2_copy_43 1 0 rfl rfl j rfl hj (by decide) (ws' := cW F (uR u (vp_updL (rG u) j nO))) rfl ?_
        refine gg_iconst X dX2_copy_44 (v := 1) (by decide) ?_
        exact gg_zret X dX2_copy_45 hr hk rfl (uR u (vp_updL (rG u) j nO)) (Or.inl ⟨j, hj, rfl, rfl, Or.inl ⟨c_28, rfl⟩⟩) rfl (Nat.le_of_ble_eq_true rfl) (Nat.le_of_ble_eq_true rfl)
    · refine gg_iload_n X dX2_copy_12 rfl 2 rfl ?_
      refine gc_i X (gr_S X dX2_copy_13 X.2.2.2.2.2.1 (k_isR l D (cT F) (cW F u) s) (cwS 1 X.2.2.2.2.1 (gdS (al 50 rfl) (al 51 rfl) (al 1 rfl) (al 52 rfl)) rfl rfl rfl (by decide +kernel) ⟨Nat.le_of_ble_eq_true rfl, Nat.le_of_ble_eq_true rfl⟩) rfl rfl (Nat.le_of_ble_eq_true rfl) ⟨Nat.le_of_ble_eq_true rfl, Nat.le_of_ble_eq_true rfl⟩) (fun r_13 w_13 h_13 => ?_)
      refine gg_if_ne (tgt := 21) X dX2_copy_16 (by decide) (fun c_16 => ?_) (fun c_16 => ?_)
      · refine gg_aload_n X dX2_copy_21 rfl 0 rfl ?_
        refine gg_get X dX2_copy_22 imX2 0 rfl rfl 1 (by decide) (am 34 rfl) rfl ?_
        refine gg_iload_n X dX2_copy_25 rfl 1 rfl ?_
        refine gg_iload_n X dX2_copy_26 rfl 2 rfl ?_
        refine gg_iconst X dX2_copy_27 (v := (-1)) (by decide) ?_
        refine gg_icmp_ne (tgt := 37) X dX2_copy_28 (by decide) (fun c_28 => ?_) (fun c_28 => ?_)
        · refine gg_aload_n X dX2_copy_37 rfl 0 rfl ?_
          refine gg_get X dX2_copy_38 imX2 0 rfl rfl 1 (by decide) (am 34 rfl) rfl ?_
          refine gg_iload_n X dX2_copy_41 rfl 2 rfl ?_
          obtain ⟨k, hk2, rfl⟩ := b01' h_13 c_16
          refine gg_lald X dX2_copy_42 1 0 rfl rfl k rfl hk2 (by decide) ?_
          refine gg_last X dX2_copy_43 1 0 rfl rfl j rfl hj (by decide) (ws' := cW F (uR u (vp_updL (rG u) j (rG u k)))) rfl ?_
          refine gg_iconst X dX2_copy_44 (v := 1) (by decide) ?_
          exact gg_zret X dX2_copy_45 hr hk rfl (uR u (vp_updL (rG u) j (rG u k))) (Or.inl ⟨j, hj, rfl, rfl, Or.inr ⟨c_28, k, hk2, rfl, rfl⟩⟩) rfl (Nat.le_of_ble_eq_true rfl) (Nat.le_of_ble_eq_true rfl)
        · exact absurd c_28 c_9
      · refine gg_iconst X dX2_copy_19 (v := 0) (by decide) ?_
        exact gg_zret X dX2_copy_20 hr hk rfl u (Or.inr ⟨Or.inr ⟨c_9, b01 h_13 c_16⟩, rfl, rfl⟩) rfl (Nat.le_of_ble_eq_true rfl) (Nat.le_of_ble_eq_true rfl)
set_option maxHeartbeats 4000000 in
set_option maxRecDepth 100000 in
theorem k_get (l : Launch) (D : va_G) (F : CF) (u : CS) (hc : cOk F u) (r s k : Int32) : mG l yX2_get wX2_get ({ frames := 2, cells := 0, slots := 0, locals := 45 }) D vwCl (cT F) [.ref (kH F), .int r, .int s, .int k] (cW F u) (qI D vwCl (fun (x : Int32) (w : CS) => cpGet u r s k x w) (cW F)) := by
  refine gg_met (cc := cX2_get) (nL := 5) (ret := (some .boolean)) (lv := [(0, .ref (kH F)), (1, .int r), (2, .int s), (3, .int k)]) (by decide) rfl rfl (Nat.le_of_ble_eq_true rfl) ?_
  intro p_ e_ s_ m_ bl_ me_ cc_ A_ X hr hk hnm
  refine gg_aload_n X dX2_get_0 rfl 0 rfl ?_
  refine gg_iload_n X dX2_get_1 rfl 2 rfl ?_
  refine gc_q X (gr_V (q0 := 0) X dX2_get_2 X.2.2.2.2.2.1 (k_thingIn l D F u hc s) (cwV 1 X.2.2.2.2.1 (gdV (al 96 rfl) (al 97 rfl) (al 242 rfl) (al 1 rfl) (al 98 rfl)) rfl rfl rfl (by decide +kernel) ⟨Nat.le_of_ble_eq_true rfl, Nat.le_of_ble_eq_true rfl⟩) rfl rfl rfl rfl rfl (Nat.le_of_ble_eq_true rfl) ⟨Nat.le_of_ble_eq_true rfl, Nat.le_of_ble_eq_true rfl⟩) (fun x_2 w_2 h_2 => ?_)
  obtain ⟨ew, h_2⟩ := h_2
  rw [ew]
  rcases h_2 with ⟨j, i, hj, ej, hi, hri, hx⟩ | ⟨hno, hx⟩
  · subst hx
    subst ej
    refine gg_astore X dX2_get_5 (by decide) rfl ?_
    refine gg_iload_n X dX2_get_7 rfl 2 rfl ?_
    refine gc_i X (gr_S X dX2_get_8 X.2.2.2.2.2.1 (k_isR l D (cT F) (cW F u) r) (cwS 1 X.2.2.2.2.1 (gdS (al 50 rfl) (al 51 rfl) (al 1 rfl) (al 52 rfl)) rfl rfl rfl (by decide +kernel) ⟨Nat.le_of_ble_eq_true rfl, Nat.le_of_ble_eq_true rfl⟩) rfl rfl (Nat.le_of_ble_eq_true rfl) ⟨Nat.le_of_ble_eq_true rfl, Nat.le_of_ble_eq_true rfl⟩) (fun r_8 w_8 h_8 => ?_)
    refine gg_if_eq (tgt := 28) X dX2_get_11 (by decide) (fun c_11 => ?_) (fun c_11 => ?_)
    · refine gg_iconst X dX2_get_28 (v := 0) (by decide) ?_
      exact gg_zret X dX2_get_29 hr hk rfl u (Or.inr ⟨fun ⟨j', a', i', q', g1, g2, _⟩ => b01 h_8 c_11 ⟨j', g1, g2⟩, rfl, rfl⟩) rfl (Nat.le_of_ble_eq_true rfl) (Nat.le_of_ble_eq_true rfl)
    · obtain ⟨b, hb, rfl⟩ := b01' h_8 c_11
      refine gg_aload X dX2_get_14 0 rfl ?_
      refine gg_ifnullS X dX2_get_16 ?_
      refine gg_aload X dX2_get_19 0 rfl ?_
      refine gg_iload_n X dX2_get_21 rfl 4 rfl ?_
      refine gc_i X (gr_VN (q0 := (2 * i + 6)) (host := "SliceHeap") X dX2_get_22 X.2.2.2.2.2.1 (k_hasValue l D F u hc i hi k) ⟨va_cnB 1 X.2.2.2.2.1 (gd0 (al 112 rfl)) rfl rfl rfl (X.2.2.2.2.2.2.2.1 _ (nw 15 rfl)) (X.2.2.2.2.1 _ (am 5 rfl)) (by decide +kernel) ⟨Nat.le_of_ble_eq_true rfl, Nat.le_of_ble_eq_true rfl⟩, (X.2.2.2.2.1 _ (am 111 rfl)), (X.2.2.2.2.1 _ (am 243 rfl))⟩ (cW_th F u hi) rfl rfl rfl rfl (Nat.le_of_ble_eq_true rfl) ⟨Nat.le_of_ble_eq_true rfl, Nat.le_of_ble_eq_true rfl⟩) (fun r_22 w_22 h_22 => ?_)
      obtain ⟨ew2, h_22⟩ := h_22
      rw [ew2]
      refine gg_if_ne (tgt := 30) X dX2_get_25 (by decide) (fun c_25 => ?_) (fun c_25 => ?_)
      · obtain ⟨q, hq, rfl⟩ := b01' h_22 c_25
        refine gg_aload_n X dX2_get_30 rfl 1 rfl ?_
        refine gg_get X dX2_get_31 imX2 0 rfl rfl 1 (by decide) (am 34 rfl) rfl ?_
        refine gg_iload_n X dX2_get_34 rfl 2 rfl ?_
        refine gg_aload X dX2_get_35 0 rfl ?_
        refine gg_getN (host := "SliceHeap") X dX2_get_37 imX1 (2 * i + 6) (cW_th _ _ hi) rfl 0 (by decide) (X.2.2.2.2.2.2.2.1 _ (nw 8 rfl)) rfl ?_
        refine gg_iload_n X dX2_get_40 rfl 4 rfl ?_
        refine gg_lald X dX2_get_41 (2 * i + 7) 0 (cW_ar F u hi) rfl q rfl (by have h20 := hc.2.2.2.2.2 i hi; omega) (by decide) ?_
        refine gg_last X dX2_get_42 1 0 rfl rfl b rfl hb (by decide) (ws' := cW F (uR u (vp_updL (rG u) b (vS u i q)))) rfl ?_
        refine gg_iconst X dX2_get_43 (v := 1) (by decide) ?_
        exact gg_zret X dX2_get_44 hr hk rfl (uR u (vp_updL (rG u) b (vS u i q))) (Or.inl ⟨b, j, i, q, ⟨hb, rfl, hj, rfl, hi, hri, hq, rfl⟩, rfl, rfl⟩) rfl (Nat.le_of_ble_eq_true rfl) (Nat.le_of_ble_eq_true rfl)
      · refine gg_iconst X dX2_get_28 (v := 0) (by decide) ?_
        exact gg_zret X dX2_get_29 hr hk rfl u (Or.inr ⟨fun ⟨j', a', i', q', g1, g2, g3, g4, g5, g6, g7, g8⟩ => b01 h_22 c_25 ⟨q', by
            have e1 := r_inj (by omega) (by omega) g4
            subst e1
            have e2 := ob_eq hc hi g5 hri g6
            subst e2
            exact g7, g8⟩, rfl, rfl⟩) rfl (Nat.le_of_ble_eq_true rfl) (Nat.le_of_ble_eq_true rfl)
  · subst hx
    refine gg_astoreN X dX2_get_5 (by decide) rfl ?_
    refine gg_iload_n X dX2_get_7 rfl 2 rfl ?_
    refine gc_i X (gr_S X dX2_get_8 X.2.2.2.2.2.1 (k_isR l D (cT F) (cW F u) r) (cwS 1 X.2.2.2.2.1 (gdS (al 50 rfl) (al 51 rfl) (al 1 rfl) (al 52 rfl)) rfl rfl rfl (by decide +kernel) ⟨Nat.le_of_ble_eq_true rfl, Nat.le_of_ble_eq_true rfl⟩) rfl rfl (Nat.le_of_ble_eq_true rfl) ⟨Nat.le_of_ble_eq_true rfl, Nat.le_of_ble_eq_true rfl⟩) (fun r_8 w_8 h_8 => ?_)
    refine gg_if_eq (tgt := 28) X dX2_get_11 (by decide) (fun c_11 => ?_) (fun c_11 => ?_)
    · refine gg_iconst X dX2_get_28 (v := 0) (by decide) ?_
      exact gg_zret X dX2_get_29 hr hk rfl u (Or.inr ⟨fun ⟨j', a', i', q', g1, g2, _⟩ => b01 h_8 c_11 ⟨j', g1, g2⟩, rfl, rfl⟩) rfl (Nat.le_of_ble_eq_true rfl) (Nat.le_of_ble_eq_true rfl)
    · obtain ⟨b, hb, rfl⟩ := b01' h_8 c_11
      refine gg_aloadN X dX2_get_14 0 rfl ?_
      refine gg_ifnullZ (tgt := 28) X dX2_get_16 (by decide) ?_
      refine gg_iconst X dX2_get_28 (v := 0) (by decide) ?_
      exact gg_zret X dX2_get_29 hr hk rfl u (Or.inr ⟨fun ⟨j', a', i', q', g1, g2, g3, g4, g5, g6, _⟩ => hno a' i' g3 g4 g5 g6, rfl, rfl⟩) rfl (Nat.le_of_ble_eq_true rfl) (Nat.le_of_ble_eq_true rfl)
set_option maxHeartbeats 4000000 in
set_option maxRecDepth 100000 in
theorem k_set (l : Launch) (D : va_G) (F : CF) (u : CS) (hc : cOk F u) (r k s : Int32) : mG l yX2_set wX2_set ({ frames := 2, cells := 0, slots := 0, locals := 45 }) D vwCl (cT F) [.ref (kH F), .int r, .int k, .int s] (cW F u) (qI D vwCl (fun (x : Int32) (w : CS) => cpSet u r k s x w) (cW F)) := by
  refine gg_met (cc := cX2_set) (nL := 5) (ret := (some .boolean)) (lv := [(0, .ref (kH F)), (1, .int r), (2, .int k), (3, .int s)]) (by decide) rfl rfl (Nat.le_of_ble_eq_true rfl) ?_
  intro p_ e_ s_ m_ bl_ me_ cc_ A_ X hr hk hnm
  refine gg_aload_n X dX2_set_0 rfl 0 rfl ?_
  refine gg_iload_n X dX2_set_1 rfl 1 rfl ?_
  refine gc_q X (gr_V (q0 := 0) X dX2_set_2 X.2.2.2.2.2.1 (k_thingIn l D F u hc r) (cwV 1 X.2.2.2.2.1 (gdV (al 96 rfl) (al 97 rfl) (al 242 rfl) (al 1 rfl) (al 98 rfl)) rfl rfl rfl (by decide +kernel) ⟨Nat.le_of_ble_eq_true rfl, Nat.le_of_ble_eq_true rfl⟩) rfl rfl rfl rfl rfl (Nat.le_of_ble_eq_true rfl) ⟨Nat.le_of_ble_eq_true rfl, Nat.le_of_ble_eq_true rfl⟩) (fun x_2 w_2 h_2 => ?_)
  obtain ⟨ew, h_2⟩ := h_2
  rw [ew]
  rcases h_2 with ⟨j, i, hj, ej, hi, hri, hx⟩ | ⟨hno, hx⟩
  · subst hx
    subst ej
    refine gg_astore X dX2_set_5 (by decide) rfl ?_
    refine gg_iload_n X dX2_set_7 rfl 4 rfl ?_
    refine gc_i X (gr_S X dX2_set_8 X.2.2.2.2.2.1 (k_isR l D (cT F) (cW F u) s) (cwS 1 X.2.2.2.2.1 (gdS (al 50 rfl) (al 51 rfl) (al 1 rfl) (al 52 rfl)) rfl rfl rfl (by decide +kernel) ⟨Nat.le_of_ble_eq_true rfl, Nat.le_of_ble_eq_true rfl⟩) rfl rfl (Nat.le_of_ble_eq_true rfl) ⟨Nat.le_of_ble_eq_true rfl, Nat.le_of_ble_eq_true rfl⟩) (fun r_8 w_8 h_8 => ?_)
    refine gg_if_eq (tgt := 28) X dX2_set_11 (by decide) (fun c_11 => ?_) (fun c_11 => ?_)
    · refine gg_iconst X dX2_set_28 (v := 0) (by decide) ?_
      exact gg_zret X dX2_set_29 hr hk rfl u (Or.inr ⟨fun ⟨j', a', i', q', g1, g2, _⟩ => b01 h_8 c_11 ⟨j', g1, g2⟩, rfl, rfl⟩) rfl (Nat.le_of_ble_eq_true rfl) (Nat.le_of_ble_eq_true rfl)
    · obtain ⟨b, hb, rfl⟩ := b01' h_8 c_11
      refine gg_aload X dX2_set_14 0 rfl ?_
      refine gg_ifnullS X dX2_set_16 ?_
      refine gg_aload X dX2_set_19 0 rfl ?_
      refine gg_iload_n X dX2_set_21 rfl 3 rfl ?_
      refine gc_i X (gr_VN (q0 := (2 * i + 6)) (host := "SliceHeap") X dX2_set_22 X.2.2.2.2.2.1 (k_hasValue l D F u hc i hi k) ⟨va_cnB 1 X.2.2.2.2.1 (gd0 (al 112 rfl)) rfl rfl rfl (X.2.2.2.2.2.2.2.1 _ (nw 15 rfl)) (X.2.2.2.2.1 _ (am 5 rfl)) (by decide +kernel) ⟨Nat.le_of_ble_eq_true rfl, Nat.le_of_ble_eq_true rfl⟩, (X.2.2.2.2.1 _ (am 111 rfl)), (X.2.2.2.2.1 _ (am 243 rfl))⟩ (cW_th F u hi) rfl rfl rfl rfl (Nat.le_of_ble_eq_true rfl) ⟨Nat.le_of_ble_eq_true rfl, Nat.le_of_ble_eq_true rfl⟩) (fun r_22 w_22 h_22 => ?_)
      obtain ⟨ew2, h_22⟩ := h_22
      rw [ew2]
      refine gg_if_ne (tgt := 30) X dX2_set_25 (by decide) (fun c_25 => ?_) (fun c_25 => ?_)
      · obtain ⟨q, hq, rfl⟩ := b01' h_22 c_25
        refine gg_aload X dX2_set_30 0 rfl ?_
        refine gg_getN (host := "SliceHeap") X dX2_set_32 imX1 (2 * i + 6) (cW_th _ _ hi) rfl 0 (by decide) (X.2.2.2.2.2.2.2.1 _ (nw 8 rfl)) rfl ?_
        refine gg_iload_n X dX2_set_35 rfl 3 rfl ?_
        refine gg_aload_n X dX2_set_36 rfl 1 rfl ?_
        refine gg_get X dX2_set_37 imX2 0 rfl rfl 1 (by decide) (am 34 rfl) rfl ?_
        refine gg_iload_n X dX2_set_40 rfl 4 rfl ?_
        refine gg_lald X dX2_set_41 1 0 rfl rfl b rfl hb (by decide) ?_
        refine gg_last X dX2_set_42 (2 * i + 7) 0 (cW_ar F u hi) rfl q rfl (by have h20 := hc.2.2.2.2.2 i hi; omega) (by decide) (ws' := cW F (uZ u (sZ u) (rC u) (va_up (vS u) i (vp_updL (vS u i) q (rG u b))))) (cW_setA F u _ hi) ?_
        refine gg_iconst X dX2_set_43 (v := 1) (by decide) ?_
        exact gg_zret X dX2_set_44 hr hk rfl (uZ u (sZ u) (rC u) (va_up (vS u) i (vp_updL (vS u i) q (rG u b)))) (Or.inl ⟨b, j, i, q, ⟨hb, rfl, hj, rfl, hi, hri, hq, rfl⟩, rfl, rfl⟩) rfl (Nat.le_of_ble_eq_true rfl) (Nat.le_of_ble_eq_true rfl)
      · refine gg_iconst X dX2_set_28 (v := 0) (by decide) ?_
        exact gg_zret X dX2_set_29 hr hk rfl u (Or.inr ⟨fun ⟨j', a', i', q', g1, g2, g3, g4, g5, g6, g7, g8⟩ => b01 h_22 c_25 ⟨q', by
            have e1 := r_inj (by omega) (by omega) g4
            subst e1
            have e2 := ob_eq hc hi g5 hri g6
            subst e2
            exact g7, g8⟩, rfl, rfl⟩) rfl (Nat.le_of_ble_eq_true rfl) (Nat.le_of_ble_eq_true rfl)
  · subst hx
    refine gg_astoreN X dX2_set_5 (by decide) rfl ?_
    refine gg_iload_n X dX2_set_7 rfl 4 rfl ?_
    refine gc_i X (gr_S X dX2_set_8 X.2.2.2.2.2.1 (k_isR l D (cT F) (cW F u) s) (cwS 1 X.2.2.2.2.1 (gdS (al 50 rfl) (al 51 rfl) (al 1 rfl) (al 52 rfl)) rfl rfl rfl (by decide +kernel) ⟨Nat.le_of_ble_eq_true rfl, Nat.le_of_ble_eq_true rfl⟩) rfl rfl (Nat.le_of_ble_eq_true rfl) ⟨Nat.le_of_ble_eq_true rfl, Nat.le_of_ble_eq_true rfl⟩) (fun r_8 w_8 h_8 => ?_)
    refine gg_if_eq (tgt := 28) X dX2_set_11 (by decide) (fun c_11 => ?_) (fun c_11 => ?_)
    · refine gg_iconst X dX2_set_28 (v := 0) (by decide) ?_
      exact gg_zret X dX2_set_29 hr hk rfl u (Or.inr ⟨fun ⟨j', a', i', q', g1, g2, _⟩ => b01 h_8 c_11 ⟨j', g1, g2⟩, rfl, rfl⟩) rfl (Nat.le_of_ble_eq_true rfl) (Nat.le_of_ble_eq_true rfl)
    · obtain ⟨b, hb, rfl⟩ := b01' h_8 c_11
      refine gg_aloadN X dX2_set_14 0 rfl ?_
      refine gg_ifnullZ (tgt := 28) X dX2_set_16 (by decide) ?_
      refine gg_iconst X dX2_set_28 (v := 0) (by decide) ?_
      exact gg_zret X dX2_set_29 hr hk rfl u (Or.inr ⟨fun ⟨j', a', i', q', g1, g2, g3, g4, g5, g6, _⟩ => hno a' i' g3 g4 g5 g6, rfl, rfl⟩) rfl (Nat.le_of_ble_eq_true rfl) (Nat.le_of_ble_eq_true rfl)
set_option maxHeartbeats 4000000 in
set_option maxRecDepth 100000 in
theorem k_push (l : Launch) (D : va_G) (F : CF) (u : CS) (hc : cOk F u) (r : Int32) : mG l yX2_push wX2_push ({ frames := 1, cells := 0, slots := 0, locals := 20 }) D vwCl (cT F) [.ref (kH F), .int r] (cW F u) (qI D vwCl (fun (x : Int32) (w : CS) => cpPush u r x w) (cW F)) := by
  refine gg_met (cc := cX2_push) (nL := 2) (ret := (some .int)) (lv := [(0, .ref (kH F)), (1, .int r)]) (by decide) rfl rfl (Nat.le_of_ble_eq_true rfl) ?_
  intro p_ e_ s_ m_ bl_ me_ cc_ A_ X hr hk hnm
  refine gg_iload_n X dX2_push_0 rfl 1 rfl ?_
  refine gc_i X (gr_S X dX2_push_1 X.2.2.2.2.2.1 (k_isR l D (cT F) (cW F u) r) (cwS 1 X.2.2.2.2.1 (gdS (al 50 rfl) (al 51 rfl) (al 1 rfl) (al 52 rfl)) rfl rfl rfl (by decide +kernel) ⟨Nat.le_of_ble_eq_true rfl, Nat.le_of_ble_eq_true rfl⟩) rfl rfl (Nat.le_of_ble_eq_true rfl) ⟨Nat.le_of_ble_eq_true rfl, Nat.le_of_ble_eq_true rfl⟩) (fun r_1 w_1 h_1 => ?_)
  refine gg_if_eq (tgt := 16) X dX2_push_4 (by decide) (fun c_4 => ?_) (fun c_4 => ?_)
  · refine gg_iconst X dX2_push_16 (v := (-1)) (by decide) ?_
    exact gg_iret X dX2_push_17 hr hk u (Or.inr ⟨fun h => b01 h_1 c_4 h.1, rfl, rfl⟩) rfl (Nat.le_of_ble_eq_true rfl) (Nat.le_of_ble_eq_true rfl)
  · obtain ⟨j, hj, rfl⟩ := b01' h_1 c_4
    have h50 := hc.2.2.2.2.1
    refine gg_aload_n X dX2_push_7 rfl 0 rfl ?_
    refine gg_get X dX2_push_8 imX2 0 rfl rfl 4 (by decide) (am 37 rfl) rfl ?_
    refine gg_bipush X dX2_push_11 (v := nI 50) (by decide) ?_
    refine gg_icmp_lt (tgt := 18) X dX2_push_13 (by decide) (fun c_13 => ?_) (fun c_13 => ?_)
    · have h13 : sT u < 50 := (nI_ltI (by omega) (by omega)).mp c_13
      refine gg_aload_n X dX2_push_18 rfl 0 rfl ?_
      refine gg_get X dX2_push_19 imX2 0 rfl rfl 2 (by decide) (am 35 rfl) rfl ?_
      refine gg_aload_n X dX2_push_22 rfl 0 rfl ?_
      refine gg_get X dX2_push_23 imX2 0 rfl rfl 4 (by decide) (am 37 rfl) rfl ?_
      refine gg_aload_n X dX2_push_26 rfl 0 rfl ?_
      refine gg_get X dX2_push_27 imX2 0 rfl rfl 1 (by decide) (am 34 rfl) rfl ?_
      refine gg_iload_n X dX2_push_30 rfl 1 rfl ?_
      refine gg_lald X dX2_push_31 1 0 rfl rfl j rfl hj (by decide) ?_
      refine gg_last X dX2_push_32 2 0 rfl rfl (sT u) rfl h13 (by decide) (ws' := cW F (uS u (vp_updL (sK u) (sT u) (rG u j)))) rfl ?_
      refine gg_aload_n X dX2_push_33 rfl 0 rfl ?_
      refine gg_dup X dX2_push_34 rfl ?_
      refine gg_get X dX2_push_35 imX2 0 rfl rfl 4 (by decide) (am 37 rfl) rfl ?_
      refine gg_iconst X dX2_push_38 (v := 1) (by decide) ?_
      refine gg_iadd X dX2_push_39 (nI_1 _) ?_
      refine gg_put X dX2_push_40 imX2 tyX2 tyX2_ok nmX2 0 rfl rfl 4 (by decide) (am 37 rfl) (ws' := cW F (uA u (rG u) (vp_updL (sK u) (sT u) (rG u j)) (sT u + 1) (mD u) (fU u))) (ty := .int) rfl (by decide +kernel) rfl rfl (Nat.le_of_ble_eq_true rfl) (rfl) ?_
      refine gg_aload_n X dX2_push_43 rfl 0 rfl ?_
      refine gg_get X dX2_push_44 imX2 0 rfl rfl 1 (by decide) (am 34 rfl) rfl ?_
      refine gg_iload_n X dX2_push_47 rfl 1 rfl ?_
      refine gg_ldc2 X (v := 4294967296) (am 14 rfl) dX2_push_48 ?_
      refine gg_last X dX2_push_51 1 0 rfl rfl j rfl hj (by decide) (ws' := cW F (uA u (vp_updL (rG u) j nO) (vp_updL (sK u) (sT u) (rG u j)) (sT u + 1) (mD u) (fU u))) rfl ?_
      refine gg_aload_n X dX2_push_52 rfl 0 rfl ?_
      refine gg_get X dX2_push_53 imX2 0 rfl rfl 4 (by decide) (am 37 rfl) rfl ?_
      exact gg_iret X dX2_push_56 hr hk (uA u (vp_updL (rG u) j nO) (vp_updL (sK u) (sT u) (rG u j)) (sT u + 1) (mD u) (fU u)) (Or.inl ⟨j, hj, rfl, h13, rfl, rfl⟩) rfl (Nat.le_of_ble_eq_true rfl) (Nat.le_of_ble_eq_true rfl)
    · have h13 : ¬ sT u < 50 := fun h => c_13 ((nI_ltI (by omega) (by omega)).mpr h)
      refine gg_iconst X dX2_push_16 (v := (-1)) (by decide) ?_
      exact gg_iret X dX2_push_17 hr hk u (Or.inr ⟨fun h => h13 h.2, rfl, rfl⟩) rfl (Nat.le_of_ble_eq_true rfl) (Nat.le_of_ble_eq_true rfl)
set_option maxHeartbeats 4000000 in
set_option maxRecDepth 100000 in
theorem k_pop (l : Launch) (D : va_G) (F : CF) (u : CS) (hc : cOk F u) (r : Int32) : mG l yX2_pop wX2_pop ({ frames := 1, cells := 0, slots := 0, locals := 20 }) D vwCl (cT F) [.ref (kH F), .int r] (cW F u) (qI D vwCl (fun (x : Int32) (w : CS) => cpPop u r x w) (cW F)) := by
  refine gg_met (cc := cX2_pop) (nL := 2) (ret := (some .int)) (lv := [(0, .ref (kH F)), (1, .int r)]) (by decide) rfl rfl (Nat.le_of_ble_eq_true rfl) ?_
  intro p_ e_ s_ m_ bl_ me_ cc_ A_ X hr hk hnm
  refine gg_iload_n X dX2_pop_0 rfl 1 rfl ?_
  refine gc_i X (gr_S X dX2_pop_1 X.2.2.2.2.2.1 (k_isR l D (cT F) (cW F u) r) (cwS 1 X.2.2.2.2.1 (gdS (al 50 rfl) (al 51 rfl) (al 1 rfl) (al 52 rfl)) rfl rfl rfl (by decide +kernel) ⟨Nat.le_of_ble_eq_true rfl, Nat.le_of_ble_eq_true rfl⟩) rfl rfl (Nat.le_of_ble_eq_true rfl) ⟨Nat.le_of_ble_eq_true rfl, Nat.le_of_ble_eq_true rfl⟩) (fun r_1 w_1 h_1 => ?_)
  refine gg_if_eq (tgt := 14) X dX2_pop_4 (by decide) (fun c_4 => ?_) (fun c_4 => ?_)
  · refine gg_iconst X dX2_pop_14 (v := (-1)) (by decide) ?_
    exact gg_iret X dX2_pop_15 hr hk u (Or.inr ⟨fun h => b01 h_1 c_4 h.1, rfl, rfl⟩) rfl (Nat.le_of_ble_eq_true rfl) (Nat.le_of_ble_eq_true rfl)
  · obtain ⟨j, hj, rfl⟩ := b01' h_1 c_4
    have h50 := hc.2.2.2.2.1
    refine gg_aload_n X dX2_pop_7 rfl 0 rfl ?_
    refine gg_get X dX2_pop_8 imX2 0 rfl rfl 4 (by decide) (am 37 rfl) rfl ?_
    refine gg_if_gt (tgt := 16) X dX2_pop_11 (by decide) (fun c_11 => ?_) (fun c_11 => ?_)
    · have h11 : 0 < sT u := (nI_ltI (a := 0) (by omega) (by omega)).mp c_11
      obtain ⟨n, hn⟩ : ∃ n, sT u = n + 1 := ⟨sT u - 1, by omega⟩
      refine gg_aload_n X dX2_pop_16 rfl 0 rfl ?_
      refine gg_dup X dX2_pop_17 rfl ?_
      refine gg_get X dX2_pop_18 imX2 0 rfl rfl 4 (by decide) (am 37 rfl) rfl ?_
      refine gg_iconst X dX2_pop_21 (v := 1) (by decide) ?_
      refine gg_isub X dX2_pop_22 (v := nI n) (by rw [hn]; exact nI_pred n) ?_
      refine gg_put X dX2_pop_23 imX2 tyX2 tyX2_ok nmX2 0 rfl rfl 4 (by decide) (am 37 rfl) (ws' := cW F (uT u n)) (ty := .int) rfl (by decide +kernel) rfl rfl (Nat.le_of_ble_eq_true rfl) (rfl) ?_
      refine gg_aload_n X dX2_pop_26 rfl 0 rfl ?_
      refine gg_get X dX2_pop_27 imX2 0 rfl rfl 1 (by decide) (am 34 rfl) rfl ?_
      refine gg_iload_n X dX2_pop_30 rfl 1 rfl ?_
      refine gg_aload_n X dX2_pop_31 rfl 0 rfl ?_
      refine gg_get X dX2_pop_32 imX2 0 rfl rfl 2 (by decide) (am 35 rfl) rfl ?_
      refine gg_aload_n X dX2_pop_35 rfl 0 rfl ?_
      refine gg_get X dX2_pop_36 imX2 0 rfl rfl 4 (by decide) (am 37 rfl) rfl ?_
      refine gg_lald X dX2_pop_39 2 0 rfl rfl n rfl (by omega) (by decide) ?_
      refine gg_last X dX2_pop_40 1 0 rfl rfl j rfl hj (by decide) (ws' := cW F (uA u (vp_updL (rG u) j (sK u n)) (sK u) n (mD u) (fU u))) rfl ?_
      refine gg_aload_n X dX2_pop_41 rfl 0 rfl ?_
      refine gg_get X dX2_pop_42 imX2 0 rfl rfl 4 (by decide) (am 37 rfl) rfl ?_
      exact gg_iret X dX2_pop_45 hr hk (uA u (vp_updL (rG u) j (sK u n)) (sK u) n (mD u) (fU u)) (Or.inl ⟨j, n, hj, rfl, hn, rfl, rfl⟩) rfl (Nat.le_of_ble_eq_true rfl) (Nat.le_of_ble_eq_true rfl)
    · refine gg_iconst X dX2_pop_14 (v := (-1)) (by decide) ?_
      exact gg_iret X dX2_pop_15 hr hk u (Or.inr ⟨fun h => c_11 (by have := (nI_ltI (a := 0) (b := sT u) (by omega) (by omega)).mpr h.2; exact this), rfl, rfl⟩) rfl (Nat.le_of_ble_eq_true rfl) (Nat.le_of_ble_eq_true rfl)
set_option maxHeartbeats 4000000 in
set_option maxRecDepth 100000 in
theorem k_look (l : Launch) (D : va_G) (F : CF) (u : CS) (hc : cOk F u) (r : Int32) : mG l yX2_look wX2_look ({ frames := 2, cells := 0, slots := 0, locals := 45 }) D vwCl (cT F) [.ref (kH F), .int r] (cW F u) (qI D vwCl (fun (x : Int32) (w : CS) => cpLook u r x w) (cW F)) := by
  refine gg_met (cc := cX2_look) (nL := 3) (ret := (some .int)) (lv := [(0, .ref (kH F)), (1, .int r)]) (by decide) rfl rfl (Nat.le_of_ble_eq_true rfl) ?_
  intro p_ e_ s_ m_ bl_ me_ cc_ A_ X hr hk hnm
  refine gg_iload_n X dX2_look_0 rfl 1 rfl ?_
  refine gc_i X (gr_S X dX2_look_1 X.2.2.2.2.2.1 (k_isR l D (cT F) (cW F u) r) (cwS 1 X.2.2.2.2.1 (gdS (al 50 rfl) (al 51 rfl) (al 1 rfl) (al 52 rfl)) rfl rfl rfl (by decide +kernel) ⟨Nat.le_of_ble_eq_true rfl, Nat.le_of_ble_eq_true rfl⟩) rfl rfl (Nat.le_of_ble_eq_true rfl) ⟨Nat.le_of_ble_eq_true rfl, Nat.le_of_ble_eq_true rfl⟩) (fun r_1 w_1 h_1 => ?_)
  refine gg_if_ne (tgt := 9) X dX2_look_4 (by decide) (fun c_4 => ?_) (fun c_4 => ?_)
  · refine gg_aload_n X dX2_look_9 rfl 0 rfl ?_
    refine gg_iload_n X dX2_look_10 rfl 1 rfl ?_
    refine gc_q X (gr_V (q0 := 0) X dX2_look_11 X.2.2.2.2.2.1 (k_thingIn l D F u hc r) (cwV 1 X.2.2.2.2.1 (gdV (al 96 rfl) (al 97 rfl) (al 242 rfl) (al 1 rfl) (al 98 rfl)) rfl rfl rfl (by decide +kernel) ⟨Nat.le_of_ble_eq_true rfl, Nat.le_of_ble_eq_true rfl⟩) rfl rfl rfl rfl rfl (Nat.le_of_ble_eq_true rfl) ⟨Nat.le_of_ble_eq_true rfl, Nat.le_of_ble_eq_true rfl⟩) (fun x_11 w_11 h_11 => ?_)
    obtain ⟨ew, h_11⟩ := h_11
    rw [ew]
    rcases h_11 with ⟨j, i, hj, ej, hi, hri, hx⟩ | ⟨hno, hx⟩
    · subst hx
      subst ej
      refine gg_astore_n X dX2_look_14 rfl (by decide) rfl ?_
      refine gg_aload_n X dX2_look_15 rfl 0 rfl ?_
      refine gg_ifnullS X dX2_look_16 ?_
      refine gg_aload_n X dX2_look_19 rfl 0 rfl ?_
      refine gg_getN (host := "SliceHeap") X dX2_look_20 imX1 (2 * i + 6) (cW_th _ _ hi) rfl 1 (by decide) (X.2.2.2.2.2.2.2.1 _ (nw 10 rfl)) rfl ?_
      exact gg_iret X dX2_look_23 hr hk u (⟨rfl, Or.inr ⟨j, hj, rfl, Or.inl ⟨i, hi, hri, rfl⟩⟩⟩) rfl (Nat.le_of_ble_eq_true rfl) (Nat.le_of_ble_eq_true rfl)
    · subst hx
      obtain ⟨j, hj, rfl⟩ := b01' h_1 c_4
      refine gg_astore_nN X dX2_look_14 rfl (by decide) rfl ?_
      refine gg_aload_nN X dX2_look_15 rfl 0 rfl ?_
      refine gg_ifnullZ (tgt := 24) X dX2_look_16 (by decide) ?_
      refine gg_aload_n X dX2_look_24 rfl 1 rfl ?_
      refine gg_get X dX2_look_25 imX2 0 rfl rfl 1 (by decide) (am 34 rfl) rfl ?_
      refine gg_iload_n X dX2_look_28 rfl 2 rfl ?_
      refine gg_lald X dX2_look_29 1 0 rfl rfl j rfl hj (by decide) ?_
      refine gg_ldc2 X (v := 4294967296) (am 14 rfl) dX2_look_30 ?_
      refine gg_lcmp X dX2_look_33 ?_
      refine gg_if_ne (tgt := 42) X dX2_look_34 (by decide) (fun c_34 => ?_) (fun c_34 => ?_)
      · refine gg_bipush X dX2_look_42 (v := -3) (by decide) ?_
        exact gg_iret X dX2_look_44 hr hk u (⟨rfl, Or.inr ⟨j, hj, rfl, Or.inr ⟨fun i hi => hno j i hj rfl hi, Or.inr ⟨fun h => c_34 ((lg_cmp_eq _ _).mpr (h.trans c64n.symm)), rfl⟩⟩⟩⟩) rfl (Nat.le_of_ble_eq_true rfl) (Nat.le_of_ble_eq_true rfl)
      · refine gg_bipush X dX2_look_37 (v := -2) (by decide) ?_
        refine gg_goto (tgt := 44) X dX2_look_39 (by decide) ?_
        exact gg_iret X dX2_look_44 hr hk u (⟨rfl, Or.inr ⟨j, hj, rfl, Or.inr ⟨fun i hi => hno j i hj rfl hi, Or.inl ⟨((lg_cmp_eq _ _).mp c_34).trans c64n, rfl⟩⟩⟩⟩) rfl (Nat.le_of_ble_eq_true rfl) (Nat.le_of_ble_eq_true rfl)
  · refine gg_iconst X dX2_look_7 (v := (-1)) (by decide) ?_
    exact gg_iret X dX2_look_8 hr hk u (⟨rfl, Or.inl ⟨b01 h_1 c_4, rfl⟩⟩) rfl (Nat.le_of_ble_eq_true rfl) (Nat.le_of_ble_eq_true rfl)
set_option maxHeartbeats 4000000 in
set_option maxRecDepth 100000 in
theorem k_numberIn (l : Launch) (D : va_G) (F : CF) (u : CS) (r : Int32) : mG l yX2_numberIn wX2_numberIn ({ frames := 1, cells := 0, slots := 0, locals := 20 }) D vwCl (cT F) [.ref (kH F), .int r] (cW F u) (qI D vwCl (fun (x : Int32) (w : CS) => cpNumIn u r x w) (cW F)) := by
  refine gg_met (cc := cX2_numberIn) (nL := 2) (ret := (some .int)) (lv := [(0, .ref (kH F)), (1, .int r)]) (by decide) rfl rfl (Nat.le_of_ble_eq_true rfl) ?_
  intro p_ e_ s_ m_ bl_ me_ cc_ A_ X hr hk hnm
  refine gg_iload_n X dX2_numberIn_0 rfl 1 rfl ?_
  refine gc_i X (gr_S X dX2_numberIn_1 X.2.2.2.2.2.1 (k_isR l D (cT F) (cW F u) r) (cwS 1 X.2.2.2.2.1 (gdS (al 50 rfl) (al 51 rfl) (al 1 rfl) (al 52 rfl)) rfl rfl rfl (by decide +kernel) ⟨Nat.le_of_ble_eq_true rfl, Nat.le_of_ble_eq_true rfl⟩) rfl rfl (Nat.le_of_ble_eq_true rfl) ⟨Nat.le_of_ble_eq_true rfl, Nat.le_of_ble_eq_true rfl⟩) (fun r_1 w_1 h_1 => ?_)
  refine gg_if_eq (tgt := 30) X dX2_numberIn_4 (by decide) (fun c_4 => ?_) (fun c_4 => ?_)
  · refine gg_iconst X dX2_numberIn_30 (v := 0) (by decide) ?_
    exact gg_iret X dX2_numberIn_31 hr hk u (⟨rfl, Or.inr ⟨fun ⟨k, h1, h2, _⟩ => b01 h_1 c_4 ⟨k, h1, h2⟩, rfl⟩⟩) rfl (Nat.le_of_ble_eq_true rfl) (Nat.le_of_ble_eq_true rfl)
  · obtain ⟨j, hj, rfl⟩ := b01' h_1 c_4
    refine gg_aload_n X dX2_numberIn_7 rfl 0 rfl ?_
    refine gg_get X dX2_numberIn_8 imX2 0 rfl rfl 1 (by decide) (am 34 rfl) rfl ?_
    refine gg_iload_n X dX2_numberIn_11 rfl 1 rfl ?_
    refine gg_lald X dX2_numberIn_12 1 0 rfl rfl j rfl hj (by decide) ?_
    refine gg_ldc2 X (v := 4294967296) (am 14 rfl) dX2_numberIn_13 ?_
    refine gg_lcmp X dX2_numberIn_16 ?_
    refine gg_if_ge (tgt := 30) X dX2_numberIn_17 (by decide) (fun c_17 => ?_) (fun c_17 => ?_)
    · refine gg_iconst X dX2_numberIn_30 (v := 0) (by decide) ?_
      exact gg_iret X dX2_numberIn_31 hr hk u (⟨rfl, Or.inr ⟨fun ⟨k, h1, h2, h3⟩ => by
          have e := r_inj (by omega) (by omega) h2
          subst e
          have h4 := (lg_cmp_ge _ _).mp c_17
          rw [c64n] at h4
          rw [Int64.lt_iff_toInt_lt] at h3
          rw [Int64.le_iff_toInt_le] at h4
          omega, rfl⟩⟩) rfl (Nat.le_of_ble_eq_true rfl) (Nat.le_of_ble_eq_true rfl)
    · refine gg_aload_n X dX2_numberIn_20 rfl 0 rfl ?_
      refine gg_get X dX2_numberIn_21 imX2 0 rfl rfl 1 (by decide) (am 34 rfl) rfl ?_
      refine gg_iload_n X dX2_numberIn_24 rfl 1 rfl ?_
      refine gg_lald X dX2_numberIn_25 1 0 rfl rfl j rfl hj (by decide) ?_
      refine gg_l2i X dX2_numberIn_26 rfl ?_
      refine gg_goto (tgt := 31) X dX2_numberIn_27 (by decide) ?_
      exact gg_iret X dX2_numberIn_31 hr hk u (⟨rfl, Or.inl ⟨j, hj, rfl, by
          have h4 : ¬ nO ≤ rG u j := fun h => c_17 ((lg_cmp_ge _ _).mpr (by rw [c64n]; exact h))
          rw [Int64.lt_iff_toInt_lt]
          rw [Int64.le_iff_toInt_le] at h4
          omega, rfl⟩⟩) rfl (Nat.le_of_ble_eq_true rfl) (Nat.le_of_ble_eq_true rfl)
set_option maxHeartbeats 4000000 in
set_option maxRecDepth 100000 in
theorem k_same (l : Launch) (D : va_G) (F : CF) (u : CS) (r s : Int32) : mG l yX2_same wX2_same ({ frames := 1, cells := 0, slots := 0, locals := 20 }) D vwCl (cT F) [.ref (kH F), .int r, .int s] (cW F u) (qI D vwCl (fun (x : Int32) (w : CS) => cpSame u r s x w) (cW F)) := by
  refine gg_met (cc := cX2_same) (nL := 3) (ret := (some .int)) (lv := [(0, .ref (kH F)), (1, .int r), (2, .int s)]) (by decide) rfl rfl (Nat.le_of_ble_eq_true rfl) ?_
  intro p_ e_ s_ m_ bl_ me_ cc_ A_ X hr hk hnm
  refine gg_iload_n X dX2_same_0 rfl 1 rfl ?_
  refine gc_i X (gr_S X dX2_same_1 X.2.2.2.2.2.1 (k_isR l D (cT F) (cW F u) r) (cwS 1 X.2.2.2.2.1 (gdS (al 50 rfl) (al 51 rfl) (al 1 rfl) (al 52 rfl)) rfl rfl rfl (by decide +kernel) ⟨Nat.le_of_ble_eq_true rfl, Nat.le_of_ble_eq_true rfl⟩) rfl rfl (Nat.le_of_ble_eq_true rfl) ⟨Nat.le_of_ble_eq_true rfl, Nat.le_of_ble_eq_true rfl⟩) (fun r_1 w_1 h_1 => ?_)
  refine gg_if_eq (tgt := 14) X dX2_same_4 (by decide) (fun c_4 => ?_) (fun c_4 => ?_)
  · refine gg_iconst X dX2_same_14 (v := (-1)) (by decide) ?_
    exact gg_iret X dX2_same_15 hr hk u (⟨rfl, Or.inr ⟨fun h => b01 h_1 c_4 h.1, rfl⟩⟩) rfl (Nat.le_of_ble_eq_true rfl) (Nat.le_of_ble_eq_true rfl)
  · obtain ⟨j, hj, rfl⟩ := b01' h_1 c_4
    refine gg_iload_n X dX2_same_7 rfl 2 rfl ?_
    refine gc_i X (gr_S X dX2_same_8 X.2.2.2.2.2.1 (k_isR l D (cT F) (cW F u) s) (cwS 1 X.2.2.2.2.1 (gdS (al 50 rfl) (al 51 rfl) (al 1 rfl) (al 52 rfl)) rfl rfl rfl (by decide +kernel) ⟨Nat.le_of_ble_eq_true rfl, Nat.le_of_ble_eq_true rfl⟩) rfl rfl (Nat.le_of_ble_eq_true rfl) ⟨Nat.le_of_ble_eq_true rfl, Nat.le_of_ble_eq_true rfl⟩) (fun r_8 w_8 h_8 => ?_)
    refine gg_if_ne (tgt := 16) X dX2_same_11 (by decide) (fun c_11 => ?_) (fun c_11 => ?_)
    · obtain ⟨k, hk2, rfl⟩ := b01' h_8 c_11
      refine gg_aload_n X dX2_same_16 rfl 0 rfl ?_
      refine gg_get X dX2_same_17 imX2 0 rfl rfl 1 (by decide) (am 34 rfl) rfl ?_
      refine gg_iload_n X dX2_same_20 rfl 1 rfl ?_
      refine gg_lald X dX2_same_21 1 0 rfl rfl j rfl hj (by decide) ?_
      refine gg_aload_n X dX2_same_22 rfl 0 rfl ?_
      refine gg_get X dX2_same_23 imX2 0 rfl rfl 1 (by decide) (am 34 rfl) rfl ?_
      refine gg_iload_n X dX2_same_26 rfl 2 rfl ?_
      refine gg_lald X dX2_same_27 1 0 rfl rfl k rfl hk2 (by decide) ?_
      refine gg_lcmp X dX2_same_28 ?_
      refine gg_if_ne (tgt := 36) X dX2_same_29 (by decide) (fun c_29 => ?_) (fun c_29 => ?_)
      · refine gg_iconst X dX2_same_36 (v := 0) (by decide) ?_
        exact gg_iret X dX2_same_37 hr hk u (⟨rfl, Or.inl ⟨j, k, hj, rfl, hk2, rfl, Or.inr ⟨fun h => c_29 ((lg_cmp_eq _ _).mpr h), rfl⟩⟩⟩) rfl (Nat.le_of_ble_eq_true rfl) (Nat.le_of_ble_eq_true rfl)
      · refine gg_iconst X dX2_same_32 (v := 1) (by decide) ?_
        refine gg_goto (tgt := 37) X dX2_same_33 (by decide) ?_
        exact gg_iret X dX2_same_37 hr hk u (⟨rfl, Or.inl ⟨j, k, hj, rfl, hk2, rfl, Or.inl ⟨(lg_cmp_eq _ _).mp c_29, rfl⟩⟩⟩) rfl (Nat.le_of_ble_eq_true rfl) (Nat.le_of_ble_eq_true rfl)
    · refine gg_iconst X dX2_same_14 (v := (-1)) (by decide) ?_
      exact gg_iret X dX2_same_15 hr hk u (⟨rfl, Or.inr ⟨fun h => b01 h_8 c_11 h.2, rfl⟩⟩) rfl (Nat.le_of_ble_eq_true rfl) (Nat.le_of_ble_eq_true rfl)
set_option maxHeartbeats 4000000 in
set_option maxRecDepth 100000 in
theorem k_shrink (l : Launch) (D : va_G) (F : CF) (u : CS) (hc : cOk F u) (r : Int32) : mG l yX2_shrink wX2_shrink ({ frames := 2, cells := 0, slots := 0, locals := 45 }) D vwCl (cT F) [.ref (kH F), .int r] (cW F u) (qI D vwCl (fun (x : Int32) (w : CS) => cpShr u r x w) (cW F)) := by
  refine gg_met (cc := cX2_shrink) (nL := 3) (ret := (some .int)) (lv := [(0, .ref (kH F)), (1, .int r)]) (by decide) rfl rfl (Nat.le_of_ble_eq_true rfl) ?_
  intro p_ e_ s_ m_ bl_ me_ cc_ A_ X hr hk hnm
  refine gg_aload_n X dX2_shrink_0 rfl 0 rfl ?_
  refine gg_iload_n X dX2_shrink_1 rfl 1 rfl ?_
  refine gc_q X (gr_V (q0 := 0) X dX2_shrink_2 X.2.2.2.2.2.1 (k_thingIn l D F u hc r) (cwV 1 X.2.2.2.2.1 (gdV (al 96 rfl) (al 97 rfl) (al 242 rfl) (al 1 rfl) (al 98 rfl)) rfl rfl rfl (by decide +kernel) ⟨Nat.le_of_ble_eq_true rfl, Nat.le_of_ble_eq_true rfl⟩) rfl rfl rfl rfl rfl (Nat.le_of_ble_eq_true rfl) ⟨Nat.le_of_ble_eq_true rfl, Nat.le_of_ble_eq_true rfl⟩) (fun x_2 w_2 h_2 => ?_)
  obtain ⟨ew, h_2⟩ := h_2
  rw [ew]
  rcases h_2 with ⟨j, i, hj, ej, hi, hri, hx⟩ | ⟨hno, hx⟩
  · subst hx
    subst ej
    have h20 := hc.2.2.2.2.2 i hi
    refine gg_astore_n X dX2_shrink_5 rfl (by decide) rfl ?_
    refine gg_aload_n X dX2_shrink_6 rfl 0 rfl ?_
    refine gg_ifnullS X dX2_shrink_7 ?_
    refine gg_aload_n X dX2_shrink_10 rfl 0 rfl ?_
    refine gg_getN (host := "SliceHeap") X dX2_shrink_11 imX1 (2 * i + 6) (cW_th _ _ hi) rfl 1 (by decide) (X.2.2.2.2.2.2.2.1 _ (nw 10 rfl)) rfl ?_
    refine gg_if_gt (tgt := 19) X dX2_shrink_14 (by decide) (fun c_14 => ?_) (fun c_14 => ?_)
    · have h14 : 0 < sZ u i := (nI_ltI (a := 0) (by omega) (by omega)).mp c_14
      obtain ⟨n, hn⟩ : ∃ n, sZ u i = n + 1 := ⟨sZ u i - 1, by omega⟩
      refine gg_aload_n X dX2_shrink_19 rfl 0 rfl ?_
      refine gg_dup X dX2_shrink_20 rfl ?_
      refine gg_getN (host := "SliceHeap") X dX2_shrink_21 imX1 (2 * i + 6) (cW_th _ _ hi) rfl 1 (by decide) (X.2.2.2.2.2.2.2.1 _ (nw 10 rfl)) rfl ?_
      refine gg_iconst X dX2_shrink_24 (v := 1) (by decide) ?_
      refine gg_isub X dX2_shrink_25 (v := nI n) (by rw [hn]; exact nI_pred n) ?_
      refine gg_putN (host := "SliceHeap") X dX2_shrink_26 imX1 tyX1 tyX1_ok nmX1 (2 * i + 6) (cW_th _ _ hi) rfl 1 (by decide) (X.2.2.2.2.2.2.2.1 _ (nw 10 rfl)) (ws' := cW F (uZ u (va_up (sZ u) i n) (va_up (rC u) i (rC u i)) (vS u))) (ty := .int) rfl (by decide +kernel) rfl rfl (Nat.le_of_ble_eq_true rfl) (cW_setT F u n (rC u i) hi) ?_
      refine gg_aload_n X dX2_shrink_29 rfl 0 rfl ?_
      refine gg_getN (host := "SliceHeap") X dX2_shrink_30 imX1 (2 * i + 6) (cW_th _ _ hi) rfl 1 (by decide) (X.2.2.2.2.2.2.2.1 _ (nw 10 rfl)) rfl ?_
      exact gg_iret X dX2_shrink_33 hr hk (uZ u (va_up (sZ u) i n) (va_up (rC u) i (rC u i)) (vS u)) (Or.inl ⟨j, i, n, ⟨hj, rfl, hi, hri, hn⟩, by show nI (va_up (sZ u) i n i) = nI n; rw [va_up_self], rfl⟩) rfl (Nat.le_of_ble_eq_true rfl) (Nat.le_of_ble_eq_true rfl)
    · refine gg_iconst X dX2_shrink_17 (v := (-1)) (by decide) ?_
      exact gg_iret X dX2_shrink_18 hr hk u (Or.inr ⟨fun ⟨j', i', n', g1, g2, g3, g4, g5⟩ => by
          have e1 := r_inj (by omega) (by omega) g2
          subst e1
          have e2 := ob_eq hc hi g3 hri g4
          subst e2
          exact c_14 ((nI_ltI (a := 0) (by omega) (by omega)).mpr (by omega)), rfl, rfl⟩) rfl (Nat.le_of_ble_eq_true rfl) (Nat.le_of_ble_eq_true rfl)
  · subst hx
    refine gg_astore_nN X dX2_shrink_5 rfl (by decide) rfl ?_
    refine gg_aload_nN X dX2_shrink_6 rfl 0 rfl ?_
    refine gg_ifnullZ (tgt := 17) X dX2_shrink_7 (by decide) ?_
    refine gg_iconst X dX2_shrink_17 (v := (-1)) (by decide) ?_
    exact gg_iret X dX2_shrink_18 hr hk u (Or.inr ⟨fun ⟨j', i', n', g1, g2, g3, g4, g5⟩ => hno j' i' g1 g2 g3 g4, rfl, rfl⟩) rfl (Nat.le_of_ble_eq_true rfl) (Nat.le_of_ble_eq_true rfl)
set_option maxHeartbeats 4000000 in
set_option maxRecDepth 100000 in
theorem k_grow (l : Launch) (D : va_G) (F : CF) (u : CS) (hc : cOk F u) (r s : Int32) : mG l yX2_grow wX2_grow ({ frames := 5, cells := 0, slots := 0, locals := 110 }) D vwCl (cT F) [.ref (kH F), .int r, .int s] (cW F u) (qI D vwCl (fun (x : Int32) (w : CS) => cpGrow F u r s x w) (cW F)) := by
  refine gg_met (cc := cX2_grow) (nL := 4) (ret := (some .int)) (lv := [(0, .ref (kH F)), (1, .int r), (2, .int s)]) (by decide) rfl rfl (Nat.le_of_ble_eq_true rfl) ?_
  intro p_ e_ s_ m_ bl_ me_ cc_ A_ X hr hk hnm
  refine gg_aload_n X dX2_grow_0 rfl 0 rfl ?_
  refine gg_iload_n X dX2_grow_1 rfl 1 rfl ?_
  refine gc_q X (gr_V (q0 := 0) X dX2_grow_2 X.2.2.2.2.2.1 (k_thingIn l D F u hc r) (cwV 1 X.2.2.2.2.1 (gdV (al 96 rfl) (al 97 rfl) (al 242 rfl) (al 1 rfl) (al 98 rfl)) rfl rfl rfl (by decide +kernel) ⟨Nat.le_of_ble_eq_true rfl, Nat.le_of_ble_eq_true rfl⟩) rfl rfl rfl rfl rfl (Nat.le_of_ble_eq_true rfl) ⟨Nat.le_of_ble_eq_true rfl, Nat.le_of_ble_eq_true rfl⟩) (fun x_2 w_2 h_2 => ?_)
  obtain ⟨ew, h_2⟩ := h_2
  rw [ew]
  rcases h_2 with ⟨j, i, hj, ej, hi, hri, hx⟩ | ⟨hno, hx⟩
  · subst hx
    subst ej
    have h20 := hc.2.2.2.2.2 i hi
    refine gg_astore_n X dX2_grow_5 rfl (by decide) rfl ?_
    refine gg_aload_n X dX2_grow_6 rfl 0 rfl ?_
    refine gg_ifnullS X dX2_grow_7 ?_
    refine gg_iload_n X dX2_grow_10 rfl 3 rfl ?_
    refine gc_i X (gr_S X dX2_grow_11 X.2.2.2.2.2.1 (k_isR l D (cT F) (cW F u) s) (cwS 1 X.2.2.2.2.1 (gdS (al 50 rfl) (al 51 rfl) (al 1 rfl) (al 52 rfl)) rfl rfl rfl (by decide +kernel) ⟨Nat.le_of_ble_eq_true rfl, Nat.le_of_ble_eq_true rfl⟩) rfl rfl (Nat.le_of_ble_eq_true rfl) ⟨Nat.le_of_ble_eq_true rfl, Nat.le_of_ble_eq_true rfl⟩) (fun r_11 w_11 h_11 => ?_)
    refine gg_if_eq (tgt := 26) X dX2_grow_14 (by decide) (fun c_14 => ?_) (fun c_14 => ?_)
    · refine gg_iconst X dX2_grow_26 (v := (-1)) (by decide) ?_
      exact gg_iret X dX2_grow_27 hr hk u (Or.inr ⟨fun ⟨j', i', a', g1, g2, g3, g4, g5, g6, g7⟩ => b01 h_11 c_14 ⟨a', g5, g6⟩, rfl, rfl⟩) rfl (Nat.le_of_ble_eq_true rfl) (Nat.le_of_ble_eq_true rfl)
    · obtain ⟨a, ha, rfl⟩ := b01' h_11 c_14
      refine gg_aload_n X dX2_grow_17 rfl 0 rfl ?_
      refine gg_getN (host := "SliceHeap") X dX2_grow_18 imX1 (2 * i + 6) (cW_th _ _ hi) rfl 1 (by decide) (X.2.2.2.2.2.2.2.1 _ (nw 10 rfl)) rfl ?_
      refine gg_bipush X dX2_grow_21 (v := nI 20) (by decide) ?_
      refine gg_icmp_lt (tgt := 28) X dX2_grow_23 (by decide) (fun c_23 => ?_) (fun c_23 => ?_)
      · have h23 : sZ u i < 20 := (nI_ltI (by omega) (by omega)).mp c_23
        refine gg_aload_n X dX2_grow_28 rfl 1 rfl ?_
        refine gg_iconst X dX2_grow_29 (v := nI 1) (by decide) ?_
        refine gc_i X (gr_V (q0 := 0) X dX2_grow_30 X.2.2.2.2.2.1 (k_room l D F u hc 1 (by decide)) (cwV 1 X.2.2.2.2.1 (gdV (al 53 rfl) (al 54 rfl) (al 231 rfl) (al 1 rfl) (al 55 rfl)) rfl rfl rfl (by decide +kernel) ⟨Nat.le_of_ble_eq_true rfl, Nat.le_of_ble_eq_true rfl⟩) rfl rfl rfl rfl rfl (Nat.le_of_ble_eq_true rfl) ⟨Nat.le_of_ble_eq_true rfl, Nat.le_of_ble_eq_true rfl⟩) (fun r_30 v h_30 => ?_)
        obtain ⟨hwd, h_30⟩ := h_30
        obtain ⟨e1, e2, e3, e4, e5, e6, e7, e8, e9, e10⟩ := id hwd.1
        refine gg_if_ne (tgt := 41) X dX2_grow_33 (by decide) (fun c_33 => ?_) (fun c_33 => ?_)
        · have hi2 : i < nU v := by rw [e6]; exact hi
          refine gg_lve (lv' := [(3, .ref (tH v i)), (0, .ref (kH F)), (1, .int (nI j)), (2, .int (nI a))]) (by rw [e7]; rfl) ?_
          refine gg_aload_n X dX2_grow_41 rfl 0 rfl ?_
          refine gg_getN (host := "SliceHeap") X dX2_grow_42 imX1 (2 * i + 6) (cW_th _ _ hi2) rfl 0 (by decide) (X.2.2.2.2.2.2.2.1 _ (nw 8 rfl)) rfl ?_
          refine gg_aload_n X dX2_grow_45 rfl 0 rfl ?_
          refine gg_getN (host := "SliceHeap") X dX2_grow_46 imX1 (2 * i + 6) (cW_th _ _ hi2) rfl 1 (by decide) (X.2.2.2.2.2.2.2.1 _ (nw 10 rfl)) rfl ?_
          refine gg_aload_n X dX2_grow_49 rfl 1 rfl ?_
          refine gg_get X dX2_grow_50 imX2 0 rfl rfl 1 (by decide) (am 34 rfl) rfl ?_
          refine gg_iload_n X dX2_grow_53 rfl 3 rfl ?_
          refine gg_lald X dX2_grow_54 1 0 rfl rfl a rfl ha (by decide) ?_
          refine gg_last X dX2_grow_55 (2 * i + 7) 0 (cW_ar F v hi2) rfl (sZ v i) rfl (by rw [e9]; omega) (by decide) (ws' := cW F (uZ v (sZ v) (rC v) (va_up (vS v) i (vp_updL (vS v i) (sZ v i) (rG v a))))) (cW_setA F v _ hi2) ?_
          refine gg_aload_n X dX2_grow_56 rfl 0 rfl ?_
          refine gg_dup X dX2_grow_57 rfl ?_
          refine gg_getN (host := "SliceHeap") X dX2_grow_58 imX1 (2 * i + 6) (cW_th F (uZ v (sZ v) (rC v) (va_up (vS v) i (vp_updL (vS v i) (sZ v i) (rG v a)))) hi2) rfl 1 (by decide) (X.2.2.2.2.2.2.2.1 _ (nw 10 rfl)) rfl ?_
          refine gg_iconst X dX2_grow_61 (v := 1) (by decide) ?_
          refine gg_iadd X dX2_grow_62 (nI_1 _) ?_
          refine gg_putN (host := "SliceHeap") X dX2_grow_63 imX1 tyX1 tyX1_ok nmX1 (2 * i + 6) (cW_th F (uZ v (sZ v) (rC v) (va_up (vS v) i (vp_updL (vS v i) (sZ v i) (rG v a)))) hi2) rfl 1 (by decide) (X.2.2.2.2.2.2.2.1 _ (nw 10 rfl)) (ws' := cW F (uZ v (va_up (sZ v) i (sZ v i + 1)) (va_up (rC v) i (rC v i)) (va_up (vS v) i (vp_updL (vS v i) (sZ v i) (rG v a))))) (ty := .int) rfl (by decide +kernel) rfl rfl (Nat.le_of_ble_eq_true rfl) (cW_setT F (uZ v (sZ v) (rC v) (va_up (vS v) i (vp_updL (vS v i) (sZ v i) (rG v a)))) (sZ v i + 1) (rC v i) hi2) ?_
          refine gg_aload_n X dX2_grow_66 rfl 0 rfl ?_
          refine gg_getN (host := "SliceHeap") X dX2_grow_67 imX1 (2 * i + 6) (cW_th F (uZ v (va_up (sZ v) i (sZ v i + 1)) (va_up (rC v) i (rC v i)) (va_up (vS v) i (vp_updL (vS v i) (sZ v i) (rG v a)))) hi2) rfl 1 (by decide) (X.2.2.2.2.2.2.2.1 _ (nw 10 rfl)) rfl ?_
          exact gg_iret X dX2_grow_70 hr hk (uZ v (va_up (sZ v) i (sZ v i + 1)) (va_up (rC v) i (rC v i)) (va_up (vS v) i (vp_updL (vS v i) (sZ v i) (rG v a)))) (Or.inl ⟨j, i, a, v, ⟨hj, rfl, hi, hri, ha, rfl, h23⟩, hwd, Or.inl ⟨b01' h_30 c_33, by show nI (va_up (sZ v) i (sZ v i + 1) i) = _; rw [va_up_self, e9], _, by rw [e9, e10, e1]⟩⟩) rfl (Nat.le_of_ble_eq_true rfl) (Nat.le_of_ble_eq_true rfl)
        · refine gg_aload_n X dX2_grow_36 rfl 1 rfl ?_
          refine gc_i X (gr_V (q0 := 0) X dX2_grow_37 X.2.2.2.2.2.1 (k_full l D F v) (cwV 0 X.2.2.2.2.1 (gdV (al 90 rfl) (al 91 rfl) (al 241 rfl) (al 1 rfl) (al 92 rfl)) rfl rfl rfl (by decide +kernel) ⟨Nat.le_of_ble_eq_true rfl, Nat.le_of_ble_eq_true rfl⟩) rfl rfl rfl rfl rfl (Nat.le_of_ble_eq_true rfl) ⟨Nat.le_of_ble_eq_true rfl, Nat.le_of_ble_eq_true rfl⟩) (fun r_37 w_37 h_37 => ?_)
          obtain ⟨er, ew3⟩ := h_37
          rw [er, ew3]
          exact gg_iret X dX2_grow_40 hr hk (uF v (fU v + 1)) (Or.inl ⟨j, i, a, v, ⟨hj, rfl, hi, hri, ha, rfl, h23⟩, hwd, Or.inr ⟨Nat.not_le.mp (b01 h_30 c_33), rfl, by rw [e5]⟩⟩) rfl (Nat.le_of_ble_eq_true rfl) (Nat.le_of_ble_eq_true rfl)
      · refine gg_iconst X dX2_grow_26 (v := (-1)) (by decide) ?_
        exact gg_iret X dX2_grow_27 hr hk u (Or.inr ⟨fun ⟨j', i', a', g1, g2, g3, g4, g5, g6, g7⟩ => by
            have e1 := r_inj (by omega) (by omega) g2
            subst e1
            have e2 := ob_eq hc hi g3 hri g4
            subst e2
            exact c_23 ((nI_ltI (by omega) (by omega)).mpr g7), rfl, rfl⟩) rfl (Nat.le_of_ble_eq_true rfl) (Nat.le_of_ble_eq_true rfl)
  · subst hx
    refine gg_astore_nN X dX2_grow_5 rfl (by decide) rfl ?_
    refine gg_aload_nN X dX2_grow_6 rfl 0 rfl ?_
    refine gg_ifnullZ (tgt := 26) X dX2_grow_7 (by decide) ?_
    refine gg_iconst X dX2_grow_26 (v := (-1)) (by decide) ?_
    exact gg_iret X dX2_grow_27 hr hk u (Or.inr ⟨fun ⟨j', i', a', g1, g2, g3, g4, g5, g6, g7⟩ => hno j' i' g1 g2 g3 g4, rfl, rfl⟩) rfl (Nat.le_of_ble_eq_true rfl) (Nat.le_of_ble_eq_true rfl)
set_option maxHeartbeats 4000000 in
set_option maxRecDepth 100000 in
theorem k_make (l : Launch) (D : va_G) (F : CF) (u : CS) (hc : cOk F u) (r n s : Int32) : mG l yX2_make wX2_make ({ frames := 5, cells := 2, slots := 23, locals := 110 }) D vwCl (cT F) [.ref (kH F), .int r, .int n, .int s] (cW F u) (qI D vwCl (fun (x : Int32) (w : CS) => cpMake F u r n s x w) (cW F)) := by
  refine gg_met (cc := cX2_make) (nL := 6) (ret := (some .int)) (lv := [(0, .ref (kH F)), (1, .int r), (2, .int n), (3, .int s)]) (by decide) rfl rfl (Nat.le_of_ble_eq_true rfl) ?_
  intro p_ e_ s_ m_ bl_ me_ cc_ A_ X hr hk hnm
  refine gg_iload_n X dX2_make_0 rfl 1 rfl ?_
  refine gc_i X (gr_S X dX2_make_1 X.2.2.2.2.2.1 (k_isR l D (cT F) (cW F u) r) (cwS 1 X.2.2.2.2.1 (gdS (al 50 rfl) (al 51 rfl) (al 1 rfl) (al 52 rfl)) rfl rfl rfl (by decide +kernel) ⟨Nat.le_of_ble_eq_true rfl, Nat.le_of_ble_eq_true rfl⟩) rfl rfl (Nat.le_of_ble_eq_true rfl) ⟨Nat.le_of_ble_eq_true rfl, Nat.le_of_ble_eq_true rfl⟩) (fun r_1 w_1 h_1 => ?_)
  refine gg_if_eq (tgt := 24) X dX2_make_4 (by decide) (fun c_4 => ?_) (fun c_4 => ?_)
  · refine gg_iconst X dX2_make_24 (v := (-1)) (by decide) ?_
    exact gg_iret X dX2_make_25 hr hk u (Or.inr ⟨fun ⟨j', k', a', g1, g2, g3, g4, g5, g6⟩ => b01 h_1 c_4 ⟨j', g1, g2⟩, rfl, rfl⟩) rfl (Nat.le_of_ble_eq_true rfl) (Nat.le_of_ble_eq_true rfl)
  · obtain ⟨j, hj, rfl⟩ := b01' h_1 c_4
    refine gg_iload_n X dX2_make_7 rfl 3 rfl ?_
    refine gc_i X (gr_S X dX2_make_8 X.2.2.2.2.2.1 (k_isR l D (cT F) (cW F u) s) (cwS 1 X.2.2.2.2.1 (gdS (al 50 rfl) (al 51 rfl) (al 1 rfl) (al 52 rfl)) rfl rfl rfl (by decide +kernel) ⟨Nat.le_of_ble_eq_true rfl, Nat.le_of_ble_eq_true rfl⟩) rfl rfl (Nat.le_of_ble_eq_true rfl) ⟨Nat.le_of_ble_eq_true rfl, Nat.le_of_ble_eq_true rfl⟩) (fun r_8 w_8 h_8 => ?_)
    refine gg_if_eq (tgt := 24) X dX2_make_11 (by decide) (fun c_11 => ?_) (fun c_11 => ?_)
    · refine gg_iconst X dX2_make_24 (v := (-1)) (by decide) ?_
      exact gg_iret X dX2_make_25 hr hk u (Or.inr ⟨fun ⟨j', k', a', g1, g2, g3, g4, g5, g6⟩ => b01 h_8 c_11 ⟨a', g5, g6⟩, rfl, rfl⟩) rfl (Nat.le_of_ble_eq_true rfl) (Nat.le_of_ble_eq_true rfl)
    · obtain ⟨a, ha, rfl⟩ := b01' h_8 c_11
      refine gg_iload_n X dX2_make_14 rfl 2 rfl ?_
      refine gg_if_lt (tgt := 24) X dX2_make_15 (by decide) (fun c_15 => ?_) (fun c_15 => ?_)
      · refine gg_iconst X dX2_make_24 (v := (-1)) (by decide) ?_
        exact gg_iret X dX2_make_25 hr hk u (Or.inr ⟨fun ⟨j', k', a', g1, g2, g3, g4, g5, g6⟩ => ix_no (n := 21) (by decide) (Or.inl c_15) k' (by omega) g4, rfl, rfl⟩) rfl (Nat.le_of_ble_eq_true rfl) (Nat.le_of_ble_eq_true rfl)
      · refine gg_iload_n X dX2_make_18 rfl 2 rfl ?_
        refine gg_bipush X dX2_make_19 (v := nI 20) (by decide) ?_
        refine gg_icmp_le (tgt := 26) X dX2_make_21 (by decide) (fun c_21 => ?_) (fun c_21 => ?_)
        · obtain ⟨k, hk2, rfl⟩ : ∃ k, k ≤ 20 ∧ n = nI k := by
            obtain ⟨k, h1, h2⟩ := nI_of2 (M := nI 20) (n := 20) (by decide) c_15 c_21
            exact ⟨k, h1, h2⟩
          refine gg_aload_n X dX2_make_26 rfl 0 rfl ?_
          refine gg_iconst X dX2_make_27 (v := nI 2) (by decide) ?_
          refine gg_iload_n X dX2_make_28 rfl 2 rfl ?_
          refine gg_iadd X dX2_make_29 (nI_add _ _) ?_
          refine gc_i X (gr_V (q0 := 0) X dX2_make_30 X.2.2.2.2.2.1 (k_room l D F u hc (2 + k) (by omega)) (cwV 1 X.2.2.2.2.1 (gdV (al 53 rfl) (al 54 rfl) (al 231 rfl) (al 1 rfl) (al 55 rfl)) rfl rfl rfl (by decide +kernel) ⟨Nat.le_of_ble_eq_true rfl, Nat.le_of_ble_eq_true rfl⟩) rfl rfl rfl rfl rfl (Nat.le_of_ble_eq_true rfl) ⟨Nat.le_of_ble_eq_true rfl, Nat.le_of_ble_eq_true rfl⟩) (fun r_30 v h_30 => ?_)
          obtain ⟨hwd, h_30⟩ := h_30
          obtain ⟨e1, e2, e3, e4, e5, e6, e7, e8, e9, e10⟩ := id hwd.1
          have hcv : cOk F v := hc.sm hwd.1
          refine gg_if_eq (tgt := 53) X dX2_make_33 (by decide) (fun c_33 => ?_) (fun c_33 => ?_)
          · refine gg_ldc2 X (v := 4294967296) (am 14 rfl) dX2_make_53 ?_
            refine gg_lstore X dX2_make_56 (by decide) rfl ?_
            refine gg_lload X dX2_make_58 0 rfl ?_
            refine gg_ldc2 X (v := 4294967296) (am 14 rfl) dX2_make_60 ?_
            refine gg_lcmp X dX2_make_63 ?_
            refine gg_if_ne (tgt := 72) X dX2_make_64 (by decide) (fun c_64 => ?_) (fun c_64 => ?_)
            · exact absurd ((lg_cmp_eq _ _).mpr rfl) c_64
            · refine gg_aload_n X dX2_make_67 rfl 1 rfl ?_
              refine gc_i X (gr_V (q0 := 0) X dX2_make_68 X.2.2.2.2.2.1 (k_full l D F v) (cwV 0 X.2.2.2.2.1 (gdV (al 90 rfl) (al 91 rfl) (al 241 rfl) (al 1 rfl) (al 92 rfl)) rfl rfl rfl (by decide +kernel) ⟨Nat.le_of_ble_eq_true rfl, Nat.le_of_ble_eq_true rfl⟩) rfl rfl rfl rfl rfl (Nat.le_of_ble_eq_true rfl) ⟨Nat.le_of_ble_eq_true rfl, Nat.le_of_ble_eq_true rfl⟩) (fun r_68 w_68 h_68 => ?_)
              obtain ⟨er, ew3⟩ := h_68
              rw [er, ew3]
              exact gg_iret X dX2_make_71 hr hk (uF v (fU v + 1)) (Or.inl ⟨j, k, a, v, ⟨hj, rfl, hk2, rfl, ha, rfl⟩, hwd, Or.inr ⟨Nat.not_le.mp (b01 h_30 c_33), rfl, by rw [e5]⟩⟩) rfl (Nat.le_of_ble_eq_true rfl) (Nat.le_of_ble_eq_true rfl)
          · refine gg_aload_n X dX2_make_36 rfl 0 rfl ?_
            refine gg_get X dX2_make_37 imX2 0 rfl rfl 3 (by decide) (am 36 rfl) rfl ?_
            refine gg_iload_n X dX2_make_40 rfl 2 rfl ?_
            refine gg_aload_n X dX2_make_41 rfl 0 rfl ?_
            refine gg_get X dX2_make_42 imX2 0 rfl rfl 1 (by decide) (am 34 rfl) rfl ?_
            refine gg_iload_n X dX2_make_45 rfl 3 rfl ?_
            refine gg_lald X dX2_make_46 1 0 rfl rfl a rfl ha (by decide) ?_
            refine gc_l X (gr_VN (q0 := 3) (host := "SliceHeap") X dX2_make_47 X.2.2.2.2.2.1 (k_place l D F v hcv k hk2 (rG v a) (fun i hf => pFst.lt hc hwd (b01' h_30 c_33) hf)) ⟨va_cnB 2 X.2.2.2.2.1 (gd0 (al 74 rfl)) rfl rfl rfl (X.2.2.2.2.2.2.2.1 _ (nw 6 rfl)) (X.2.2.2.2.1 _ (am 3 rfl)) (by decide +kernel) ⟨Nat.le_of_ble_eq_true rfl, Nat.le_of_ble_eq_true rfl⟩, (X.2.2.2.2.1 _ (am 73 rfl)), (X.2.2.2.2.1 _ (am 238 rfl))⟩ rfl rfl rfl rfl rfl (Nat.le_of_ble_eq_true rfl) ⟨Nat.le_of_ble_eq_true rfl, Nat.le_of_ble_eq_true rfl⟩) (fun r_47 v2 h_47 => ?_)
            obtain ⟨i, er, hp⟩ := h_47
            rw [er]
            have hp0 := hp
            obtain ⟨p1, p2, p3, p4, p5, p6, p7, p8, p9, p10, p11, p12, p13⟩ := hp0
            have hi32 : i < 2147483648 := by have := hc.N; omega
            refine gg_goto (tgt := 56) X dX2_make_50 (by decide) ?_
            refine gg_lstore X dX2_make_56 (by decide) rfl ?_
            refine gg_lload X dX2_make_58 0 rfl ?_
            refine gg_ldc2 X (v := 4294967296) (am 14 rfl) dX2_make_60 ?_
            refine gg_lcmp X dX2_make_63 ?_
            refine gg_if_ne (tgt := 72) X dX2_make_64 (by decide) (fun c_64 => ?_) (fun c_64 => ?_)
            · refine gg_aload_n X dX2_make_72 rfl 1 rfl ?_
              refine gg_get X dX2_make_73 imX2 0 rfl rfl 1 (by decide) (am 34 rfl) rfl ?_
              refine gg_iload_n X dX2_make_76 rfl 2 rfl ?_
              refine gg_lload X dX2_make_77 0 rfl ?_
              refine gg_last X dX2_make_79 1 0 rfl rfl j rfl hj (by decide) (ws' := cW F (uR v2 (vp_updL (rG v2) j (oB i)))) rfl ?_
              refine gg_aload_n X dX2_make_80 rfl 1 rfl ?_
              refine gg_dup X dX2_make_81 rfl ?_
              refine gg_get X dX2_make_82 imX2 0 rfl rfl 5 (by decide) (am 38 rfl) rfl ?_
              refine gg_iconst X dX2_make_85 (v := 1) (by decide) ?_
              refine gg_iadd X dX2_make_86 (nI_1 _) ?_
              refine gg_put X dX2_make_87 imX2 tyX2 tyX2_ok nmX2 0 rfl rfl 5 (by decide) (am 38 rfl) (ws' := cW F (uA v2 (vp_updL (rG v2) j (oB i)) (sK v2) (sT v2) (mD v2 + 1) (fU v2))) (ty := .int) rfl (by decide +kernel) rfl rfl (Nat.le_of_ble_eq_true rfl) (rfl) ?_
              refine gg_iconst X dX2_make_90 (v := 1) (by decide) ?_
              exact gg_iret X dX2_make_91 hr hk (uA v2 (vp_updL (rG v2) j (oB i)) (sK v2) (sT v2) (mD v2 + 1) (fU v2)) (Or.inl ⟨j, k, a, v, ⟨hj, rfl, hk2, rfl, ha, rfl⟩, hwd, Or.inl ⟨b01' h_30 c_33, rfl, i, v2, by rw [← e1]; exact hp, by rw [p9, e1, p12, e4]⟩⟩) rfl (Nat.le_of_ble_eq_true rfl) (Nat.le_of_ble_eq_true rfl)
            · exact absurd (c64n.symm.trans ((lg_cmp_eq _ _).mp c_64).symm) (nO_oB hi32)
        · refine gg_iconst X dX2_make_24 (v := (-1)) (by decide) ?_
          exact gg_iret X dX2_make_25 hr hk u (Or.inr ⟨fun ⟨j', k', a', g1, g2, g3, g4, g5, g6⟩ => c_21 (by rw [g4]; exact nI_le g3 (by omega)), rfl, rfl⟩) rfl (Nat.le_of_ble_eq_true rfl) (Nat.le_of_ble_eq_true rfl)
set_option maxHeartbeats 4000000 in
set_option maxRecDepth 100000 in
theorem k_count (l : Launch) (D : va_G) (F : CF) (u : CS) (hc : cOk F u) (q : Int32) : mG l yX2_count wX2_count ({ frames := 4, cells := 0, slots := 0, locals := 89 }) D vwCl (cT F) [.ref (kH F), .int q] (cW F u) (qI D vwCl (fun (x : Int32) (w : CS) => cpCount u q x w) (cW F)) := by
  refine gg_met (cc := cX2_count) (nL := 2) (ret := (some .int)) (lv := [(0, .ref (kH F)), (1, .int q)]) (by decide) rfl rfl (Nat.le_of_ble_eq_true rfl) ?_
  intro p_ e_ s_ m_ bl_ me_ cc_ A_ X hr hk hnm
  refine gg_iload_n X dX2_count_0 rfl 1 rfl ?_
  have hsw := id dX2_count_1
  by_cases n0 : q = 0
  · subst n0
    refine gg_tableIn (tgt := 36) X dX2_count_1 (by decide) (by decide) (by rfl) (by decide) ?_
    refine gg_aload_n X dX2_count_36 rfl 0 rfl ?_
    refine gc_v X (gr_V (q0 := 0) X dX2_count_37 X.2.2.2.2.2.1 (k_walk l D F u hc) (cwV 0 X.2.2.2.2.1 (gdV (al 56 rfl) (al 57 rfl) (al 232 rfl) (al 1 rfl) (al 58 rfl)) rfl rfl rfl (by decide +kernel) ⟨Nat.le_of_ble_eq_true rfl, Nat.le_of_ble_eq_true rfl⟩) rfl rfl rfl rfl rfl (Nat.le_of_ble_eq_true rfl) ⟨Nat.le_of_ble_eq_true rfl, Nat.le_of_ble_eq_true rfl⟩) (fun v hv => ?_)
    refine gg_aload_n X dX2_count_40 rfl 0 rfl ?_
    refine gg_get X dX2_count_41 imX2 0 rfl rfl 3 (by decide) (am 36 rfl) rfl ?_
    refine gg_getN (host := "SliceHeap") X dX2_count_44 imX0 3 rfl rfl 3 (by decide) (X.2.2.2.2.2.2.2.1 _ (nw 2 rfl)) rfl ?_
    exact gg_iret X dX2_count_47 hr hk v (Or.inl ⟨rfl, hv, rfl⟩) rfl (Nat.le_of_ble_eq_true rfl) (Nat.le_of_ble_eq_true rfl)
  by_cases n1 : q = 1
  · subst n1
    refine gg_tableIn (tgt := 48) X dX2_count_1 (by decide) (by decide) (by rfl) (by decide) ?_
    refine gg_aload_n X dX2_count_48 rfl 0 rfl ?_
    refine gc_v X (gr_V (q0 := 0) X dX2_count_49 X.2.2.2.2.2.1 (k_walk l D F u hc) (cwV 0 X.2.2.2.2.1 (gdV (al 56 rfl) (al 57 rfl) (al 232 rfl) (al 1 rfl) (al 58 rfl)) rfl rfl rfl (by decide +kernel) ⟨Nat.le_of_ble_eq_true rfl, Nat.le_of_ble_eq_true rfl⟩) rfl rfl rfl rfl rfl (Nat.le_of_ble_eq_true rfl) ⟨Nat.le_of_ble_eq_true rfl, Nat.le_of_ble_eq_true rfl⟩) (fun v hv => ?_)
    refine gg_aload_n X dX2_count_52 rfl 0 rfl ?_
    refine gg_get X dX2_count_53 imX2 0 rfl rfl 3 (by decide) (am 36 rfl) rfl ?_
    refine gg_getN (host := "SliceHeap") X dX2_count_56 imX0 3 rfl rfl 2 (by decide) (X.2.2.2.2.2.2.2.1 _ (nw 1 rfl)) rfl ?_
    exact gg_iret X dX2_count_59 hr hk v (Or.inr (Or.inl ⟨rfl, hv, rfl⟩)) rfl (Nat.le_of_ble_eq_true rfl) (Nat.le_of_ble_eq_true rfl)
  by_cases n2 : q = 2
  · subst n2
    refine gg_tableIn (tgt := 60) X dX2_count_1 (by decide) (by decide) (by rfl) (by decide) ?_
    refine gg_aload_n X dX2_count_60 rfl 0 rfl ?_
    refine gg_get X dX2_count_61 imX2 0 rfl rfl 4 (by decide) (am 37 rfl) rfl ?_
    exact gg_iret X dX2_count_64 hr hk u (Or.inr (Or.inr ⟨rfl, Or.inl ⟨rfl, rfl⟩⟩)) rfl (Nat.le_of_ble_eq_true rfl) (Nat.le_of_ble_eq_true rfl)
  by_cases n3 : q = 3
  · subst n3
    refine gg_tableIn (tgt := 65) X dX2_count_1 (by decide) (by decide) (by rfl) (by decide) ?_
    refine gg_aload_n X dX2_count_65 rfl 0 rfl ?_
    refine gg_get X dX2_count_66 imX2 0 rfl rfl 5 (by decide) (am 38 rfl) rfl ?_
    exact gg_iret X dX2_count_69 hr hk u (Or.inr (Or.inr ⟨rfl, Or.inr (Or.inl ⟨rfl, rfl⟩)⟩)) rfl (Nat.le_of_ble_eq_true rfl) (Nat.le_of_ble_eq_true rfl)
  by_cases n4 : q = 4
  · subst n4
    refine gg_tableIn (tgt := 70) X dX2_count_1 (by decide) (by decide) (by rfl) (by decide) ?_
    refine gg_aload_n X dX2_count_70 rfl 0 rfl ?_
    refine gg_get X dX2_count_71 imX2 0 rfl rfl 6 (by decide) (am 39 rfl) rfl ?_
    exact gg_iret X dX2_count_74 hr hk u (Or.inr (Or.inr ⟨rfl, Or.inr (Or.inr (Or.inl ⟨rfl, rfl⟩))⟩)) rfl (Nat.le_of_ble_eq_true rfl) (Nat.le_of_ble_eq_true rfl)
  refine gg_tableOut (tgt := 75) X dX2_count_1 (by
    have hcases : ∀ z : Int32, (¬ z = 0 ∧ ¬ z = 1 ∧ ¬ z = 2 ∧ ¬ z = 3 ∧ ¬ z = 4) → (z.toInt < 0 ∨ 4 < z.toInt) := sw4
    exact hcases _ ⟨n0, n1, n2, n3, n4⟩) (by decide) ?_
  refine gg_iconst X dX2_count_75 (v := (-1)) (by decide) ?_
  exact gg_iret X dX2_count_76 hr hk u (Or.inr (Or.inr ⟨rfl, Or.inr (Or.inr (Or.inr ⟨n0, n1, n2, n3, n4, rfl⟩))⟩)) rfl (Nat.le_of_ble_eq_true rfl) (Nat.le_of_ble_eq_true rfl)
end
section
set_option maxHeartbeats 4000000 in
set_option maxRecDepth 100000 in
theorem k_isRd (l : Launch) (D : va_G) (tys : List (ClassId × FieldType)) (ws : va_W) (r : Int32) : mG l yX3_isRegister wX3_isRegister ({ frames := 0, cells := 0, slots := 0, locals := 0 }) D vwCl tys [.int r] ws (qI D vwCl (fun (x : Int32) (_ : Unit) => (isR r ∧ x = 1) ∨ (¬ isR r ∧ x = 0)) (fun _ => ws)) := by
  refine gg_met (cc := cX3_isRegister) (nL := 1) (ret := (some .boolean)) (lv := [(0, .int r)]) (by decide) rfl rfl (Nat.le_of_ble_eq_true rfl) ?_
  intro p_ e_ s_ m_ bl_ me_ cc_ A_ X hr hk hnm
  refine gg_iload_n X dX3_isRegister_0 rfl 0 rfl ?_
  refine gg_if_lt (tgt := 14) X dX3_isRegister_1 (by decide) (fun c_1 => ?_) (fun c_1 => ?_)
  · refine gg_iconst X dX3_isRegister_14 (v := 0) (by decide) ?_
    exact gg_zret X dX3_isRegister_15 hr hk rfl () (Or.inr ⟨isR_no (Or.inl c_1), rfl⟩) rfl (Nat.le_of_ble_eq_true rfl) (Nat.le_of_ble_eq_true rfl)
  · refine gg_iload_n X dX3_isRegister_4 rfl 0 rfl ?_
    refine gg_bipush X dX3_isRegister_5 (v := nI 10) (by decide) ?_
    refine gg_icmp_ge (tgt := 14) X dX3_isRegister_7 (by decide) (fun c_7 => ?_) (fun c_7 => ?_)
    · refine gg_iconst X dX3_isRegister_14 (v := 0) (by decide) ?_
      exact gg_zret X dX3_isRegister_15 hr hk rfl () (Or.inr ⟨isR_no (Or.inr c_7), rfl⟩) rfl (Nat.le_of_ble_eq_true rfl) (Nat.le_of_ble_eq_true rfl)
    · refine gg_iconst X dX3_isRegister_10 (v := 1) (by decide) ?_
      refine gg_goto (tgt := 15) X dX3_isRegister_11 (by decide) ?_
      exact gg_zret X dX3_isRegister_15 hr hk rfl () (Or.inl ⟨isR_yes c_1 c_7, rfl⟩) rfl (Nat.le_of_ble_eq_true rfl) (Nat.le_of_ble_eq_true rfl)
set_option maxHeartbeats 4000000 in
set_option maxRecDepth 100000 in
theorem k_placeOf (l : Launch) (D : va_G) (tys : List (ClassId × FieldType)) (ws : va_W) (o k : Nat) : mG l yX3_placeOf wX3_placeOf ({ frames := 0, cells := 0, slots := 0, locals := 0 }) D vwCl tys [.int (nI o), .int (nI k)] ws (qI D vwCl (fun (x : Int32) (_ : Unit) => x = nI (pL o k)) (fun _ => ws)) := by
  refine gg_met (cc := cX3_placeOf) (nL := 2) (ret := (some .int)) (lv := [(0, .int (nI o)), (1, .int (nI k))]) (by decide) rfl rfl (Nat.le_of_ble_eq_true rfl) ?_
  intro p_ e_ s_ m_ bl_ me_ cc_ A_ X hr hk hnm
  refine gg_bipush X dX3_placeOf_0 (v := nI 60) (by decide) ?_
  refine gg_bipush X dX3_placeOf_2 (v := nI 20) (by decide) ?_
  refine gg_iload_n X dX3_placeOf_4 rfl 0 rfl ?_
  refine gg_imul X dX3_placeOf_5 rfl ?_
  refine gg_iadd X dX3_placeOf_6 rfl ?_
  refine gg_iload_n X dX3_placeOf_7 rfl 1 rfl ?_
  refine gg_iadd X dX3_placeOf_8 rfl ?_
  exact gg_iret X dX3_placeOf_9 hr hk () (pL_I) rfl (Nat.le_of_ble_eq_true rfl) (Nat.le_of_ble_eq_true rfl)
set_option maxHeartbeats 4000000 in
set_option maxRecDepth 100000 in
theorem k_hasObject (l : Launch) (D : va_G) (G : DF) (t : DS) (hk0 : dOk t) (r : Int32) : mG l yX3_hasObject wX3_hasObject ({ frames := 1, cells := 0, slots := 0, locals := 20 }) D vwCl (dT G) [.ref (dH G), .int r] (dW G t) (qI D vwCl (fun (x : Int32) (w : DS) => w = t ∧ (((∃ j o, j < 10 ∧ r = nI j ∧ gK t j = 2 ∧ o < gM t ∧ gV t j = nI o) ∧ x = 1) ∨ (¬ (∃ j o, j < 10 ∧ r = nI j ∧ gK t j = 2 ∧ o < gM t ∧ gV t j = nI o) ∧ x = 0))) (dW G)) := by
  refine gg_met (cc := cX3_hasObject) (nL := 2) (ret := (some .boolean)) (lv := [(0, .ref (dH G)), (1, .int r)]) (by decide) rfl rfl (Nat.le_of_ble_eq_true rfl) ?_
  intro p_ e_ s_ m_ bl_ me_ cc_ A_ X hr hk hnm
  refine gg_iload_n X dX3_hasObject_0 rfl 1 rfl ?_
  refine gc_i X (gr_S X dX3_hasObject_1 X.2.2.2.2.2.1 (k_isRd l D (dT G) (dW G t) r) (cwS 1 X.2.2.2.2.1 (gdS (al 165 rfl) (al 166 rfl) (al 4 rfl) (al 167 rfl)) rfl rfl rfl (by decide +kernel) ⟨Nat.le_of_ble_eq_true rfl, Nat.le_of_ble_eq_true rfl⟩) rfl rfl (Nat.le_of_ble_eq_true rfl) ⟨Nat.le_of_ble_eq_true rfl, Nat.le_of_ble_eq_true rfl⟩) (fun r_1 w_1 h_1 => ?_)
  refine gg_if_eq (tgt := 21) X dX3_hasObject_4 (by decide) (fun c_4 => ?_) (fun c_4 => ?_)
  · refine gg_iconst X dX3_hasObject_21 (v := 0) (by decide) ?_
    exact gg_zret X dX3_hasObject_22 hr hk rfl t (⟨rfl, Or.inr ⟨fun ⟨j, o, h1, h2, _⟩ => b01 h_1 c_4 ⟨j, h1, h2⟩, rfl⟩⟩) rfl (Nat.le_of_ble_eq_true rfl) (Nat.le_of_ble_eq_true rfl)
  · obtain ⟨j, hj, rfl⟩ := b01' h_1 c_4
    refine gg_aload_n X dX3_hasObject_7 rfl 0 rfl ?_
    refine gg_get X dX3_hasObject_8 imX3 0 rfl rfl 1 (by decide) (am 144 rfl) rfl ?_
    refine gg_iload_n X dX3_hasObject_11 rfl 1 rfl ?_
    refine gg_bald X dX3_hasObject_12 1 0 rfl rfl j rfl (by omega) (by decide) ?_
    refine gg_iconst X dX3_hasObject_13 (v := 2) (by decide) ?_
    refine gg_icmp_ne (tgt := 21) X dX3_hasObject_14 (by decide) (fun c_14 => ?_) (fun c_14 => ?_)
    · refine gg_iconst X dX3_hasObject_21 (v := 0) (by decide) ?_
      exact gg_zret X dX3_hasObject_22 hr hk rfl t (⟨rfl, Or.inr ⟨fun ⟨j', o, h1, h2, h3, _⟩ => by
          have e := r_inj (by omega) (by omega) h2
          subst e
          exact c_14 h3, rfl⟩⟩) rfl (Nat.le_of_ble_eq_true rfl) (Nat.le_of_ble_eq_true rfl)
    · refine gg_iconst X dX3_hasObject_17 (v := 1) (by decide) ?_
      refine gg_goto (tgt := 22) X dX3_hasObject_18 (by decide) ?_
      rcases hk0.2.2.2 j (Or.inl (by omega)) with ⟨h, -⟩ | h | ⟨h, o, ho, hv⟩
      · rw [h] at c_14; exact absurd c_14 (by decide)
      · rw [h] at c_14; exact absurd c_14 (by decide)
      · exact gg_zret X dX3_hasObject_22 hr hk rfl t (⟨rfl, Or.inl ⟨⟨j, o, hj, rfl, h, ho, hv⟩, rfl⟩⟩) rfl (Nat.le_of_ble_eq_true rfl) (Nat.le_of_ble_eq_true rfl)
set_option maxHeartbeats 4000000 in
set_option maxRecDepth 100000 in
theorem k_move (l : Launch) (D : va_G) (G : DF) (t : DS) (p q : Nat) (hp : p < 10460) (hq : q < 10460) (hb : vp_nar .byte (gK t q) = gK t q) : mG l yX3_move wX3_move ({ frames := 0, cells := 0, slots := 0, locals := 0 }) D vwCl (dT G) [.ref (dH G), .int (nI p), .int (nI q)] (dW G t) (qV D vwCl (fun (w : DS) => w = wV t (upd (gK t) p (gK t q)) (upd (gV t) p (gV t q))) (dW G)) := by
  refine gg_met (cc := cX3_move) (nL := 3) (ret := none) (lv := [(0, .ref (dH G)), (1, .int (nI p)), (2, .int (nI q))]) (by decide) rfl rfl (Nat.le_of_ble_eq_true rfl) ?_
  intro p_ e_ s_ m_ bl_ me_ cc_ A_ X hr hk hnm
  refine gg_aload_n X dX3_move_0 rfl 0 rfl ?_
  refine gg_get X dX3_move_1 imX3 0 rfl rfl 1 (by decide) (am 144 rfl) rfl ?_
  refine gg_iload_n X dX3_move_4 rfl 1 rfl ?_
  refine gg_aload_n X dX3_move_5 rfl 0 rfl ?_
  refine gg_get X dX3_move_6 imX3 0 rfl rfl 1 (by decide) (am 144 rfl) rfl ?_
  refine gg_iload_n X dX3_move_9 rfl 2 rfl ?_
  refine gg_bald X dX3_move_10 1 0 rfl rfl q rfl hq (by decide) ?_
  refine gg_bast X dX3_move_11 1 0 rfl rfl p rfl hp (by decide) hb (ws' := dW G (wV t (upd (gK t) p (gK t q)) (gV t))) rfl ?_
  refine gg_aload_n X dX3_move_12 rfl 0 rfl ?_
  refine gg_get X dX3_move_13 imX3 0 rfl rfl 2 (by decide) (am 145 rfl) rfl ?_
  refine gg_iload_n X dX3_move_16 rfl 1 rfl ?_
  refine gg_aload_n X dX3_move_17 rfl 0 rfl ?_
  refine gg_get X dX3_move_18 imX3 0 rfl rfl 2 (by decide) (am 145 rfl) rfl ?_
  refine gg_iload_n X dX3_move_21 rfl 2 rfl ?_
  refine gg_iald X dX3_move_22 2 1 rfl rfl q rfl hq (by decide) ?_
  refine gg_iast X dX3_move_23 2 1 rfl rfl p rfl hp (by decide) (ws' := dW G (wV t (upd (gK t) p (gK t q)) (upd (gV t) p (gV t q)))) rfl ?_
  exact gg_vret X dX3_move_24 hr hk (wV t (upd (gK t) p (gK t q)) (upd (gV t) p (gV t q))) (rfl) rfl (Nat.le_of_ble_eq_true rfl) (Nat.le_of_ble_eq_true rfl)
set_option maxHeartbeats 4000000 in
set_option maxRecDepth 100000 in
theorem k_empty (l : Launch) (D : va_G) (G : DF) (t : DS) (p : Nat) (hp : p < 10460) : mG l yX3_empty wX3_empty ({ frames := 0, cells := 0, slots := 0, locals := 0 }) D vwCl (dT G) [.ref (dH G), .int (nI p)] (dW G t) (qV D vwCl (fun (w : DS) => w = wV t (upd (gK t) p 0) (upd (gV t) p 0)) (dW G)) := by
  refine gg_met (cc := cX3_empty) (nL := 2) (ret := none) (lv := [(0, .ref (dH G)), (1, .int (nI p))]) (by decide) rfl rfl (Nat.le_of_ble_eq_true rfl) ?_
  intro p_ e_ s_ m_ bl_ me_ cc_ A_ X hr hk hnm
  refine gg_aload_n X dX3_empty_0 rfl 0 rfl ?_
  refine gg_get X dX3_empty_1 imX3 0 rfl rfl 1 (by decide) (am 144 rfl) rfl ?_
  refine gg_iload_n X dX3_empty_4 rfl 1 rfl ?_
  refine gg_iconst X dX3_empty_5 (v := 0) (by decide) ?_
  refine gg_bast X dX3_empty_6 1 0 rfl rfl p rfl hp (by decide) (by decide) (ws' := dW G (wV t (upd (gK t) p 0) (gV t))) rfl ?_
  refine gg_aload_n X dX3_empty_7 rfl 0 rfl ?_
  refine gg_get X dX3_empty_8 imX3 0 rfl rfl 2 (by decide) (am 145 rfl) rfl ?_
  refine gg_iload_n X dX3_empty_11 rfl 1 rfl ?_
  refine gg_iconst X dX3_empty_12 (v := 0) (by decide) ?_
  refine gg_iast X dX3_empty_13 2 1 rfl rfl p rfl hp (by decide) (ws' := dW G (wV t (upd (gK t) p 0) (upd (gV t) p 0))) rfl ?_
  exact gg_vret X dX3_empty_14 hr hk (wV t (upd (gK t) p 0) (upd (gV t) p 0)) (rfl) rfl (Nat.le_of_ble_eq_true rfl) (Nat.le_of_ble_eq_true rfl)
set_option maxHeartbeats 4000000 in
set_option maxRecDepth 100000 in
theorem k_reachd (l : Launch) (D : va_G) (G : DF) (t : DS) (hm : gM t ≤ 512) (p : Nat) (hp : p < 10460) (hl : gK t p = 2 → ∃ o, o < gM t ∧ gV t p = nI o) : mG l yX3_reach wX3_reach ({ frames := 0, cells := 0, slots := 0, locals := 0 }) D vwCl (dT G) [.ref (dH G), .int (nI p)] (dW G t) (qI D vwCl (fun (x : Int32) (w : DS) => ∃ R, w = wR t R ∧ gRh t (gR t) p x R) (dW G)) := by
  refine gg_met (cc := cX3_reach) (nL := 2) (ret := (some .boolean)) (lv := [(0, .ref (dH G)), (1, .int (nI p))]) (by decide) rfl rfl (Nat.le_of_ble_eq_true rfl) ?_
  intro p_ e_ s_ m_ bl_ me_ cc_ A_ X hr hk hnm
  refine gg_aload_n X dX3_reach_0 rfl 0 rfl ?_
  refine gg_get X dX3_reach_1 imX3 0 rfl rfl 1 (by decide) (am 144 rfl) rfl ?_
  refine gg_iload_n X dX3_reach_4 rfl 1 rfl ?_
  refine gg_bald X dX3_reach_5 1 0 rfl rfl p rfl hp (by decide) ?_
  refine gg_iconst X dX3_reach_6 (v := 2) (by decide) ?_
  refine gg_icmp_ne (tgt := 24) X dX3_reach_7 (by decide) (fun c_7 => ?_) (fun c_7 => ?_)
  · refine gg_iconst X dX3_reach_24 (v := 0) (by decide) ?_
    exact gg_zret X dX3_reach_25 hr hk rfl t (⟨gR t, rfl, Or.inr ⟨fun h => absurd h c_7, rfl, rfl⟩⟩) rfl (Nat.le_of_ble_eq_true rfl) (Nat.le_of_ble_eq_true rfl)
  · obtain ⟨o, ho, hv⟩ := hl c_7
    refine gg_aload_n X dX3_reach_10 rfl 0 rfl ?_
    refine gg_get X dX3_reach_11 imX3 0 rfl rfl 6 (by decide) (am 149 rfl) rfl ?_
    refine gg_aload_n X dX3_reach_14 rfl 0 rfl ?_
    refine gg_get X dX3_reach_15 imX3 0 rfl rfl 2 (by decide) (am 145 rfl) rfl ?_
    refine gg_iload_n X dX3_reach_18 rfl 1 rfl ?_
    refine gg_iald X dX3_reach_19 2 1 rfl rfl p rfl hp (by decide) ?_
    rw [hv]
    refine gg_zald X dX3_reach_20 4 2 rfl rfl o rfl (by omega) (by decide) ?_
    refine gg_if_eq (tgt := 26) X dX3_reach_21 (by decide) (fun c_21 => ?_) (fun c_21 => ?_)
    · refine gg_aload_n X dX3_reach_26 rfl 0 rfl ?_
      refine gg_get X dX3_reach_27 imX3 0 rfl rfl 6 (by decide) (am 149 rfl) rfl ?_
      refine gg_aload_n X dX3_reach_30 rfl 0 rfl ?_
      refine gg_get X dX3_reach_31 imX3 0 rfl rfl 2 (by decide) (am 145 rfl) rfl ?_
      refine gg_iload_n X dX3_reach_34 rfl 1 rfl ?_
      refine gg_iald X dX3_reach_35 2 1 rfl rfl p rfl hp (by decide) ?_
      refine gg_iconst X dX3_reach_36 (v := bI true) (by decide) ?_
      rw [hv]
      refine gg_zast X dX3_reach_37 4 2 rfl rfl o rfl (by omega) (by decide) (by decide) (ws' := dW G (wR t (va_up (gR t) o true))) (by rw [upd_bI]; rfl) ?_
      refine gg_iconst X dX3_reach_38 (v := 1) (by decide) ?_
      exact gg_zret X dX3_reach_39 hr hk rfl (wR t (va_up (gR t) o true)) (⟨_, rfl, Or.inl ⟨o, ho, c_7, hv, bI_0 c_21, rfl, rfl⟩⟩) rfl (Nat.le_of_ble_eq_true rfl) (Nat.le_of_ble_eq_true rfl)
    · refine gg_iconst X dX3_reach_24 (v := 0) (by decide) ?_
      exact gg_zret X dX3_reach_25 hr hk rfl t (⟨gR t, rfl, Or.inr ⟨fun _ => ⟨o, ho, hv, bI_1 c_21⟩, rfl, rfl⟩⟩) rfl (Nat.le_of_ble_eq_true rfl) (Nat.le_of_ble_eq_true rfl)
set_option maxHeartbeats 4000000 in
set_option maxRecDepth 100000 in
theorem k_goOver (l : Launch) (D : va_G) (G : DF) (t : DS) (hk0 : dOk t)  : mG l yX3_goOver wX3_goOver ({ frames := 1, cells := 0, slots := 0, locals := 21 }) D vwCl (dT G) [.ref (dH G)] (dW G t) (qV D vwCl (fun (w : DS) => ∃ R, w = wR t R ∧ DW t R) (dW G)) := by
  refine gg_met (cc := cX3_goOver) (nL := 4) (ret := none) (lv := [(0, .ref (dH G))]) (by decide) rfl rfl (Nat.le_of_ble_eq_true rfl) ?_
  intro p_ e_ s_ m_ bl_ me_ cc_ A_ X hr hk hnm
  have hm := hk0.2.1
  have h50 := hk0.1
  refine gg_iconst X dX3_goOver_0 (v := nI 0) (by decide) ?_
  refine gg_istore_n X dX3_goOver_1 rfl (by decide) rfl ?_
  refine gg_loop (ι := Nat × (Nat → Bool)) (fun a => a.1 ≤ gM t ∧ ∀ k, k < a.1 → a.2 k = false) (fun a => gM t - a.1) (fun a => dW G (wR t a.2)) (fun a => [(1, .int (nI a.1)), (0, .ref (dH G))]) ?_ (0, gR t) ⟨Nat.zero_le _, fun k hk => absurd hk (Nat.not_lt_zero k)⟩
  intro a ha ih1
  obtain ⟨q, R⟩ := a
  obtain ⟨h1, h2⟩ := ha
  have h1 : q ≤ gM t := h1
  have h2 : ∀ k, k < q → R k = false := h2
  refine gg_iload_n X dX3_goOver_2 rfl 0 rfl ?_
  refine gg_aload_n X dX3_goOver_3 rfl 1 rfl ?_
  refine gg_get X dX3_goOver_4 imX3 0 rfl rfl 4 (by decide) (am 147 rfl) rfl ?_
  refine gg_icmp_ge (tgt := 23) X dX3_goOver_7 (by decide) (fun c_7 => ?_) (fun c_7 => ?_)
  · have hq2 : gM t ≤ q := (nI_leI (a := gM t) (b := q) (by omega) (by omega)).mp c_7
    refine gg_iconst X dX3_goOver_23 (v := nI 0) (by decide) ?_
    refine gg_istore_n X dX3_goOver_24 rfl (by decide) rfl ?_
    refine gg_loop (ι := Nat × (Nat → Bool)) (fun a => a.1 ≤ 10 + gT t ∧ gSd t a.2 ∧ gRt t a.2 a.1) (fun a => 10 + gT t - a.1) (fun a => dW G (wR t a.2)) (fun a => [(1, .int (nI a.1)), (0, .ref (dH G))]) ?_ (0, R) ⟨Nat.zero_le _, fun o ho hr => absurd (show R o = true from hr) (by rw [h2 o (by omega)]; decide), fun p hp => absurd hp (Nat.not_lt_zero p)⟩
    clear ih1
    intro a ha ih2
    obtain ⟨z, R2⟩ := a
    obtain ⟨h3, h4, h5⟩ := ha
    have h3 : z ≤ 10 + gT t := h3
    have h4 : gSd t R2 := h4
    have h5 : gRt t R2 z := h5
    refine gg_iload_n X dX3_goOver_25 rfl 0 rfl ?_
    refine gg_bipush X dX3_goOver_26 (v := nI 10) (by decide) ?_
    refine gg_aload_n X dX3_goOver_28 rfl 1 rfl ?_
    refine gg_get X dX3_goOver_29 imX3 0 rfl rfl 3 (by decide) (am 146 rfl) rfl ?_
    refine gg_iadd X dX3_goOver_32 (nI_add _ _) ?_
    refine gg_icmp_ge (tgt := 48) X dX3_goOver_33 (by decide) (fun c_33 => ?_) (fun c_33 => ?_)
    · have hz : z = 10 + gT t := by have := (nI_leI (a := 10 + gT t) (b := z) (by omega) (by omega)).mp c_33; omega
      refine gg_iconst X dX3_goOver_48 (v := bI true) (by decide) ?_
      refine gg_istore_n X dX3_goOver_49 rfl (by decide) rfl ?_
      refine gg_loop (ι := (Nat → Bool) × Bool) (fun a => gWh t a.1 a.2) (fun a => (if a.2 = true then 1 else 0) + 2 * (gM t - sm a.1 (fun _ => 1) (gM t))) (fun a => dW G (wR t a.1)) (fun a => [(1, .int (bI a.2)), (0, .ref (dH G))]) ?_ (R2, true) ⟨h4, by rw [hz] at h5; exact h5, fun h => by cases h⟩
      clear ih2
      intro a ha ih3
      obtain ⟨R0, b0⟩ := a
      have ha : gWh t R0 b0 := ha
      refine gg_iload_n X dX3_goOver_50 rfl 0 rfl ?_
      refine gg_if_eq (tgt := 124) X dX3_goOver_51 (by decide) (fun c_51 => ?_) (fun c_51 => ?_)
      · have hb0 : b0 = false := bI_0 c_51
        exact gg_vret X dX3_goOver_124 hr hk (wR t R0) (⟨R0, rfl, DW.of ha.1 ha.2.1 (ha.2.2 hb0)⟩) rfl (Nat.le_of_ble_eq_true rfl) (Nat.le_of_ble_eq_true rfl)
      · have hb0 : b0 = true := bI_1 c_51
        refine gg_iconst X dX3_goOver_54 (v := bI false) (by decide) ?_
        refine gg_istore_n X dX3_goOver_55 rfl (by decide) rfl ?_
        refine gg_iconst X dX3_goOver_56 (v := nI 0) (by decide) ?_
        refine gg_istore_n X dX3_goOver_57 rfl (by decide) rfl ?_
        refine gg_loop (ι := Nat × (Nat → Bool) × Bool) (fun a => a.1 ≤ gM t ∧ gPs t R0 a.1 0 a.2.1 a.2.2) (fun a => gM t - a.1) (fun a => dW G (wR t a.2.1)) (fun a => [(2, .int (nI a.1)), (1, .int (bI a.2.2)), (0, .ref (dH G))]) ?_ (0, R0, false) ⟨Nat.zero_le _, gPs.start ha.1⟩
        intro a hb ih4
        obtain ⟨k, R4, b4⟩ := a
        obtain ⟨h8, h7⟩ := hb
        have h8 : k ≤ gM t := h8
        have h7 : gPs t R0 k 0 R4 b4 := h7
        refine gg_iload_n X dX3_goOver_58 rfl 0 rfl ?_
        refine gg_aload_n X dX3_goOver_59 rfl 2 rfl ?_
        refine gg_get X dX3_goOver_60 imX3 0 rfl rfl 4 (by decide) (am 147 rfl) rfl ?_
        refine gg_icmp_ge (tgt := 121) X dX3_goOver_63 (by decide) (fun c_63 => ?_) (fun c_63 => ?_)
        · have hk9 : gM t ≤ k := (nI_leI (a := gM t) (b := k) (by omega) (by omega)).mp c_63
          have e : k = gM t := by omega
          subst e
          refine gg_goto (tgt := 50) X dX3_goOver_121 (by decide) ?_
          refine gg_lv [1, 2] rfl ?_
          exact ih3 (R4, b4) (ha.pass h7) (by
            show (if b4 = true then 1 else 0) + 2 * (gM t - sm R4 (fun _ => 1) (gM t)) < (if b0 = true then 1 else 0) + 2 * (gM t - sm R0 (fun _ => 1) (gM t))
            rw [hb0, if_pos rfl]
            exact gWh.less h7)
        · have hk9 : ¬ gM t ≤ k := fun h => c_63 ((nI_leI (a := gM t) (b := k) (by omega) (by omega)).mpr h)
          refine gg_iconst X dX3_goOver_66 (v := nI 0) (by decide) ?_
          refine gg_istore_n X dX3_goOver_67 rfl (by decide) rfl ?_
          refine gg_loop (ι := Nat × (Nat → Bool) × Bool) (fun a => a.1 ≤ gS t k ∧ gPs t R0 k a.1 a.2.1 a.2.2) (fun a => gS t k - a.1) (fun a => dW G (wR t a.2.1)) (fun a => [(3, .int (nI a.1)), (2, .int (nI k)), (1, .int (bI a.2.2)), (0, .ref (dH G))]) ?_ (0, R4, b4) ⟨Nat.zero_le _, h7⟩
          intro a hb ih5
          obtain ⟨i, R5, b5⟩ := a
          obtain ⟨h10, h9⟩ := hb
          have h10 : i ≤ gS t k := h10
          have h9 : gPs t R0 k i R5 b5 := h9
          have h20 := hk0.2.2.1 k (by omega)
          refine gg_iload_n X dX3_goOver_68 rfl 0 rfl ?_
          refine gg_aload_n X dX3_goOver_69 rfl 3 rfl ?_
          refine gg_get X dX3_goOver_70 imX3 0 rfl rfl 5 (by decide) (am 148 rfl) rfl ?_
          refine gg_iload_n X dX3_goOver_73 rfl 1 rfl ?_
          refine gg_iald X dX3_goOver_74 3 1 rfl rfl k rfl (by omega) (by decide) ?_
          refine gg_icmp_ge (tgt := 115) X dX3_goOver_75 (by decide) (fun c_75 => ?_) (fun c_75 => ?_)
          · have hend : gS t k ≤ i ∨ R5 k = false := Or.inl ((nI_leI (a := gS t k) (b := i) (by omega) (by omega)).mp c_75)
            refine gg_iinc X dX3_goOver_115 1 rfl (nI_1 _) (by decide) rfl ?_
            refine gg_goto (tgt := 58) X dX3_goOver_118 (by decide) ?_
            refine gg_lv [0, 2, 3] rfl ?_
            exact ih4 (k + 1, R5, b5) ⟨by show k + 1 ≤ gM t; omega, h9.next hend⟩ (by show gM t - (k + 1) < gM t - k; omega)
          · have hi9 : ¬ gS t k ≤ i := fun h => c_75 ((nI_leI (a := gS t k) (b := i) (by omega) (by omega)).mpr h)
            refine gg_aload_n X dX3_goOver_78 rfl 3 rfl ?_
            refine gg_get X dX3_goOver_79 imX3 0 rfl rfl 6 (by decide) (am 149 rfl) rfl ?_
            refine gg_iload_n X dX3_goOver_82 rfl 1 rfl ?_
            refine gg_zald X dX3_goOver_83 4 2 rfl rfl k rfl (by omega) (by decide) ?_
            refine gg_if_eq (tgt := 115) X dX3_goOver_84 (by decide) (fun c_84 => ?_) (fun c_84 => ?_)
            · have hend : gS t k ≤ i ∨ R5 k = false := Or.inr (bI_0 c_84)
              refine gg_iinc X dX3_goOver_115 1 rfl (nI_1 _) (by decide) rfl ?_
              refine gg_goto (tgt := 58) X dX3_goOver_118 (by decide) ?_
              refine gg_lv [0, 2, 3] rfl ?_
              exact ih4 (k + 1, R5, b5) ⟨by show k + 1 ≤ gM t; omega, h9.next hend⟩ (by show gM t - (k + 1) < gM t - k; omega)
            · have hrk : R5 k = true := bI_1 c_84
              refine gg_aload_n X dX3_goOver_87 rfl 3 rfl ?_
              refine gg_iload_n X dX3_goOver_88 rfl 1 rfl ?_
              refine gg_iload_n X dX3_goOver_89 rfl 0 rfl ?_
              refine gc_i X (gr_S X dX3_goOver_90 X.2.2.2.2.2.1 (k_placeOf l D (dT G) (dW G (wR t R5)) k i) (cwS 2 X.2.2.2.2.1 (gdS (al 180 rfl) (al 181 rfl) (al 4 rfl) (al 182 rfl)) rfl rfl rfl (by decide +kernel) ⟨Nat.le_of_ble_eq_true rfl, Nat.le_of_ble_eq_true rfl⟩) rfl rfl (Nat.le_of_ble_eq_true rfl) ⟨Nat.le_of_ble_eq_true rfl, Nat.le_of_ble_eq_true rfl⟩) (fun r_90 w_90 h_90 => ?_)
              rw [h_90]
              refine gc_i X (gr_V (q0 := 0) X dX3_goOver_93 X.2.2.2.2.2.1 (k_reachd l D G (wR t R5) hm (pL k i) (pL_lt hk0 (by omega) (by omega)) (fun k2 => by
                  rcases hk0.2.2.2 (pL k i) (Or.inr ⟨k, i, by omega, by omega, rfl⟩) with ⟨h, -⟩ | h | ⟨h, o, ho, hv⟩
                  · exact absurd (h.symm.trans k2) (by decide)
                  · exact absurd (h.symm.trans k2) (by decide)
                  · exact ⟨o, ho, hv⟩)) (cwV 1 X.2.2.2.2.1 (gdV (al 177 rfl) (al 178 rfl) (al 247 rfl) (al 4 rfl) (al 179 rfl)) rfl rfl rfl (by decide +kernel) ⟨Nat.le_of_ble_eq_true rfl, Nat.le_of_ble_eq_true rfl⟩) rfl rfl rfl rfl rfl (Nat.le_of_ble_eq_true rfl) ⟨Nat.le_of_ble_eq_true rfl, Nat.le_of_ble_eq_true rfl⟩) (fun r_93 w_93 h_93 => ?_)
              obtain ⟨R6, ew, h11⟩ := h_93
              rw [ew]
              have h11 : gRh t R5 (pL k i) r_93 R6 := h11
              refine gg_if_ne (tgt := 103) X dX3_goOver_96 (by decide) (fun c_96 => ?_) (fun c_96 => ?_)
              · refine gg_iconst X dX3_goOver_103 (v := bI (decide (¬ r_93 = 0) || b5)) (by rw [decide_eq_true c_96]; rfl) ?_
                refine gg_goto (tgt := 108) X dX3_goOver_104 (by decide) ?_
                refine gg_istore_n X dX3_goOver_108 rfl (by decide) rfl ?_
                refine gg_iinc X dX3_goOver_109 1 rfl (nI_1 _) (by decide) rfl ?_
                refine gg_goto (tgt := 68) X dX3_goOver_112 (by decide) ?_
                refine gg_lv [0, 2, 1, 3] rfl ?_
                exact ih5 (i + 1, R6, _) ⟨by show i + 1 ≤ gS t k; omega, h9.step hm (by omega) (by omega) hrk h11⟩ (by show gS t k - (i + 1) < gS t k - i; omega)
              · refine gg_iload_n X dX3_goOver_99 rfl 2 rfl ?_
                refine gg_if_eq (tgt := 107) X dX3_goOver_100 (by decide) (fun c_100 => ?_) (fun c_100 => ?_)
                · refine gg_iconst X dX3_goOver_107 (v := bI (decide (¬ r_93 = 0) || b5)) (by rw [show b5 = false from bI_0 c_100, c_96]; rfl) ?_
                  refine gg_istore_n X dX3_goOver_108 rfl (by decide) rfl ?_
                  refine gg_iinc X dX3_goOver_109 1 rfl (nI_1 _) (by decide) rfl ?_
                  refine gg_goto (tgt := 68) X dX3_goOver_112 (by decide) ?_
                  refine gg_lv [0, 2, 1, 3] rfl ?_
                  exact ih5 (i + 1, R6, _) ⟨by show i + 1 ≤ gS t k; omega, h9.step hm (by omega) (by omega) hrk h11⟩ (by show gS t k - (i + 1) < gS t k - i; omega)
                · refine gg_iconst X dX3_goOver_103 (v := bI (decide (¬ r_93 = 0) || b5)) (by rw [show b5 = true from bI_1 c_100, Bool.or_true]; rfl) ?_
                  refine gg_goto (tgt := 108) X dX3_goOver_104 (by decide) ?_
                  refine gg_istore_n X dX3_goOver_108 rfl (by decide) rfl ?_
                  refine gg_iinc X dX3_goOver_109 1 rfl (nI_1 _) (by decide) rfl ?_
                  refine gg_goto (tgt := 68) X dX3_goOver_112 (by decide) ?_
                  refine gg_lv [0, 2, 1, 3] rfl ?_
                  exact ih5 (i + 1, R6, _) ⟨by show i + 1 ≤ gS t k; omega, h9.step hm (by omega) (by omega) hrk h11⟩ (by show gS t k - (i + 1) < gS t k - i; omega)
    · have hz : ¬ 10 + gT t ≤ z := fun h => c_33 ((nI_leI (a := 10 + gT t) (b := z) (by omega) (by omega)).mpr h)
      refine gg_aload_n X dX3_goOver_36 rfl 1 rfl ?_
      refine gg_iload_n X dX3_goOver_37 rfl 0 rfl ?_
      refine gc_i X (gr_V (q0 := 0) X dX3_goOver_38 X.2.2.2.2.2.1 (k_reachd l D G (wR t R2) hm z (by omega) (fun k2 => by
          rcases hk0.2.2.2 z (Or.inl (by omega)) with ⟨h, -⟩ | h | ⟨h, o, ho, hv⟩
          · exact absurd (h.symm.trans k2) (by decide)
          · exact absurd (h.symm.trans k2) (by decide)
          · exact ⟨o, ho, hv⟩)) (cwV 1 X.2.2.2.2.1 (gdV (al 177 rfl) (al 178 rfl) (al 247 rfl) (al 4 rfl) (al 179 rfl)) rfl rfl rfl (by decide +kernel) ⟨Nat.le_of_ble_eq_true rfl, Nat.le_of_ble_eq_true rfl⟩) rfl rfl rfl rfl rfl (Nat.le_of_ble_eq_true rfl) ⟨Nat.le_of_ble_eq_true rfl, Nat.le_of_ble_eq_true rfl⟩) (fun r_38 w_38 h_38 => ?_)
      obtain ⟨R3, ew, h6⟩ := h_38
      rw [ew]
      have h6 : gRh t R2 z r_38 R3 := h6
      refine gg_pop X dX3_goOver_41 rfl ?_
      refine gg_iinc X dX3_goOver_42 0 rfl (nI_1 _) (by decide) rfl ?_
      refine gg_goto (tgt := 25) X dX3_goOver_45 (by decide) ?_
      exact ih2 (z + 1, R3) ⟨by show z + 1 ≤ 10 + gT t; omega, h6.sound h4 (fun o ho k2 kv => dRe.root ho ⟨z, by omega, k2, kv⟩), fun p hp o ho k2 kv => by
        have hp : p < z + 1 := hp
        by_cases e : p = z
        · rw [e] at k2 kv; exact h6.here hm ho k2 kv
        · exact h6.mono (h5 p (by omega) o ho k2 kv)⟩ (by show 10 + gT t - (z + 1) < 10 + gT t - z; omega)
  · have hq2 : ¬ gM t ≤ q := fun h => c_7 ((nI_leI (a := gM t) (b := q) (by omega) (by omega)).mpr h)
    refine gg_aload_n X dX3_goOver_10 rfl 1 rfl ?_
    refine gg_get X dX3_goOver_11 imX3 0 rfl rfl 6 (by decide) (am 149 rfl) rfl ?_
    refine gg_iload_n X dX3_goOver_14 rfl 0 rfl ?_
    refine gg_iconst X dX3_goOver_15 (v := bI false) (by decide) ?_
    refine gg_zast X dX3_goOver_16 4 2 rfl rfl q rfl (by omega) (by decide) (by decide) (ws' := dW G (wR t (va_up R q false))) (by rw [upd_bI]; rfl) ?_
    refine gg_iinc X dX3_goOver_17 0 rfl (nI_1 _) (by decide) rfl ?_
    refine gg_goto (tgt := 2) X dX3_goOver_20 (by decide) ?_
    exact ih1 (q + 1, va_up R q false) ⟨by show q + 1 ≤ gM t; omega, fun k hk => by
      show va_up R q false k = false
      have hk : k < q + 1 := hk
      by_cases e : k = q
      · rw [e, va_up_self]
      · rw [va_up_ne _ _ e]; exact h2 k (by omega)⟩ (by show gM t - (q + 1) < gM t - q; omega)
set_option maxHeartbeats 4000000 in
set_option maxRecDepth 100000 in
theorem k_reachable (l : Launch) (D : va_G) (G : DF) (t : DS) (hk0 : dOk t)  : mG l yX3_reachable wX3_reachable ({ frames := 2, cells := 0, slots := 0, locals := 44 }) D vwCl (dT G) [.ref (dH G)] (dW G t) (qI D vwCl (fun (x : Int32) (w : DS) => ∃ R, DW t R ∧ w = wR t R ∧ x = nI (sm R (fun o => 2 + gS t o) (gM t))) (dW G)) := by
  refine gg_met (cc := cX3_reachable) (nL := 3) (ret := (some .int)) (lv := [(0, .ref (dH G))]) (by decide) rfl rfl (Nat.le_of_ble_eq_true rfl) ?_
  intro p_ e_ s_ m_ bl_ me_ cc_ A_ X hr hk hnm
  have hm := hk0.2.1
  refine gg_aload_n X dX3_reachable_0 rfl 0 rfl ?_
  refine gc_v X (gr_V (q0 := 0) X dX3_reachable_1 X.2.2.2.2.2.1 (k_goOver l D G t hk0) (cwV 0 X.2.2.2.2.1 (gdV (al 174 rfl) (al 175 rfl) (al 246 rfl) (al 4 rfl) (al 176 rfl)) rfl rfl rfl (by decide +kernel) ⟨Nat.le_of_ble_eq_true rfl, Nat.le_of_ble_eq_true rfl⟩) rfl rfl rfl rfl rfl (Nat.le_of_ble_eq_true rfl) ⟨Nat.le_of_ble_eq_true rfl, Nat.le_of_ble_eq_true rfl⟩) (fun w_1 h_1 => ?_)
  obtain ⟨R, ew, hR⟩ := h_1
  rw [ew]
  refine gg_iconst X dX3_reachable_4 (v := nI 0) (by decide) ?_
  refine gg_istore_n X dX3_reachable_5 rfl (by decide) rfl ?_
  refine gg_iconst X dX3_reachable_6 (v := nI 0) (by decide) ?_
  refine gg_istore_n X dX3_reachable_7 rfl (by decide) rfl ?_
  refine gg_loop (ι := Nat) (fun a => a ≤ gM t) (fun a => gM t - a) (fun _ => dW G (wR t R)) (fun a => [(2, .int (nI a)), (1, .int (nI (sm R (fun o => 2 + gS t o) a))), (0, .ref (dH G))]) ?_ 0 (Nat.zero_le _)
  intro k hk9 ih
  refine gg_iload_n X dX3_reachable_8 rfl 0 rfl ?_
  refine gg_aload_n X dX3_reachable_9 rfl 2 rfl ?_
  refine gg_get X dX3_reachable_10 imX3 0 rfl rfl 4 (by decide) (am 147 rfl) rfl ?_
  refine gg_icmp_ge (tgt := 46) X dX3_reachable_13 (by decide) (fun c_13 => ?_) (fun c_13 => ?_)
  · have hkm : k = gM t := by have := (nI_leI (a := gM t) (b := k) (by omega) (by omega)).mp c_13; omega
    refine gg_iload_n X dX3_reachable_46 rfl 1 rfl ?_
    exact gg_iret X dX3_reachable_47 hr hk (wR t R) (⟨R, hR, rfl, by rw [hkm]⟩) rfl (Nat.le_of_ble_eq_true rfl) (Nat.le_of_ble_eq_true rfl)
  · have hk8 : ¬ gM t ≤ k := fun h => c_13 ((nI_leI (a := gM t) (b := k) (by omega) (by omega)).mpr h)
    refine gg_aload_n X dX3_reachable_16 rfl 2 rfl ?_
    refine gg_get X dX3_reachable_17 imX3 0 rfl rfl 6 (by decide) (am 149 rfl) rfl ?_
    refine gg_iload_n X dX3_reachable_20 rfl 0 rfl ?_
    refine gg_zald X dX3_reachable_21 4 2 rfl rfl k rfl (by omega) (by decide) ?_
    refine gg_if_eq (tgt := 38) X dX3_reachable_22 (by decide) (fun c_22 => ?_) (fun c_22 => ?_)
    · have hrk : R k = false := bI_0 c_22
      refine gg_iload_n X dX3_reachable_38 rfl 1 rfl ?_
      refine gg_istore_n X dX3_reachable_39 rfl (by decide) rfl ?_
      refine gg_iinc X dX3_reachable_40 1 rfl (nI_1 _) (by decide) rfl ?_
      refine gg_goto (tgt := 8) X dX3_reachable_43 (by decide) ?_
      refine gg_lve (lv' := [(2, .int (nI (k + 1))), (1, .int (nI (sm R (fun o => 2 + gS t o) (k + 1)))), (0, .ref (dH G))]) (by simp only [sm]; (first | rw [if_pos hrk] | rw [if_neg (by rw [hrk]; decide)]); rfl) ?_
      exact ih (k + 1) (by omega) (by omega)
    · have hrk : R k = true := bI_1 c_22
      refine gg_iload_n X dX3_reachable_25 rfl 1 rfl ?_
      refine gg_iconst X dX3_reachable_26 (v := nI 2) (by decide) ?_
      refine gg_iadd X dX3_reachable_27 (nI_add _ _) ?_
      refine gg_aload_n X dX3_reachable_28 rfl 2 rfl ?_
      refine gg_get X dX3_reachable_29 imX3 0 rfl rfl 5 (by decide) (am 148 rfl) rfl ?_
      refine gg_iload_n X dX3_reachable_32 rfl 0 rfl ?_
      refine gg_iald X dX3_reachable_33 3 1 rfl rfl k rfl (by omega) (by decide) ?_
      refine gg_iadd X dX3_reachable_34 (v := nI (sm R (fun o => 2 + gS t o) k + (2 + gS t k))) (by rw [nI_add, Nat.add_assoc]) ?_
      refine gg_goto (tgt := 39) X dX3_reachable_35 (by decide) ?_
      refine gg_istore_n X dX3_reachable_39 rfl (by decide) rfl ?_
      refine gg_iinc X dX3_reachable_40 1 rfl (nI_1 _) (by decide) rfl ?_
      refine gg_goto (tgt := 8) X dX3_reachable_43 (by decide) ?_
      refine gg_lve (lv' := [(2, .int (nI (k + 1))), (1, .int (nI (sm R (fun o => 2 + gS t o) (k + 1)))), (0, .ref (dH G))]) (by simp only [sm]; (first | rw [if_pos hrk] | rw [if_neg (by rw [hrk]; decide)]); rfl) ?_
      exact ih (k + 1) (by omega) (by omega)
set_option maxHeartbeats 4000000 in
set_option maxRecDepth 100000 in
theorem k_hasRoom (l : Launch) (D : va_G) (G : DF) (t : DS) (hk0 : dOk t) (hC : dC G ≤ 3000) (n : Nat) (hn : n ≤ 22) : mG l yX3_hasRoom wX3_hasRoom ({ frames := 3, cells := 0, slots := 0, locals := 66 }) D vwCl (dT G) [.ref (dH G), .int (nI n)] (dW G t) (qI D vwCl (fun (x : Int32) (w : DS) => ∃ R, DW t R ∧ ((sm R (fun o => 2 + gS t o) (gM t) + n ≤ dC G ∧ x = 1 ∧ w = wR t R) ∨ (dC G < sm R (fun o => 2 + gS t o) (gM t) + n ∧ x = 0 ∧ w = wF (wR t R) (gF t + 1)))) (dW G)) := by
  refine gg_met (cc := cX3_hasRoom) (nL := 3) (ret := (some .boolean)) (lv := [(0, .ref (dH G)), (1, .int (nI n))]) (by decide) rfl rfl (Nat.le_of_ble_eq_true rfl) ?_
  intro p_ e_ s_ m_ bl_ me_ cc_ A_ X hr hk hnm
  have hm := hk0.2.1
  refine gg_aload_n X dX3_hasRoom_0 rfl 0 rfl ?_
  refine gc_i X (gr_V (q0 := 0) X dX3_hasRoom_1 X.2.2.2.2.2.1 (k_reachable l D G t hk0) (cwV 0 X.2.2.2.2.1 (gdV (al 171 rfl) (al 172 rfl) (al 245 rfl) (al 4 rfl) (al 173 rfl)) rfl rfl rfl (by decide +kernel) ⟨Nat.le_of_ble_eq_true rfl, Nat.le_of_ble_eq_true rfl⟩) rfl rfl rfl rfl rfl (Nat.le_of_ble_eq_true rfl) ⟨Nat.le_of_ble_eq_true rfl, Nat.le_of_ble_eq_true rfl⟩) (fun r_1 w_1 h_1 => ?_)
  obtain ⟨R, hR, ew, er⟩ := h_1
  rw [ew, er]
  have hL : sm R (fun o => 2 + gS t o) (gM t) ≤ 22 * gM t := sm_top (fun o ho => by have := hk0.2.2.1 o ho; omega)
  refine gg_iload_n X dX3_hasRoom_4 rfl 1 rfl ?_
  refine gg_iadd X dX3_hasRoom_5 (nI_add _ _) ?_
  refine gg_aload_n X dX3_hasRoom_6 rfl 0 rfl ?_
  refine gg_get X dX3_hasRoom_7 imX3 0 rfl rfl 0 (by decide) (am 143 rfl) rfl ?_
  refine gg_icmp_gt (tgt := 17) X dX3_hasRoom_10 (by decide) (fun c_10 => ?_) (fun c_10 => ?_)
  · refine gg_iconst X dX3_hasRoom_17 (v := 0) (by decide) ?_
    refine gg_istore_n X dX3_hasRoom_18 rfl (by decide) rfl ?_
    refine gg_aload_n X dX3_hasRoom_19 rfl 1 rfl ?_
    refine gg_iload_n X dX3_hasRoom_20 rfl 0 rfl ?_
    refine gg_if_eq (tgt := 31) X dX3_hasRoom_21 (by decide) (fun c_21 => ?_) (fun c_21 => ?_)
    · refine gg_aload_n X dX3_hasRoom_31 rfl 1 rfl ?_
      refine gg_get X dX3_hasRoom_32 imX3 0 rfl rfl 7 (by decide) (am 150 rfl) rfl ?_
      refine gg_iconst X dX3_hasRoom_35 (v := 1) (by decide) ?_
      refine gg_iadd X dX3_hasRoom_36 (nI_1 _) ?_
      refine gg_put X dX3_hasRoom_37 imX3 tyX3 tyX3_ok nmX3 0 rfl rfl 7 (by decide) (am 150 rfl) (ws' := dW G (wF (wR t R) (gF t + 1))) (ty := .int) rfl (by decide +kernel) rfl rfl (Nat.le_of_ble_eq_true rfl) (rfl) ?_
      refine gg_iload_n X dX3_hasRoom_40 rfl 0 rfl ?_
      exact gg_zret X dX3_hasRoom_41 hr hk rfl (wF (wR t R) (gF t + 1)) (⟨R, hR, Or.inr ⟨(nI_ltI (by omega) (by omega)).mp c_10, rfl, rfl⟩⟩) rfl (Nat.le_of_ble_eq_true rfl) (Nat.le_of_ble_eq_true rfl)
    · exact absurd rfl c_21
  · refine gg_iconst X dX3_hasRoom_13 (v := 1) (by decide) ?_
    refine gg_goto (tgt := 18) X dX3_hasRoom_14 (by decide) ?_
    refine gg_istore_n X dX3_hasRoom_18 rfl (by decide) rfl ?_
    refine gg_aload_n X dX3_hasRoom_19 rfl 1 rfl ?_
    refine gg_iload_n X dX3_hasRoom_20 rfl 0 rfl ?_
    refine gg_if_eq (tgt := 31) X dX3_hasRoom_21 (by decide) (fun c_21 => ?_) (fun c_21 => ?_)
    · exact absurd c_21 (by decide)
    · refine gg_aload_n X dX3_hasRoom_24 rfl 1 rfl ?_
      refine gg_get X dX3_hasRoom_25 imX3 0 rfl rfl 7 (by decide) (am 150 rfl) rfl ?_
      refine gg_goto (tgt := 37) X dX3_hasRoom_28 (by decide) ?_
      refine gg_put X dX3_hasRoom_37 imX3 tyX3 tyX3_ok nmX3 0 rfl rfl 7 (by decide) (am 150 rfl) (ws' := dW G (wR t R)) (ty := .int) rfl (by decide +kernel) rfl rfl (Nat.le_of_ble_eq_true rfl) (rfl) ?_
      refine gg_iload_n X dX3_hasRoom_40 rfl 0 rfl ?_
      exact gg_zret X dX3_hasRoom_41 hr hk rfl (wR t R) (⟨R, hR, Or.inl ⟨Nat.not_lt.mp (fun h => c_10 ((nI_ltI (by omega) (by omega)).mpr h)), rfl, rfl⟩⟩) rfl (Nat.le_of_ble_eq_true rfl) (Nat.le_of_ble_eq_true rfl)
end
section
set_option maxHeartbeats 4000000 in
set_option maxRecDepth 100000 in
theorem k_numberd (l : Launch) (D : va_G) (G : DF) (t : DS) (r v : Int32) : mG l yX3_number wX3_number ({ frames := 1, cells := 0, slots := 0, locals := 20 }) D vwCl (dT G) [.ref (dH G), .int r, .int v] (dW G t) (qI D vwCl (fun (x : Int32) (w : DS) => dpNum t r v x w) (dW G)) := by
  refine gg_met (cc := cX3_number) (nL := 3) (ret := (some .boolean)) (lv := [(0, .ref (dH G)), (1, .int r), (2, .int v)]) (by decide) rfl rfl (Nat.le_of_ble_eq_true rfl) ?_
  intro p_ e_ s_ m_ bl_ me_ cc_ A_ X hr hk hnm
  refine gg_iload_n X dX3_number_0 rfl 1 rfl ?_
  refine gc_i X (gr_S X dX3_number_1 X.2.2.2.2.2.1 (k_isRd l D (dT G) (dW G t) r) (cwS 1 X.2.2.2.2.1 (gdS (al 165 rfl) (al 166 rfl) (al 4 rfl) (al 167 rfl)) rfl rfl rfl (by decide +kernel) ⟨Nat.le_of_ble_eq_true rfl, Nat.le_of_ble_eq_true rfl⟩) rfl rfl (Nat.le_of_ble_eq_true rfl) ⟨Nat.le_of_ble_eq_true rfl, Nat.le_of_ble_eq_true rfl⟩) (fun r_1 w_1 h_1 => ?_)
  refine gg_if_ne (tgt := 9) X dX3_number_4 (by decide) (fun c_4 => ?_) (fun c_4 => ?_)
  · obtain ⟨j, hj, rfl⟩ := b01' h_1 c_4
    refine gg_aload_n X dX3_number_9 rfl 0 rfl ?_
    refine gg_get X dX3_number_10 imX3 0 rfl rfl 1 (by decide) (am 144 rfl) rfl ?_
    refine gg_iload_n X dX3_number_13 rfl 1 rfl ?_
    refine gg_iconst X dX3_number_14 (v := 1) (by decide) ?_
    refine gg_bast X dX3_number_15 1 0 rfl rfl j rfl (by omega) (by decide) (by decide) (ws' := dW G (wV t (upd (gK t) j 1) (gV t))) rfl ?_
    refine gg_aload_n X dX3_number_16 rfl 0 rfl ?_
    refine gg_get X dX3_number_17 imX3 0 rfl rfl 2 (by decide) (am 145 rfl) rfl ?_
    refine gg_iload_n X dX3_number_20 rfl 1 rfl ?_
    refine gg_iload_n X dX3_number_21 rfl 2 rfl ?_
    refine gg_iast X dX3_number_22 2 1 rfl rfl j rfl (by omega) (by decide) (ws' := dW G (wV t (upd (gK t) j 1) (upd (gV t) j v))) rfl ?_
    refine gg_iconst X dX3_number_23 (v := 1) (by decide) ?_
    exact gg_zret X dX3_number_24 hr hk rfl (wV t (upd (gK t) j 1) (upd (gV t) j v)) (Or.inl ⟨j, hj, rfl, rfl, rfl⟩) rfl (Nat.le_of_ble_eq_true rfl) (Nat.le_of_ble_eq_true rfl)
  · refine gg_iconst X dX3_number_7 (v := 0) (by decide) ?_
    exact gg_zret X dX3_number_8 hr hk rfl t (Or.inr ⟨b01 h_1 c_4, rfl, rfl⟩) rfl (Nat.le_of_ble_eq_true rfl) (Nat.le_of_ble_eq_true rfl)
set_option maxHeartbeats 4000000 in
set_option maxRecDepth 100000 in
theorem k_copyd (l : Launch) (D : va_G) (G : DF) (t : DS) (hk0 : dOk t) (r s : Int32) : mG l yX3_copy wX3_copy ({ frames := 1, cells := 0, slots := 0, locals := 22 }) D vwCl (dT G) [.ref (dH G), .int r, .int s] (dW G t) (qI D vwCl (fun (x : Int32) (w : DS) => dpCopy t r s x w) (dW G)) := by
  refine gg_met (cc := cX3_copy) (nL := 3) (ret := (some .boolean)) (lv := [(0, .ref (dH G)), (1, .int r), (2, .int s)]) (by decide) rfl rfl (Nat.le_of_ble_eq_true rfl) ?_
  intro p_ e_ s_ m_ bl_ me_ cc_ A_ X hr hk hnm
  refine gg_iload_n X dX3_copy_0 rfl 1 rfl ?_
  refine gc_i X (gr_S X dX3_copy_1 X.2.2.2.2.2.1 (k_isRd l D (dT G) (dW G t) r) (cwS 1 X.2.2.2.2.1 (gdS (al 165 rfl) (al 166 rfl) (al 4 rfl) (al 167 rfl)) rfl rfl rfl (by decide +kernel) ⟨Nat.le_of_ble_eq_true rfl, Nat.le_of_ble_eq_true rfl⟩) rfl rfl (Nat.le_of_ble_eq_true rfl) ⟨Nat.le_of_ble_eq_true rfl, Nat.le_of_ble_eq_true rfl⟩) (fun r_1 w_1 h_1 => ?_)
  refine gg_if_eq (tgt := 19) X dX3_copy_4 (by decide) (fun c_4 => ?_) (fun c_4 => ?_)
  · refine gg_iconst X dX3_copy_19 (v := 0) (by decide) ?_
    exact gg_zret X dX3_copy_20 hr hk rfl t (Or.inr ⟨Or.inl (b01 h_1 c_4), rfl, rfl⟩) rfl (Nat.le_of_ble_eq_true rfl) (Nat.le_of_ble_eq_true rfl)
  · obtain ⟨j, hj, rfl⟩ := b01' h_1 c_4
    refine gg_iload_n X dX3_copy_7 rfl 2 rfl ?_
    refine gg_iconst X dX3_copy_8 (v := (-1)) (by decide) ?_
    refine gg_icmp_eq (tgt := 21) X dX3_copy_9 (by decide) (fun c_9 => ?_) (fun c_9 => ?_)
    · refine gg_iload_n X dX3_copy_21 rfl 2 rfl ?_
      refine gg_iconst X dX3_copy_22 (v := (-1)) (by decide) ?_
      refine gg_icmp_ne (tgt := 34) X dX3_copy_23 (by decide) (fun c_23 => ?_) (fun c_23 => ?_)
      · exact absurd c_9 c_23
      · refine gg_aload_n X dX3_copy_26 rfl 0 rfl ?_
        refine gg_iload_n X dX3_copy_27 rfl 1 rfl ?_
        refine gc_v X (gr_V (q0 := 0) X dX3_copy_28 X.2.2.2.2.2.1 (k_empty l D G t j (by omega)) (cwV 1 X.2.2.2.2.1 (gdV (al 195 rfl) (al 196 rfl) (al 250 rfl) (al 4 rfl) (al 197 rfl)) rfl rfl rfl (by decide +kernel) ⟨Nat.le_of_ble_eq_true rfl, Nat.le_of_ble_eq_true rfl⟩) rfl rfl rfl rfl rfl (Nat.le_of_ble_eq_true rfl) ⟨Nat.le_of_ble_eq_true rfl, Nat.le_of_ble_eq_true rfl⟩) (fun w_28 h_28 => ?_)
        rw [h_28]
        refine gg_goto (tgt := 40) X dX3_copy_31 (by decide) ?_
        refine gg_iconst X dX3_copy_40 (v := 1) (by decide) ?_
        exact gg_zret X dX3_copy_41 hr hk rfl (wV t (upd (gK t) j 0) (upd (gV t) j 0)) (Or.inl ⟨j, hj, rfl, rfl, Or.inl ⟨c_23, rfl⟩⟩) rfl (Nat.le_of_ble_eq_true rfl) (Nat.le_of_ble_eq_true rfl)
    · refine gg_iload_n X dX3_copy_12 rfl 2 rfl ?_
      refine gc_i X (gr_S X dX3_copy_13 X.2.2.2.2.2.1 (k_isRd l D (dT G) (dW G t) s) (cwS 1 X.2.2.2.2.1 (gdS (al 165 rfl) (al 166 rfl) (al 4 rfl) (al 167 rfl)) rfl rfl rfl (by decide +kernel) ⟨Nat.le_of_ble_eq_true rfl, Nat.le_of_ble_eq_true rfl⟩) rfl rfl (Nat.le_of_ble_eq_true rfl) ⟨Nat.le_of_ble_eq_true rfl, Nat.le_of_ble_eq_true rfl⟩) (fun r_13 w_13 h_13 => ?_)
      refine gg_if_ne (tgt := 21) X dX3_copy_16 (by decide) (fun c_16 => ?_) (fun c_16 => ?_)
      · refine gg_iload_n X dX3_copy_21 rfl 2 rfl ?_
        refine gg_iconst X dX3_copy_22 (v := (-1)) (by decide) ?_
        refine gg_icmp_ne (tgt := 34) X dX3_copy_23 (by decide) (fun c_23 => ?_) (fun c_23 => ?_)
        · obtain ⟨k, hk2, rfl⟩ := b01' h_13 c_16
          refine gg_aload_n X dX3_copy_34 rfl 0 rfl ?_
          refine gg_iload_n X dX3_copy_35 rfl 1 rfl ?_
          refine gg_iload_n X dX3_copy_36 rfl 2 rfl ?_
          refine gc_v X (gr_V (q0 := 0) X dX3_copy_37 X.2.2.2.2.2.1 (k_move l D G t j k (by omega) (by omega) (nar_k hk0 (Or.inl (by omega)))) (cwV 2 X.2.2.2.2.1 (gdV (al 183 rfl) (al 184 rfl) (al 248 rfl) (al 4 rfl) (al 185 rfl)) rfl rfl rfl (by decide +kernel) ⟨Nat.le_of_ble_eq_true rfl, Nat.le_of_ble_eq_true rfl⟩) rfl rfl rfl rfl rfl (Nat.le_of_ble_eq_true rfl) ⟨Nat.le_of_ble_eq_true rfl, Nat.le_of_ble_eq_true rfl⟩) (fun w_37 h_37 => ?_)
          rw [h_37]
          refine gg_iconst X dX3_copy_40 (v := 1) (by decide) ?_
          exact gg_zret X dX3_copy_41 hr hk rfl (wV t (upd (gK t) j (gK t k)) (upd (gV t) j (gV t k))) (Or.inl ⟨j, hj, rfl, rfl, Or.inr ⟨c_23, k, hk2, rfl, rfl⟩⟩) rfl (Nat.le_of_ble_eq_true rfl) (Nat.le_of_ble_eq_true rfl)
        · exact absurd c_23 c_9
      · refine gg_iconst X dX3_copy_19 (v := 0) (by decide) ?_
        exact gg_zret X dX3_copy_20 hr hk rfl t (Or.inr ⟨Or.inr ⟨c_9, b01 h_13 c_16⟩, rfl, rfl⟩) rfl (Nat.le_of_ble_eq_true rfl) (Nat.le_of_ble_eq_true rfl)
set_option maxHeartbeats 4000000 in
set_option maxRecDepth 100000 in
theorem k_hasValued (l : Launch) (D : va_G) (G : DF) (t : DS) (hk0 : dOk t) (r k : Int32) : mG l yX3_hasValue wX3_hasValue ({ frames := 2, cells := 0, slots := 0, locals := 41 }) D vwCl (dT G) [.ref (dH G), .int r, .int k] (dW G t) (qI D vwCl (fun (x : Int32) (w : DS) => w = t ∧ (((∃ j o q, j < 10 ∧ r = nI j ∧ gK t j = 2 ∧ o < gM t ∧ gV t j = nI o ∧ q < gS t o ∧ k = nI q) ∧ x = 1) ∨ (¬ (∃ j o q, j < 10 ∧ r = nI j ∧ gK t j = 2 ∧ o < gM t ∧ gV t j = nI o ∧ q < gS t o ∧ k = nI q) ∧ x = 0))) (dW G)) := by
  refine gg_met (cc := cX3_hasValue) (nL := 3) (ret := (some .boolean)) (lv := [(0, .ref (dH G)), (1, .int r), (2, .int k)]) (by decide) rfl rfl (Nat.le_of_ble_eq_true rfl) ?_
  intro p_ e_ s_ m_ bl_ me_ cc_ A_ X hr hk hnm
  have hm := hk0.2.1
  refine gg_aload_n X dX3_hasValue_0 rfl 0 rfl ?_
  refine gg_iload_n X dX3_hasValue_1 rfl 1 rfl ?_
  refine gc_i X (gr_V (q0 := 0) X dX3_hasValue_2 X.2.2.2.2.2.1 (k_hasObject l D G t hk0 r) (cwV 1 X.2.2.2.2.1 (gdV (al 189 rfl) (al 190 rfl) (al 249 rfl) (al 4 rfl) (al 191 rfl)) rfl rfl rfl (by decide +kernel) ⟨Nat.le_of_ble_eq_true rfl, Nat.le_of_ble_eq_true rfl⟩) rfl rfl rfl rfl rfl (Nat.le_of_ble_eq_true rfl) ⟨Nat.le_of_ble_eq_true rfl, Nat.le_of_ble_eq_true rfl⟩) (fun r_2 w_2 h_2 => ?_)
  obtain ⟨ew, h_2⟩ := h_2
  rw [ew]
  refine gg_if_eq (tgt := 31) X dX3_hasValue_5 (by decide) (fun c_5 => ?_) (fun c_5 => ?_)
  · refine gg_iconst X dX3_hasValue_31 (v := 0) (by decide) ?_
    exact gg_zret X dX3_hasValue_32 hr hk rfl t (⟨rfl, Or.inr ⟨fun ⟨j, o, q, h1, h2, h3, h4, h5, _⟩ => b01 h_2 c_5 ⟨j, o, h1, h2, h3, h4, h5⟩, rfl⟩⟩) rfl (Nat.le_of_ble_eq_true rfl) (Nat.le_of_ble_eq_true rfl)
  · obtain ⟨j, o, hj, rfl, hk2, ho, hv⟩ := b01' h_2 c_5
    have h20 := hk0.2.2.1 o ho
    refine gg_iload_n X dX3_hasValue_8 rfl 2 rfl ?_
    refine gg_if_lt (tgt := 31) X dX3_hasValue_9 (by decide) (fun c_9 => ?_) (fun c_9 => ?_)
    · refine gg_iconst X dX3_hasValue_31 (v := 0) (by decide) ?_
      exact gg_zret X dX3_hasValue_32 hr hk rfl t (⟨rfl, Or.inr ⟨fun ⟨j', o', q, h1, h2, h3, h4, h5, h6, h7⟩ => by
          have := hk0.2.2.1 o' h4
          exact ix_no (n := gS t o') (by omega) (Or.inl c_9) q h6 h7, rfl⟩⟩) rfl (Nat.le_of_ble_eq_true rfl) (Nat.le_of_ble_eq_true rfl)
    · refine gg_iload_n X dX3_hasValue_12 rfl 2 rfl ?_
      refine gg_aload_n X dX3_hasValue_13 rfl 0 rfl ?_
      refine gg_get X dX3_hasValue_14 imX3 0 rfl rfl 5 (by decide) (am 148 rfl) rfl ?_
      refine gg_aload_n X dX3_hasValue_17 rfl 0 rfl ?_
      refine gg_get X dX3_hasValue_18 imX3 0 rfl rfl 2 (by decide) (am 145 rfl) rfl ?_
      refine gg_iload_n X dX3_hasValue_21 rfl 1 rfl ?_
      refine gg_iald X dX3_hasValue_22 2 1 rfl rfl j rfl (by omega) (by decide) ?_
      rw [hv]
      refine gg_iald X dX3_hasValue_23 3 1 rfl rfl o rfl (by omega) (by decide) ?_
      refine gg_icmp_ge (tgt := 31) X dX3_hasValue_24 (by decide) (fun c_24 => ?_) (fun c_24 => ?_)
      · refine gg_iconst X dX3_hasValue_31 (v := 0) (by decide) ?_
        exact gg_zret X dX3_hasValue_32 hr hk rfl t (⟨rfl, Or.inr ⟨fun ⟨j', o', q, h1, h2, h3, h4, h5, h6, h7⟩ => by
            have e1 := r_inj (by omega) (by omega) h2
            subst e1
            have e2 := nI_inj (by omega) (by omega) (hv.symm.trans h5)
            subst e2
            exact ix_no (n := gS t o) (by omega) (Or.inr c_24) q h6 h7, rfl⟩⟩) rfl (Nat.le_of_ble_eq_true rfl) (Nat.le_of_ble_eq_true rfl)
      · refine gg_iconst X dX3_hasValue_27 (v := 1) (by decide) ?_
        refine gg_goto (tgt := 32) X dX3_hasValue_28 (by decide) ?_
        obtain ⟨q, hq, ek⟩ := ix_yes (by omega) c_9 c_24
        exact gg_zret X dX3_hasValue_32 hr hk rfl t (⟨rfl, Or.inl ⟨⟨j, o, q, hj, rfl, hk2, ho, hv, hq, ek⟩, rfl⟩⟩) rfl (Nat.le_of_ble_eq_true rfl) (Nat.le_of_ble_eq_true rfl)
set_option maxHeartbeats 4000000 in
set_option maxRecDepth 100000 in
theorem k_getd (l : Launch) (D : va_G) (G : DF) (t : DS) (hk0 : dOk t) (r s k : Int32) : mG l yX3_get wX3_get ({ frames := 3, cells := 0, slots := 0, locals := 63 }) D vwCl (dT G) [.ref (dH G), .int r, .int s, .int k] (dW G t) (qI D vwCl (fun (x : Int32) (w : DS) => dpGet t r s k x w) (dW G)) := by
  refine gg_met (cc := cX3_get) (nL := 4) (ret := (some .boolean)) (lv := [(0, .ref (dH G)), (1, .int r), (2, .int s), (3, .int k)]) (by decide) rfl rfl (Nat.le_of_ble_eq_true rfl) ?_
  intro p_ e_ s_ m_ bl_ me_ cc_ A_ X hr hk hnm
  have hm := hk0.2.1
  refine gg_iload_n X dX3_get_0 rfl 1 rfl ?_
  refine gc_i X (gr_S X dX3_get_1 X.2.2.2.2.2.1 (k_isRd l D (dT G) (dW G t) r) (cwS 1 X.2.2.2.2.1 (gdS (al 165 rfl) (al 166 rfl) (al 4 rfl) (al 167 rfl)) rfl rfl rfl (by decide +kernel) ⟨Nat.le_of_ble_eq_true rfl, Nat.le_of_ble_eq_true rfl⟩) rfl rfl (Nat.le_of_ble_eq_true rfl) ⟨Nat.le_of_ble_eq_true rfl, Nat.le_of_ble_eq_true rfl⟩) (fun r_1 w_1 h_1 => ?_)
  refine gg_if_eq (tgt := 16) X dX3_get_4 (by decide) (fun c_4 => ?_) (fun c_4 => ?_)
  · refine gg_iconst X dX3_get_16 (v := 0) (by decide) ?_
    exact gg_zret X dX3_get_17 hr hk rfl t (Or.inr ⟨fun ⟨j', a', o', q', g1, g2, _⟩ => b01 h_1 c_4 ⟨j', g1, g2⟩, rfl, rfl⟩) rfl (Nat.le_of_ble_eq_true rfl) (Nat.le_of_ble_eq_true rfl)
  · obtain ⟨b, hb, rfl⟩ := b01' h_1 c_4
    refine gg_aload_n X dX3_get_7 rfl 0 rfl ?_
    refine gg_iload_n X dX3_get_8 rfl 2 rfl ?_
    refine gg_iload_n X dX3_get_9 rfl 3 rfl ?_
    refine gc_i X (gr_V (q0 := 0) X dX3_get_10 X.2.2.2.2.2.1 (k_hasValued l D G t hk0 s k) (cwV 2 X.2.2.2.2.1 (gdV (al 207 rfl) (al 208 rfl) (al 251 rfl) (al 4 rfl) (al 209 rfl)) rfl rfl rfl (by decide +kernel) ⟨Nat.le_of_ble_eq_true rfl, Nat.le_of_ble_eq_true rfl⟩) rfl rfl rfl rfl rfl (Nat.le_of_ble_eq_true rfl) ⟨Nat.le_of_ble_eq_true rfl, Nat.le_of_ble_eq_true rfl⟩) (fun r_10 w_10 h_10 => ?_)
    obtain ⟨ew, h_10⟩ := h_10
    rw [ew]
    refine gg_if_ne (tgt := 18) X dX3_get_13 (by decide) (fun c_13 => ?_) (fun c_13 => ?_)
    · obtain ⟨a, o, q, ha, rfl, hk2, ho, hv, hq, rfl⟩ := b01' h_10 c_13
      have h20 := hk0.2.2.1 o ho
      refine gg_aload_n X dX3_get_18 rfl 0 rfl ?_
      refine gg_iload_n X dX3_get_19 rfl 1 rfl ?_
      refine gg_aload_n X dX3_get_20 rfl 0 rfl ?_
      refine gg_get X dX3_get_21 imX3 0 rfl rfl 2 (by decide) (am 145 rfl) rfl ?_
      refine gg_iload_n X dX3_get_24 rfl 2 rfl ?_
      refine gg_iald X dX3_get_25 2 1 rfl rfl a rfl (by omega) (by decide) ?_
      refine gg_iload_n X dX3_get_26 rfl 3 rfl ?_
      rw [hv]
      refine gc_i X (gr_S X dX3_get_27 X.2.2.2.2.2.1 (k_placeOf l D (dT G) (dW G t) o q) (cwS 2 X.2.2.2.2.1 (gdS (al 180 rfl) (al 181 rfl) (al 4 rfl) (al 182 rfl)) rfl rfl rfl (by decide +kernel) ⟨Nat.le_of_ble_eq_true rfl, Nat.le_of_ble_eq_true rfl⟩) rfl rfl (Nat.le_of_ble_eq_true rfl) ⟨Nat.le_of_ble_eq_true rfl, Nat.le_of_ble_eq_true rfl⟩) (fun r_27 w_27 h_27 => ?_)
      rw [h_27]
      refine gc_v X (gr_V (q0 := 0) X dX3_get_30 X.2.2.2.2.2.1 (k_move l D G t b (pL o q) (by omega) (pL_lt hk0 ho (by omega)) (nar_k hk0 (Or.inr ⟨o, q, ho, hq, rfl⟩))) (cwV 2 X.2.2.2.2.1 (gdV (al 183 rfl) (al 184 rfl) (al 248 rfl) (al 4 rfl) (al 185 rfl)) rfl rfl rfl (by decide +kernel) ⟨Nat.le_of_ble_eq_true rfl, Nat.le_of_ble_eq_true rfl⟩) rfl rfl rfl rfl rfl (Nat.le_of_ble_eq_true rfl) ⟨Nat.le_of_ble_eq_true rfl, Nat.le_of_ble_eq_true rfl⟩) (fun w_30 h_30 => ?_)
      rw [h_30]
      refine gg_iconst X dX3_get_33 (v := 1) (by decide) ?_
      exact gg_zret X dX3_get_34 hr hk rfl (wV t (upd (gK t) b (gK t (pL o q))) (upd (gV t) b (gV t (pL o q)))) (Or.inl ⟨b, a, o, q, ⟨hb, rfl, ha, rfl, hk2, ho, hv, hq, rfl⟩, rfl, rfl⟩) rfl (Nat.le_of_ble_eq_true rfl) (Nat.le_of_ble_eq_true rfl)
    · refine gg_iconst X dX3_get_16 (v := 0) (by decide) ?_
      exact gg_zret X dX3_get_17 hr hk rfl t (Or.inr ⟨fun ⟨j', a', o', q', g1, g2, g3⟩ => b01 h_10 c_13 ⟨a', o', q', g3⟩, rfl, rfl⟩) rfl (Nat.le_of_ble_eq_true rfl) (Nat.le_of_ble_eq_true rfl)
set_option maxHeartbeats 4000000 in
set_option maxRecDepth 100000 in
theorem k_setd (l : Launch) (D : va_G) (G : DF) (t : DS) (hk0 : dOk t) (r k s : Int32) : mG l yX3_set wX3_set ({ frames := 3, cells := 0, slots := 0, locals := 63 }) D vwCl (dT G) [.ref (dH G), .int r, .int k, .int s] (dW G t) (qI D vwCl (fun (x : Int32) (w : DS) => dpSet t r k s x w) (dW G)) := by
  refine gg_met (cc := cX3_set) (nL := 4) (ret := (some .boolean)) (lv := [(0, .ref (dH G)), (1, .int r), (2, .int k), (3, .int s)]) (by decide) rfl rfl (Nat.le_of_ble_eq_true rfl) ?_
  intro p_ e_ s_ m_ bl_ me_ cc_ A_ X hr hk hnm
  have hm := hk0.2.1
  refine gg_iload_n X dX3_set_0 rfl 3 rfl ?_
  refine gc_i X (gr_S X dX3_set_1 X.2.2.2.2.2.1 (k_isRd l D (dT G) (dW G t) s) (cwS 1 X.2.2.2.2.1 (gdS (al 165 rfl) (al 166 rfl) (al 4 rfl) (al 167 rfl)) rfl rfl rfl (by decide +kernel) ⟨Nat.le_of_ble_eq_true rfl, Nat.le_of_ble_eq_true rfl⟩) rfl rfl (Nat.le_of_ble_eq_true rfl) ⟨Nat.le_of_ble_eq_true rfl, Nat.le_of_ble_eq_true rfl⟩) (fun r_1 w_1 h_1 => ?_)
  refine gg_if_eq (tgt := 16) X dX3_set_4 (by decide) (fun c_4 => ?_) (fun c_4 => ?_)
  · refine gg_iconst X dX3_set_16 (v := 0) (by decide) ?_
    exact gg_zret X dX3_set_17 hr hk rfl t (Or.inr ⟨fun ⟨j', a', o', q', g1, g2, _⟩ => b01 h_1 c_4 ⟨j', g1, g2⟩, rfl, rfl⟩) rfl (Nat.le_of_ble_eq_true rfl) (Nat.le_of_ble_eq_true rfl)
  · obtain ⟨b, hb, rfl⟩ := b01' h_1 c_4
    refine gg_aload_n X dX3_set_7 rfl 0 rfl ?_
    refine gg_iload_n X dX3_set_8 rfl 1 rfl ?_
    refine gg_iload_n X dX3_set_9 rfl 2 rfl ?_
    refine gc_i X (gr_V (q0 := 0) X dX3_set_10 X.2.2.2.2.2.1 (k_hasValued l D G t hk0 r k) (cwV 2 X.2.2.2.2.1 (gdV (al 207 rfl) (al 208 rfl) (al 251 rfl) (al 4 rfl) (al 209 rfl)) rfl rfl rfl (by decide +kernel) ⟨Nat.le_of_ble_eq_true rfl, Nat.le_of_ble_eq_true rfl⟩) rfl rfl rfl rfl rfl (Nat.le_of_ble_eq_true rfl) ⟨Nat.le_of_ble_eq_true rfl, Nat.le_of_ble_eq_true rfl⟩) (fun r_10 w_10 h_10 => ?_)
    obtain ⟨ew, h_10⟩ := h_10
    rw [ew]
    refine gg_if_ne (tgt := 18) X dX3_set_13 (by decide) (fun c_13 => ?_) (fun c_13 => ?_)
    · obtain ⟨a, o, q, ha, rfl, hk2, ho, hv, hq, rfl⟩ := b01' h_10 c_13
      have h20 := hk0.2.2.1 o ho
      refine gg_aload_n X dX3_set_18 rfl 0 rfl ?_
      refine gg_aload_n X dX3_set_19 rfl 0 rfl ?_
      refine gg_get X dX3_set_20 imX3 0 rfl rfl 2 (by decide) (am 145 rfl) rfl ?_
      refine gg_iload_n X dX3_set_23 rfl 1 rfl ?_
      refine gg_iald X dX3_set_24 2 1 rfl rfl a rfl (by omega) (by decide) ?_
      refine gg_iload_n X dX3_set_25 rfl 2 rfl ?_
      rw [hv]
      refine gc_i X (gr_S X dX3_set_26 X.2.2.2.2.2.1 (k_placeOf l D (dT G) (dW G t) o q) (cwS 2 X.2.2.2.2.1 (gdS (al 180 rfl) (al 181 rfl) (al 4 rfl) (al 182 rfl)) rfl rfl rfl (by decide +kernel) ⟨Nat.le_of_ble_eq_true rfl, Nat.le_of_ble_eq_true rfl⟩) rfl rfl (Nat.le_of_ble_eq_true rfl) ⟨Nat.le_of_ble_eq_true rfl, Nat.le_of_ble_eq_true rfl⟩) (fun r_26 w_26 h_26 => ?_)
      rw [h_26]
      refine gg_iload_n X dX3_set_29 rfl 3 rfl ?_
      refine gc_v X (gr_V (q0 := 0) X dX3_set_30 X.2.2.2.2.2.1 (k_move l D G t (pL o q) b (pL_lt hk0 ho (by omega)) (by omega) (nar_k hk0 (Or.inl (by omega)))) (cwV 2 X.2.2.2.2.1 (gdV (al 183 rfl) (al 184 rfl) (al 248 rfl) (al 4 rfl) (al 185 rfl)) rfl rfl rfl (by decide +kernel) ⟨Nat.le_of_ble_eq_true rfl, Nat.le_of_ble_eq_true rfl⟩) rfl rfl rfl rfl rfl (Nat.le_of_ble_eq_true rfl) ⟨Nat.le_of_ble_eq_true rfl, Nat.le_of_ble_eq_true rfl⟩) (fun w_30 h_30 => ?_)
      rw [h_30]
      refine gg_iconst X dX3_set_33 (v := 1) (by decide) ?_
      exact gg_zret X dX3_set_34 hr hk rfl (wV t (upd (gK t) (pL o q) (gK t b)) (upd (gV t) (pL o q) (gV t b))) (Or.inl ⟨b, a, o, q, ⟨hb, rfl, ha, rfl, hk2, ho, hv, hq, rfl⟩, rfl, rfl⟩) rfl (Nat.le_of_ble_eq_true rfl) (Nat.le_of_ble_eq_true rfl)
    · refine gg_iconst X dX3_set_16 (v := 0) (by decide) ?_
      exact gg_zret X dX3_set_17 hr hk rfl t (Or.inr ⟨fun ⟨j', a', o', q', g1, g2, g3⟩ => b01 h_10 c_13 ⟨a', o', q', g3⟩, rfl, rfl⟩) rfl (Nat.le_of_ble_eq_true rfl) (Nat.le_of_ble_eq_true rfl)
set_option maxHeartbeats 4000000 in
set_option maxRecDepth 100000 in
theorem k_pushd (l : Launch) (D : va_G) (G : DF) (t : DS) (hk0 : dOk t) (r : Int32) : mG l yX3_push wX3_push ({ frames := 1, cells := 0, slots := 0, locals := 22 }) D vwCl (dT G) [.ref (dH G), .int r] (dW G t) (qI D vwCl (fun (x : Int32) (w : DS) => dpPush t r x w) (dW G)) := by
  refine gg_met (cc := cX3_push) (nL := 2) (ret := (some .int)) (lv := [(0, .ref (dH G)), (1, .int r)]) (by decide) rfl rfl (Nat.le_of_ble_eq_true rfl) ?_
  intro p_ e_ s_ m_ bl_ me_ cc_ A_ X hr hk hnm
  have h50 := hk0.1
  refine gg_iload_n X dX3_push_0 rfl 1 rfl ?_
  refine gc_i X (gr_S X dX3_push_1 X.2.2.2.2.2.1 (k_isRd l D (dT G) (dW G t) r) (cwS 1 X.2.2.2.2.1 (gdS (al 165 rfl) (al 166 rfl) (al 4 rfl) (al 167 rfl)) rfl rfl rfl (by decide +kernel) ⟨Nat.le_of_ble_eq_true rfl, Nat.le_of_ble_eq_true rfl⟩) rfl rfl (Nat.le_of_ble_eq_true rfl) ⟨Nat.le_of_ble_eq_true rfl, Nat.le_of_ble_eq_true rfl⟩) (fun r_1 w_1 h_1 => ?_)
  refine gg_if_eq (tgt := 16) X dX3_push_4 (by decide) (fun c_4 => ?_) (fun c_4 => ?_)
  · refine gg_iconst X dX3_push_16 (v := (-1)) (by decide) ?_
    exact gg_iret X dX3_push_17 hr hk t (Or.inr ⟨fun h => b01 h_1 c_4 h.1, rfl, rfl⟩) rfl (Nat.le_of_ble_eq_true rfl) (Nat.le_of_ble_eq_true rfl)
  · obtain ⟨j, hj, rfl⟩ := b01' h_1 c_4
    refine gg_aload_n X dX3_push_7 rfl 0 rfl ?_
    refine gg_get X dX3_push_8 imX3 0 rfl rfl 3 (by decide) (am 146 rfl) rfl ?_
    refine gg_bipush X dX3_push_11 (v := nI 50) (by decide) ?_
    refine gg_icmp_ne (tgt := 18) X dX3_push_13 (by decide) (fun c_13 => ?_) (fun c_13 => ?_)
    · have h13 : gT t < 50 := by
        have : ¬ gT t = 50 := fun e => c_13 (by rw [e])
        omega
      refine gg_aload_n X dX3_push_18 rfl 0 rfl ?_
      refine gg_bipush X dX3_push_19 (v := nI 10) (by decide) ?_
      refine gg_aload_n X dX3_push_21 rfl 0 rfl ?_
      refine gg_get X dX3_push_22 imX3 0 rfl rfl 3 (by decide) (am 146 rfl) rfl ?_
      refine gg_iadd X dX3_push_25 (nI_add _ _) ?_
      refine gg_iload_n X dX3_push_26 rfl 1 rfl ?_
      refine gc_v X (gr_V (q0 := 0) X dX3_push_27 X.2.2.2.2.2.1 (k_move l D G t (10 + gT t) j (by omega) (by omega) (nar_k hk0 (Or.inl (by omega)))) (cwV 2 X.2.2.2.2.1 (gdV (al 183 rfl) (al 184 rfl) (al 248 rfl) (al 4 rfl) (al 185 rfl)) rfl rfl rfl (by decide +kernel) ⟨Nat.le_of_ble_eq_true rfl, Nat.le_of_ble_eq_true rfl⟩) rfl rfl rfl rfl rfl (Nat.le_of_ble_eq_true rfl) ⟨Nat.le_of_ble_eq_true rfl, Nat.le_of_ble_eq_true rfl⟩) (fun w_27 h_27 => ?_)
      rw [h_27]
      refine gg_aload_n X dX3_push_30 rfl 0 rfl ?_
      refine gg_iload_n X dX3_push_31 rfl 1 rfl ?_
      refine gc_v X (gr_V (q0 := 0) X dX3_push_32 X.2.2.2.2.2.1 (k_empty l D G (wV t (upd (gK t) (10 + gT t) (gK t j)) (upd (gV t) (10 + gT t) (gV t j))) j (by omega)) (cwV 1 X.2.2.2.2.1 (gdV (al 195 rfl) (al 196 rfl) (al 250 rfl) (al 4 rfl) (al 197 rfl)) rfl rfl rfl (by decide +kernel) ⟨Nat.le_of_ble_eq_true rfl, Nat.le_of_ble_eq_true rfl⟩) rfl rfl rfl rfl rfl (Nat.le_of_ble_eq_true rfl) ⟨Nat.le_of_ble_eq_true rfl, Nat.le_of_ble_eq_true rfl⟩) (fun w_32 h_32 => ?_)
      rw [h_32]
      refine gg_aload_n X dX3_push_35 rfl 0 rfl ?_
      refine gg_dup X dX3_push_36 rfl ?_
      refine gg_get X dX3_push_37 imX3 0 rfl rfl 3 (by decide) (am 146 rfl) rfl ?_
      refine gg_iconst X dX3_push_40 (v := 1) (by decide) ?_
      refine gg_iadd X dX3_push_41 (nI_1 _) ?_
      refine gg_put X dX3_push_42 imX3 tyX3 tyX3_ok nmX3 0 rfl rfl 3 (by decide) (am 146 rfl) (ws' := dW G (wT (wV t (upd (upd (gK t) (10 + gT t) (gK t j)) j 0) (upd (upd (gV t) (10 + gT t) (gV t j)) j 0)) (gT t + 1))) (ty := .int) rfl (by decide +kernel) rfl rfl (Nat.le_of_ble_eq_true rfl) (rfl) ?_
      refine gg_aload_n X dX3_push_45 rfl 0 rfl ?_
      refine gg_get X dX3_push_46 imX3 0 rfl rfl 3 (by decide) (am 146 rfl) rfl ?_
      exact gg_iret X dX3_push_49 hr hk (wT (wV t (upd (upd (gK t) (10 + gT t) (gK t j)) j 0) (upd (upd (gV t) (10 + gT t) (gV t j)) j 0)) (gT t + 1)) (Or.inl ⟨j, hj, rfl, h13, rfl, rfl⟩) rfl (Nat.le_of_ble_eq_true rfl) (Nat.le_of_ble_eq_true rfl)
    · refine gg_iconst X dX3_push_16 (v := (-1)) (by decide) ?_
      exact gg_iret X dX3_push_17 hr hk t (Or.inr ⟨fun h => absurd ((nI_eq (a := gT t) (b := 50) (by omega) (by omega)).mp c_13) (by have := h.2; omega), rfl, rfl⟩) rfl (Nat.le_of_ble_eq_true rfl) (Nat.le_of_ble_eq_true rfl)
set_option maxHeartbeats 4000000 in
set_option maxRecDepth 100000 in
theorem k_popd (l : Launch) (D : va_G) (G : DF) (t : DS) (hk0 : dOk t) (r : Int32) : mG l yX3_pop wX3_pop ({ frames := 1, cells := 0, slots := 0, locals := 22 }) D vwCl (dT G) [.ref (dH G), .int r] (dW G t) (qI D vwCl (fun (x : Int32) (w : DS) => dpPop t r x w) (dW G)) := by
  refine gg_met (cc := cX3_pop) (nL := 2) (ret := (some .int)) (lv := [(0, .ref (dH G)), (1, .int r)]) (by decide) rfl rfl (Nat.le_of_ble_eq_true rfl) ?_
  intro p_ e_ s_ m_ bl_ me_ cc_ A_ X hr hk hnm
  have h50 := hk0.1
  refine gg_iload_n X dX3_pop_0 rfl 1 rfl ?_
  refine gc_i X (gr_S X dX3_pop_1 X.2.2.2.2.2.1 (k_isRd l D (dT G) (dW G t) r) (cwS 1 X.2.2.2.2.1 (gdS (al 165 rfl) (al 166 rfl) (al 4 rfl) (al 167 rfl)) rfl rfl rfl (by decide +kernel) ⟨Nat.le_of_ble_eq_true rfl, Nat.le_of_ble_eq_true rfl⟩) rfl rfl (Nat.le_of_ble_eq_true rfl) ⟨Nat.le_of_ble_eq_true rfl, Nat.le_of_ble_eq_true rfl⟩) (fun r_1 w_1 h_1 => ?_)
  refine gg_if_eq (tgt := 14) X dX3_pop_4 (by decide) (fun c_4 => ?_) (fun c_4 => ?_)
  · refine gg_iconst X dX3_pop_14 (v := (-1)) (by decide) ?_
    exact gg_iret X dX3_pop_15 hr hk t (Or.inr ⟨fun h => b01 h_1 c_4 h.1, rfl, rfl⟩) rfl (Nat.le_of_ble_eq_true rfl) (Nat.le_of_ble_eq_true rfl)
  · obtain ⟨j, hj, rfl⟩ := b01' h_1 c_4
    refine gg_aload_n X dX3_pop_7 rfl 0 rfl ?_
    refine gg_get X dX3_pop_8 imX3 0 rfl rfl 3 (by decide) (am 146 rfl) rfl ?_
    refine gg_if_ne (tgt := 16) X dX3_pop_11 (by decide) (fun c_11 => ?_) (fun c_11 => ?_)
    · obtain ⟨n, hn⟩ : ∃ n, gT t = n + 1 := ⟨gT t - 1, by
        have : ¬ gT t = 0 := fun e => c_11 (by rw [e]; rfl)
        omega⟩
      refine gg_aload_n X dX3_pop_16 rfl 0 rfl ?_
      refine gg_dup X dX3_pop_17 rfl ?_
      refine gg_get X dX3_pop_18 imX3 0 rfl rfl 3 (by decide) (am 146 rfl) rfl ?_
      refine gg_iconst X dX3_pop_21 (v := 1) (by decide) ?_
      refine gg_isub X dX3_pop_22 (v := nI n) (by rw [hn]; exact nI_pred n) ?_
      refine gg_put X dX3_pop_23 imX3 tyX3 tyX3_ok nmX3 0 rfl rfl 3 (by decide) (am 146 rfl) (ws' := dW G (wT t n)) (ty := .int) rfl (by decide +kernel) rfl rfl (Nat.le_of_ble_eq_true rfl) (rfl) ?_
      refine gg_aload_n X dX3_pop_26 rfl 0 rfl ?_
      refine gg_iload_n X dX3_pop_27 rfl 1 rfl ?_
      refine gg_bipush X dX3_pop_28 (v := nI 10) (by decide) ?_
      refine gg_aload_n X dX3_pop_30 rfl 0 rfl ?_
      refine gg_get X dX3_pop_31 imX3 0 rfl rfl 3 (by decide) (am 146 rfl) rfl ?_
      refine gg_iadd X dX3_pop_34 (nI_add _ _) ?_
      refine gc_v X (gr_V (q0 := 0) X dX3_pop_35 X.2.2.2.2.2.1 (k_move l D G (wT t n) j (10 + n) (by omega) (by omega) (nar_k (t := t) (p := 10 + n) hk0 (Or.inl (by omega)))) (cwV 2 X.2.2.2.2.1 (gdV (al 183 rfl) (al 184 rfl) (al 248 rfl) (al 4 rfl) (al 185 rfl)) rfl rfl rfl (by decide +kernel) ⟨Nat.le_of_ble_eq_true rfl, Nat.le_of_ble_eq_true rfl⟩) rfl rfl rfl rfl rfl (Nat.le_of_ble_eq_true rfl) ⟨Nat.le_of_ble_eq_true rfl, Nat.le_of_ble_eq_true rfl⟩) (fun w_35 h_35 => ?_)
      rw [h_35]
      refine gg_aload_n X dX3_pop_38 rfl 0 rfl ?_
      refine gg_get X dX3_pop_39 imX3 0 rfl rfl 3 (by decide) (am 146 rfl) rfl ?_
      exact gg_iret X dX3_pop_42 hr hk (wV (wT t n) (upd (gK t) j (gK t (10 + n))) (upd (gV t) j (gV t (10 + n)))) (Or.inl ⟨j, n, hj, rfl, hn, rfl, rfl⟩) rfl (Nat.le_of_ble_eq_true rfl) (Nat.le_of_ble_eq_true rfl)
    · refine gg_iconst X dX3_pop_14 (v := (-1)) (by decide) ?_
      exact gg_iret X dX3_pop_15 hr hk t (Or.inr ⟨fun h => absurd ((nI_eq (a := gT t) (b := 0) (by omega) (by omega)).mp c_11) (by have := h.2; omega), rfl, rfl⟩) rfl (Nat.le_of_ble_eq_true rfl) (Nat.le_of_ble_eq_true rfl)
set_option maxHeartbeats 4000000 in
set_option maxRecDepth 100000 in
theorem k_shrinkd (l : Launch) (D : va_G) (G : DF) (t : DS) (hk0 : dOk t) (r : Int32) : mG l yX3_shrink wX3_shrink ({ frames := 2, cells := 0, slots := 0, locals := 41 }) D vwCl (dT G) [.ref (dH G), .int r] (dW G t) (qI D vwCl (fun (x : Int32) (w : DS) => dpShr t r x w) (dW G)) := by
  refine gg_met (cc := cX3_shrink) (nL := 3) (ret := (some .int)) (lv := [(0, .ref (dH G)), (1, .int r)]) (by decide) rfl rfl (Nat.le_of_ble_eq_true rfl) ?_
  intro p_ e_ s_ m_ bl_ me_ cc_ A_ X hr hk hnm
  have hm := hk0.2.1
  refine gg_aload_n X dX3_shrink_0 rfl 0 rfl ?_
  refine gg_iload_n X dX3_shrink_1 rfl 1 rfl ?_
  refine gc_i X (gr_V (q0 := 0) X dX3_shrink_2 X.2.2.2.2.2.1 (k_hasObject l D G t hk0 r) (cwV 1 X.2.2.2.2.1 (gdV (al 189 rfl) (al 190 rfl) (al 249 rfl) (al 4 rfl) (al 191 rfl)) rfl rfl rfl (by decide +kernel) ⟨Nat.le_of_ble_eq_true rfl, Nat.le_of_ble_eq_true rfl⟩) rfl rfl rfl rfl rfl (Nat.le_of_ble_eq_true rfl) ⟨Nat.le_of_ble_eq_true rfl, Nat.le_of_ble_eq_true rfl⟩) (fun r_2 w_2 h_2 => ?_)
  obtain ⟨ew, h_2⟩ := h_2
  rw [ew]
  refine gg_if_eq (tgt := 22) X dX3_shrink_5 (by decide) (fun c_5 => ?_) (fun c_5 => ?_)
  · refine gg_iconst X dX3_shrink_22 (v := (-1)) (by decide) ?_
    exact gg_iret X dX3_shrink_23 hr hk t (Or.inr ⟨fun ⟨j', o', n', g1, g2, g3, g4, g5, g6⟩ => b01 h_2 c_5 ⟨j', o', g1, g2, g3, g4, g5⟩, rfl, rfl⟩) rfl (Nat.le_of_ble_eq_true rfl) (Nat.le_of_ble_eq_true rfl)
  · obtain ⟨j, o, hj, rfl, hk2, ho, hv⟩ := b01' h_2 c_5
    have h20 := hk0.2.2.1 o ho
    refine gg_aload_n X dX3_shrink_8 rfl 0 rfl ?_
    refine gg_get X dX3_shrink_9 imX3 0 rfl rfl 5 (by decide) (am 148 rfl) rfl ?_
    refine gg_aload_n X dX3_shrink_12 rfl 0 rfl ?_
    refine gg_get X dX3_shrink_13 imX3 0 rfl rfl 2 (by decide) (am 145 rfl) rfl ?_
    refine gg_iload_n X dX3_shrink_16 rfl 1 rfl ?_
    refine gg_iald X dX3_shrink_17 2 1 rfl rfl j rfl (by omega) (by decide) ?_
    rw [hv]
    refine gg_iald X dX3_shrink_18 3 1 rfl rfl o rfl (by omega) (by decide) ?_
    refine gg_if_ne (tgt := 24) X dX3_shrink_19 (by decide) (fun c_19 => ?_) (fun c_19 => ?_)
    · obtain ⟨n, hn⟩ : ∃ n, gS t o = n + 1 := ⟨gS t o - 1, by
        have : ¬ gS t o = 0 := fun e => c_19 (by rw [e]; rfl)
        omega⟩
      refine gg_aload_n X dX3_shrink_24 rfl 0 rfl ?_
      refine gg_get X dX3_shrink_25 imX3 0 rfl rfl 2 (by decide) (am 145 rfl) rfl ?_
      refine gg_iload_n X dX3_shrink_28 rfl 1 rfl ?_
      refine gg_iald X dX3_shrink_29 2 1 rfl rfl j rfl (by omega) (by decide) ?_
      rw [hv]
      refine gg_istore_n X dX3_shrink_30 rfl (by decide) rfl ?_
      refine gg_aload_n X dX3_shrink_31 rfl 1 rfl ?_
      refine gg_get X dX3_shrink_32 imX3 0 rfl rfl 5 (by decide) (am 148 rfl) rfl ?_
      refine gg_iload_n X dX3_shrink_35 rfl 0 rfl ?_
      refine gg_dup2 X dX3_shrink_36 rfl rfl ?_
      refine gg_iald X dX3_shrink_37 3 1 rfl rfl o rfl (by omega) (by decide) ?_
      refine gg_iconst X dX3_shrink_38 (v := 1) (by decide) ?_
      refine gg_isub X dX3_shrink_39 (v := nI n) (by rw [hn]; exact nI_pred n) ?_
      refine gg_iast X dX3_shrink_40 3 1 rfl rfl o rfl (by omega) (by decide) (ws' := dW G (wS t (va_up (gS t) o n))) (by rw [upd_nI]; rfl) ?_
      refine gg_aload_n X dX3_shrink_41 rfl 1 rfl ?_
      refine gg_iload_n X dX3_shrink_42 rfl 0 rfl ?_
      refine gg_aload_n X dX3_shrink_43 rfl 1 rfl ?_
      refine gg_get X dX3_shrink_44 imX3 0 rfl rfl 5 (by decide) (am 148 rfl) rfl ?_
      refine gg_iload_n X dX3_shrink_47 rfl 0 rfl ?_
      refine gg_iald X dX3_shrink_48 3 1 rfl rfl o rfl (by omega) (by decide) ?_
      refine gg_st (st' := [.int (nI n), .int (nI o), .ref (dH G)]) (by show [Value.int (nI (va_up (gS t) o n o)), Value.int (nI o), Value.ref (dH G)] = _; rw [va_up_self]) ?_
      refine gc_i X (gr_S X dX3_shrink_49 X.2.2.2.2.2.1 (k_placeOf l D (dT G) (dW G (wS t (va_up (gS t) o n))) o n) (cwS 2 X.2.2.2.2.1 (gdS (al 180 rfl) (al 181 rfl) (al 4 rfl) (al 182 rfl)) rfl rfl rfl (by decide +kernel) ⟨Nat.le_of_ble_eq_true rfl, Nat.le_of_ble_eq_true rfl⟩) rfl rfl (Nat.le_of_ble_eq_true rfl) ⟨Nat.le_of_ble_eq_true rfl, Nat.le_of_ble_eq_true rfl⟩) (fun r_49 w_49 h_49 => ?_)
      rw [h_49]
      refine gc_v X (gr_V (q0 := 0) X dX3_shrink_52 X.2.2.2.2.2.1 (k_empty l D G (wS t (va_up (gS t) o n)) (pL o n) (pL_lt hk0 ho (by omega))) (cwV 1 X.2.2.2.2.1 (gdV (al 195 rfl) (al 196 rfl) (al 250 rfl) (al 4 rfl) (al 197 rfl)) rfl rfl rfl (by decide +kernel) ⟨Nat.le_of_ble_eq_true rfl, Nat.le_of_ble_eq_true rfl⟩) rfl rfl rfl rfl rfl (Nat.le_of_ble_eq_true rfl) ⟨Nat.le_of_ble_eq_true rfl, Nat.le_of_ble_eq_true rfl⟩) (fun w_52 h_52 => ?_)
      rw [h_52]
      refine gg_aload_n X dX3_shrink_55 rfl 1 rfl ?_
      refine gg_get X dX3_shrink_56 imX3 0 rfl rfl 5 (by decide) (am 148 rfl) rfl ?_
      refine gg_iload_n X dX3_shrink_59 rfl 0 rfl ?_
      refine gg_iald X dX3_shrink_60 3 1 rfl rfl o rfl (by omega) (by decide) ?_
      exact gg_iret X dX3_shrink_61 hr hk (wV (wS t (va_up (gS t) o n)) (upd (gK t) (pL o n) 0) (upd (gV t) (pL o n) 0)) (Or.inl ⟨j, o, n, ⟨hj, rfl, hk2, ho, hv, hn⟩, by show nI (va_up (gS t) o n o) = nI n; rw [va_up_self], rfl⟩) rfl (Nat.le_of_ble_eq_true rfl) (Nat.le_of_ble_eq_true rfl)
    · refine gg_iconst X dX3_shrink_22 (v := (-1)) (by decide) ?_
      exact gg_iret X dX3_shrink_23 hr hk t (Or.inr ⟨fun ⟨j', o', n', g1, g2, g3, g4, g5, g6⟩ => by
          have e1 := r_inj (by omega) (by omega) g2
          subst e1
          have e2 := nI_inj (by omega) (by omega) (hv.symm.trans g5)
          subst e2
          have := (nI_eq (a := gS t o) (b := 0) (by omega) (by omega)).mp c_19
          omega, rfl, rfl⟩) rfl (Nat.le_of_ble_eq_true rfl) (Nat.le_of_ble_eq_true rfl)
set_option maxHeartbeats 4000000 in
set_option maxRecDepth 100000 in
theorem k_growd (l : Launch) (D : va_G) (G : DF) (t : DS) (hk0 : dOk t) (hC : dC G ≤ 3000) (r s : Int32) : mG l yX3_grow wX3_grow ({ frames := 4, cells := 0, slots := 0, locals := 88 }) D vwCl (dT G) [.ref (dH G), .int r, .int s] (dW G t) (qI D vwCl (fun (x : Int32) (w : DS) => dpGrow (dC G) t r s x w) (dW G)) := by
  refine gg_met (cc := cX3_grow) (nL := 4) (ret := (some .int)) (lv := [(0, .ref (dH G)), (1, .int r), (2, .int s)]) (by decide) rfl rfl (Nat.le_of_ble_eq_true rfl) ?_
  intro p_ e_ s_ m_ bl_ me_ cc_ A_ X hr hk hnm
  have hm := hk0.2.1
  refine gg_aload_n X dX3_grow_0 rfl 0 rfl ?_
  refine gg_iload_n X dX3_grow_1 rfl 1 rfl ?_
  refine gc_i X (gr_V (q0 := 0) X dX3_grow_2 X.2.2.2.2.2.1 (k_hasObject l D G t hk0 r) (cwV 1 X.2.2.2.2.1 (gdV (al 189 rfl) (al 190 rfl) (al 249 rfl) (al 4 rfl) (al 191 rfl)) rfl rfl rfl (by decide +kernel) ⟨Nat.le_of_ble_eq_true rfl, Nat.le_of_ble_eq_true rfl⟩) rfl rfl rfl rfl rfl (Nat.le_of_ble_eq_true rfl) ⟨Nat.le_of_ble_eq_true rfl, Nat.le_of_ble_eq_true rfl⟩) (fun r_2 w_2 h_2 => ?_)
  obtain ⟨ew, h_2⟩ := h_2
  rw [ew]
  refine gg_if_eq (tgt := 31) X dX3_grow_5 (by decide) (fun c_5 => ?_) (fun c_5 => ?_)
  · refine gg_iconst X dX3_grow_31 (v := (-1)) (by decide) ?_
    exact gg_iret X dX3_grow_32 hr hk t (Or.inr ⟨fun ⟨j', o', a', g1, g2, g3, g4, g5, g6, g7, g8⟩ => b01 h_2 c_5 ⟨j', o', g1, g2, g3, g4, g5⟩, rfl, rfl⟩) rfl (Nat.le_of_ble_eq_true rfl) (Nat.le_of_ble_eq_true rfl)
  · obtain ⟨j, o, hj, rfl, hk2, ho, hv⟩ := b01' h_2 c_5
    have h20 := hk0.2.2.1 o ho
    refine gg_iload_n X dX3_grow_8 rfl 2 rfl ?_
    refine gc_i X (gr_S X dX3_grow_9 X.2.2.2.2.2.1 (k_isRd l D (dT G) (dW G t) s) (cwS 1 X.2.2.2.2.1 (gdS (al 165 rfl) (al 166 rfl) (al 4 rfl) (al 167 rfl)) rfl rfl rfl (by decide +kernel) ⟨Nat.le_of_ble_eq_true rfl, Nat.le_of_ble_eq_true rfl⟩) rfl rfl (Nat.le_of_ble_eq_true rfl) ⟨Nat.le_of_ble_eq_true rfl, Nat.le_of_ble_eq_true rfl⟩) (fun r_9 w_9 h_9 => ?_)
    refine gg_if_eq (tgt := 31) X dX3_grow_12 (by decide) (fun c_12 => ?_) (fun c_12 => ?_)
    · refine gg_iconst X dX3_grow_31 (v := (-1)) (by decide) ?_
      exact gg_iret X dX3_grow_32 hr hk t (Or.inr ⟨fun ⟨j', o', a', g1, g2, g3, g4, g5, g6, g7, g8⟩ => b01 h_9 c_12 ⟨a', g6, g7⟩, rfl, rfl⟩) rfl (Nat.le_of_ble_eq_true rfl) (Nat.le_of_ble_eq_true rfl)
    · obtain ⟨a, ha, rfl⟩ := b01' h_9 c_12
      refine gg_aload_n X dX3_grow_15 rfl 0 rfl ?_
      refine gg_get X dX3_grow_16 imX3 0 rfl rfl 5 (by decide) (am 148 rfl) rfl ?_
      refine gg_aload_n X dX3_grow_19 rfl 0 rfl ?_
      refine gg_get X dX3_grow_20 imX3 0 rfl rfl 2 (by decide) (am 145 rfl) rfl ?_
      refine gg_iload_n X dX3_grow_23 rfl 1 rfl ?_
      refine gg_iald X dX3_grow_24 2 1 rfl rfl j rfl (by omega) (by decide) ?_
      rw [hv]
      refine gg_iald X dX3_grow_25 3 1 rfl rfl o rfl (by omega) (by decide) ?_
      refine gg_bipush X dX3_grow_26 (v := nI 20) (by decide) ?_
      refine gg_icmp_ne (tgt := 33) X dX3_grow_28 (by decide) (fun c_28 => ?_) (fun c_28 => ?_)
      · have h28 : gS t o < 20 := by
          have : ¬ gS t o = 20 := fun e => c_28 (by rw [e])
          omega
        refine gg_aload_n X dX3_grow_33 rfl 0 rfl ?_
        refine gg_iconst X dX3_grow_34 (v := nI 1) (by decide) ?_
        refine gc_i X (gr_V (q0 := 0) X dX3_grow_35 X.2.2.2.2.2.1 (k_hasRoom l D G t hk0 hC 1 (by decide)) (cwV 1 X.2.2.2.2.1 (gdV (al 168 rfl) (al 169 rfl) (al 244 rfl) (al 4 rfl) (al 170 rfl)) rfl rfl rfl (by decide +kernel) ⟨Nat.le_of_ble_eq_true rfl, Nat.le_of_ble_eq_true rfl⟩) rfl rfl rfl rfl rfl (Nat.le_of_ble_eq_true rfl) ⟨Nat.le_of_ble_eq_true rfl, Nat.le_of_ble_eq_true rfl⟩) (fun r_35 w_35 h_35 => ?_)
        obtain ⟨R, hR, h_35⟩ := h_35
        refine gg_if_ne (tgt := 43) X dX3_grow_38 (by decide) (fun c_38 => ?_) (fun c_38 => ?_)
        · rcases h_35 with ⟨h35, -, ew2⟩ | ⟨-, h35, -⟩
          rotate_left
          · exact absurd h35 c_38
          rw [ew2]
          refine gg_aload_n X dX3_grow_43 rfl 0 rfl ?_
          refine gg_get X dX3_grow_44 imX3 0 rfl rfl 2 (by decide) (am 145 rfl) rfl ?_
          refine gg_iload_n X dX3_grow_47 rfl 1 rfl ?_
          refine gg_iald X dX3_grow_48 2 1 rfl rfl j rfl (by omega) (by decide) ?_
          refine gg_st (st' := [.int (nI o)]) (by show [Value.int (gV t j)] = _; rw [hv]) ?_
          refine gg_istore_n X dX3_grow_49 rfl (by decide) rfl ?_
          refine gg_aload_n X dX3_grow_50 rfl 1 rfl ?_
          refine gg_iload_n X dX3_grow_51 rfl 0 rfl ?_
          refine gg_aload_n X dX3_grow_52 rfl 1 rfl ?_
          refine gg_get X dX3_grow_53 imX3 0 rfl rfl 5 (by decide) (am 148 rfl) rfl ?_
          refine gg_iload_n X dX3_grow_56 rfl 0 rfl ?_
          refine gg_iald X dX3_grow_57 3 1 rfl rfl o rfl (by omega) (by decide) ?_
          refine gc_i X (gr_S X dX3_grow_58 X.2.2.2.2.2.1 (k_placeOf l D (dT G) (dW G (wR t R)) o (gS t o)) (cwS 2 X.2.2.2.2.1 (gdS (al 180 rfl) (al 181 rfl) (al 4 rfl) (al 182 rfl)) rfl rfl rfl (by decide +kernel) ⟨Nat.le_of_ble_eq_true rfl, Nat.le_of_ble_eq_true rfl⟩) rfl rfl (Nat.le_of_ble_eq_true rfl) ⟨Nat.le_of_ble_eq_true rfl, Nat.le_of_ble_eq_true rfl⟩) (fun r_58 w_58 h_58 => ?_)
          rw [h_58]
          refine gg_iload_n X dX3_grow_61 rfl 3 rfl ?_
          refine gc_v X (gr_V (q0 := 0) X dX3_grow_62 X.2.2.2.2.2.1 (k_move l D G (wR t R) (pL o (gS t o)) a (pL_lt hk0 ho h28) (by omega) (nar_k (t := t) (p := a) hk0 (Or.inl (by omega)))) (cwV 2 X.2.2.2.2.1 (gdV (al 183 rfl) (al 184 rfl) (al 248 rfl) (al 4 rfl) (al 185 rfl)) rfl rfl rfl (by decide +kernel) ⟨Nat.le_of_ble_eq_true rfl, Nat.le_of_ble_eq_true rfl⟩) rfl rfl rfl rfl rfl (Nat.le_of_ble_eq_true rfl) ⟨Nat.le_of_ble_eq_true rfl, Nat.le_of_ble_eq_true rfl⟩) (fun w_62 h_62 => ?_)
          rw [h_62]
          refine gg_aload_n X dX3_grow_65 rfl 1 rfl ?_
          refine gg_get X dX3_grow_66 imX3 0 rfl rfl 5 (by decide) (am 148 rfl) rfl ?_
          refine gg_iload_n X dX3_grow_69 rfl 0 rfl ?_
          refine gg_dup2 X dX3_grow_70 rfl rfl ?_
          refine gg_iald X dX3_grow_71 3 1 rfl rfl o rfl (by omega) (by decide) ?_
          refine gg_iconst X dX3_grow_72 (v := 1) (by decide) ?_
          refine gg_iadd X dX3_grow_73 (nI_1 _) ?_
          refine gg_iast X dX3_grow_74 3 1 rfl rfl o rfl (by omega) (by decide) (ws' := dW G (wS (wV (wR t R) (upd (gK t) (pL o (gS t o)) (gK t a)) (upd (gV t) (pL o (gS t o)) (gV t a))) (va_up (gS t) o (gS t o + 1)))) (by rw [upd_nI]; rfl) ?_
          refine gg_aload_n X dX3_grow_75 rfl 1 rfl ?_
          refine gg_get X dX3_grow_76 imX3 0 rfl rfl 5 (by decide) (am 148 rfl) rfl ?_
          refine gg_iload_n X dX3_grow_79 rfl 0 rfl ?_
          refine gg_iald X dX3_grow_80 3 1 rfl rfl o rfl (by omega) (by decide) ?_
          exact gg_iret X dX3_grow_81 hr hk (wS (wV (wR t R) (upd (gK t) (pL o (gS t o)) (gK t a)) (upd (gV t) (pL o (gS t o)) (gV t a))) (va_up (gS t) o (gS t o + 1))) (Or.inl ⟨j, o, a, R, ⟨hj, rfl, hk2, ho, hv, ha, rfl, h28⟩, hR, Or.inl ⟨h35, by show nI (va_up (gS t) o (gS t o + 1) o) = _; rw [va_up_self], rfl⟩⟩) rfl (Nat.le_of_ble_eq_true rfl) (Nat.le_of_ble_eq_true rfl)
        · rcases h_35 with ⟨-, h35, -⟩ | ⟨h35, -, ew2⟩
          · rw [h35] at c_38; exact absurd c_38 (by decide)
          rw [ew2]
          refine gg_iconst X dX3_grow_41 (v := 0) (by decide) ?_
          exact gg_iret X dX3_grow_42 hr hk (wF (wR t R) (gF t + 1)) (Or.inl ⟨j, o, a, R, ⟨hj, rfl, hk2, ho, hv, ha, rfl, h28⟩, hR, Or.inr ⟨h35, rfl, rfl⟩⟩) rfl (Nat.le_of_ble_eq_true rfl) (Nat.le_of_ble_eq_true rfl)
      · refine gg_iconst X dX3_grow_31 (v := (-1)) (by decide) ?_
        exact gg_iret X dX3_grow_32 hr hk t (Or.inr ⟨fun ⟨j', o', a', g1, g2, g3, g4, g5, g6, g7, g8⟩ => by
            have e1 := r_inj (by omega) (by omega) g2
            subst e1
            have e2 := nI_inj (by omega) (by omega) (hv.symm.trans g5)
            subst e2
            have := (nI_eq (a := gS t o) (b := 20) (by omega) (by omega)).mp c_28
            omega, rfl, rfl⟩) rfl (Nat.le_of_ble_eq_true rfl) (Nat.le_of_ble_eq_true rfl)
set_option maxHeartbeats 4000000 in
set_option maxRecDepth 100000 in
theorem k_maked (l : Launch) (D : va_G) (G : DF) (t : DS) (hk0 : dOk t) (hC : dC G ≤ 3000) (r n s : Int32) : mG l yX3_make wX3_make ({ frames := 4, cells := 0, slots := 0, locals := 88 }) D vwCl (dT G) [.ref (dH G), .int r, .int n, .int s] (dW G t) (qI D vwCl (fun (x : Int32) (w : DS) => dpMake (dC G) t r n s x w) (dW G)) := by
  refine gg_met (cc := cX3_make) (nL := 5) (ret := (some .int)) (lv := [(0, .ref (dH G)), (1, .int r), (2, .int n), (3, .int s)]) (by decide) rfl rfl (Nat.le_of_ble_eq_true rfl) ?_
  intro p_ e_ s_ m_ bl_ me_ cc_ A_ X hr hk hnm
  have hm := hk0.2.1
  refine gg_iload_n X dX3_make_0 rfl 1 rfl ?_
  refine gc_i X (gr_S X dX3_make_1 X.2.2.2.2.2.1 (k_isRd l D (dT G) (dW G t) r) (cwS 1 X.2.2.2.2.1 (gdS (al 165 rfl) (al 166 rfl) (al 4 rfl) (al 167 rfl)) rfl rfl rfl (by decide +kernel) ⟨Nat.le_of_ble_eq_true rfl, Nat.le_of_ble_eq_true rfl⟩) rfl rfl (Nat.le_of_ble_eq_true rfl) ⟨Nat.le_of_ble_eq_true rfl, Nat.le_of_ble_eq_true rfl⟩) (fun r_1 w_1 h_1 => ?_)
  refine gg_if_eq (tgt := 24) X dX3_make_4 (by decide) (fun c_4 => ?_) (fun c_4 => ?_)
  · refine gg_iconst X dX3_make_24 (v := (-1)) (by decide) ?_
    exact gg_iret X dX3_make_25 hr hk t (Or.inr ⟨fun ⟨j', k', a', g1, g2, g3, g4, g5, g6⟩ => b01 h_1 c_4 ⟨j', g1, g2⟩, rfl, rfl⟩) rfl (Nat.le_of_ble_eq_true rfl) (Nat.le_of_ble_eq_true rfl)
  · obtain ⟨j, hj, rfl⟩ := b01' h_1 c_4
    refine gg_iload_n X dX3_make_7 rfl 3 rfl ?_
    refine gc_i X (gr_S X dX3_make_8 X.2.2.2.2.2.1 (k_isRd l D (dT G) (dW G t) s) (cwS 1 X.2.2.2.2.1 (gdS (al 165 rfl) (al 166 rfl) (al 4 rfl) (al 167 rfl)) rfl rfl rfl (by decide +kernel) ⟨Nat.le_of_ble_eq_true rfl, Nat.le_of_ble_eq_true rfl⟩) rfl rfl (Nat.le_of_ble_eq_true rfl) ⟨Nat.le_of_ble_eq_true rfl, Nat.le_of_ble_eq_true rfl⟩) (fun r_8 w_8 h_8 => ?_)
    refine gg_if_eq (tgt := 24) X dX3_make_11 (by decide) (fun c_11 => ?_) (fun c_11 => ?_)
    · refine gg_iconst X dX3_make_24 (v := (-1)) (by decide) ?_
      exact gg_iret X dX3_make_25 hr hk t (Or.inr ⟨fun ⟨j', k', a', g1, g2, g3, g4, g5, g6⟩ => b01 h_8 c_11 ⟨a', g5, g6⟩, rfl, rfl⟩) rfl (Nat.le_of_ble_eq_true rfl) (Nat.le_of_ble_eq_true rfl)
    · obtain ⟨a, ha, rfl⟩ := b01' h_8 c_11
      refine gg_iload_n X dX3_make_14 rfl 2 rfl ?_
      refine gg_if_lt (tgt := 24) X dX3_make_15 (by decide) (fun c_15 => ?_) (fun c_15 => ?_)
      · refine gg_iconst X dX3_make_24 (v := (-1)) (by decide) ?_
        exact gg_iret X dX3_make_25 hr hk t (Or.inr ⟨fun ⟨j', k', a', g1, g2, g3, g4, g5, g6⟩ => ix_no (n := 21) (by decide) (Or.inl c_15) k' (by omega) g4, rfl, rfl⟩) rfl (Nat.le_of_ble_eq_true rfl) (Nat.le_of_ble_eq_true rfl)
      · refine gg_iload_n X dX3_make_18 rfl 2 rfl ?_
        refine gg_bipush X dX3_make_19 (v := nI 20) (by decide) ?_
        refine gg_icmp_le (tgt := 26) X dX3_make_21 (by decide) (fun c_21 => ?_) (fun c_21 => ?_)
        · obtain ⟨k, hk2, rfl⟩ : ∃ k, k ≤ 20 ∧ n = nI k := by
            obtain ⟨k, h1, h2⟩ := nI_of2 (M := nI 20) (n := 20) (by decide) c_15 c_21
            exact ⟨k, h1, h2⟩
          refine gg_aload_n X dX3_make_26 rfl 0 rfl ?_
          refine gg_iconst X dX3_make_27 (v := nI 2) (by decide) ?_
          refine gg_iload_n X dX3_make_28 rfl 2 rfl ?_
          refine gg_iadd X dX3_make_29 (nI_add _ _) ?_
          refine gc_i X (gr_V (q0 := 0) X dX3_make_30 X.2.2.2.2.2.1 (k_hasRoom l D G t hk0 hC (2 + k) (by omega)) (cwV 1 X.2.2.2.2.1 (gdV (al 168 rfl) (al 169 rfl) (al 244 rfl) (al 4 rfl) (al 170 rfl)) rfl rfl rfl (by decide +kernel) ⟨Nat.le_of_ble_eq_true rfl, Nat.le_of_ble_eq_true rfl⟩) rfl rfl rfl rfl rfl (Nat.le_of_ble_eq_true rfl) ⟨Nat.le_of_ble_eq_true rfl, Nat.le_of_ble_eq_true rfl⟩) (fun r_30 w_30 h_30 => ?_)
          obtain ⟨R, hR, h_30⟩ := h_30
          refine gg_if_ne (tgt := 38) X dX3_make_33 (by decide) (fun c_33 => ?_) (fun c_33 => ?_)
          · rcases h_30 with ⟨h30, -, ew2⟩ | ⟨-, h30, -⟩
            rotate_left
            · exact absurd h30 c_33
            rw [ew2]
            refine gg_iconst X dX3_make_38 (v := nI 0) (by decide) ?_
            refine gg_istore X dX3_make_39 (by decide) rfl ?_
            refine gg_ws (ws' := dW G (wV (wR t R) (fI (gK t) (pL (gM t) 0) 0 (gK t a)) (fI (gV t) (pL (gM t) 0) 0 (gV t a)))) (by rw [fI_0, fI_0]) ?_
            refine gg_loop (ι := Nat) (fun q => q ≤ k) (fun q => k - q) (fun q => dW G (wV (wR t R) (fI (gK t) (pL (gM t) 0) q (gK t a)) (fI (gV t) (pL (gM t) 0) q (gV t a)))) (fun q => [(4, .int (nI q)), (0, .ref (dH G)), (1, .int (nI j)), (2, .int (nI k)), (3, .int (nI a))]) ?_ 0 (Nat.zero_le _)
            intro q hqk ih
            refine gg_iload X dX3_make_41 0 rfl ?_
            refine gg_iload_n X dX3_make_43 rfl 3 rfl ?_
            refine gg_icmp_ge (tgt := 67) X dX3_make_44 (by decide) (fun c_44 => ?_) (fun c_44 => ?_)
            · have hq2 : q = k := by have := (nI_leI (a := k) (b := q) (by omega) (by omega)).mp c_44; omega
              rw [hq2]
              refine gg_aload_n X dX3_make_67 rfl 1 rfl ?_
              refine gg_get X dX3_make_68 imX3 0 rfl rfl 5 (by decide) (am 148 rfl) rfl ?_
              refine gg_aload_n X dX3_make_71 rfl 1 rfl ?_
              refine gg_get X dX3_make_72 imX3 0 rfl rfl 4 (by decide) (am 147 rfl) rfl ?_
              refine gg_iload_n X dX3_make_75 rfl 3 rfl ?_
              refine gg_iast X dX3_make_76 3 1 rfl rfl (gM t) rfl (by omega) (by decide) (ws' := dW G (wV (wS (wR t R) (va_up (gS t) (gM t) k)) (fI (gK t) (pL (gM t) 0) k (gK t a)) (fI (gV t) (pL (gM t) 0) k (gV t a)))) (by rw [upd_nI]; rfl) ?_
              refine gg_aload_n X dX3_make_77 rfl 1 rfl ?_
              refine gg_get X dX3_make_78 imX3 0 rfl rfl 1 (by decide) (am 144 rfl) rfl ?_
              refine gg_iload_n X dX3_make_81 rfl 2 rfl ?_
              refine gg_iconst X dX3_make_82 (v := 2) (by decide) ?_
              refine gg_bast X dX3_make_83 1 0 rfl rfl j rfl (by omega) (by decide) (by decide) (ws' := dW G (wV (wS (wR t R) (va_up (gS t) (gM t) k)) (upd (fI (gK t) (pL (gM t) 0) k (gK t a)) j 2) (fI (gV t) (pL (gM t) 0) k (gV t a)))) rfl ?_
              refine gg_aload_n X dX3_make_84 rfl 1 rfl ?_
              refine gg_get X dX3_make_85 imX3 0 rfl rfl 2 (by decide) (am 145 rfl) rfl ?_
              refine gg_iload_n X dX3_make_88 rfl 2 rfl ?_
              refine gg_aload_n X dX3_make_89 rfl 1 rfl ?_
              refine gg_get X dX3_make_90 imX3 0 rfl rfl 4 (by decide) (am 147 rfl) rfl ?_
              refine gg_iast X dX3_make_93 2 1 rfl rfl j rfl (by omega) (by decide) (ws' := dW G (wV (wS (wR t R) (va_up (gS t) (gM t) k)) (upd (fI (gK t) (pL (gM t) 0) k (gK t a)) j 2) (upd (fI (gV t) (pL (gM t) 0) k (gV t a)) j (nI (gM t))))) rfl ?_
              refine gg_aload_n X dX3_make_94 rfl 1 rfl ?_
              refine gg_dup X dX3_make_95 rfl ?_
              refine gg_get X dX3_make_96 imX3 0 rfl rfl 4 (by decide) (am 147 rfl) rfl ?_
              refine gg_iconst X dX3_make_99 (v := 1) (by decide) ?_
              refine gg_iadd X dX3_make_100 (nI_1 _) ?_
              refine gg_put X dX3_make_101 imX3 tyX3 tyX3_ok nmX3 0 rfl rfl 4 (by decide) (am 147 rfl) (ws' := dW G (wM (wV (wS (wR t R) (va_up (gS t) (gM t) k)) (upd (fI (gK t) (pL (gM t) 0) k (gK t a)) j 2) (upd (fI (gV t) (pL (gM t) 0) k (gV t a)) j (nI (gM t)))) (gM t + 1))) (ty := .int) rfl (by decide +kernel) rfl rfl (Nat.le_of_ble_eq_true rfl) (rfl) ?_
              refine gg_iconst X dX3_make_104 (v := 1) (by decide) ?_
              exact gg_iret X dX3_make_105 hr hk (wM (wV (wS (wR t R) (va_up (gS t) (gM t) k)) (upd (fI (gK t) (pL (gM t) 0) k (gK t a)) j 2) (upd (fI (gV t) (pL (gM t) 0) k (gV t a)) j (nI (gM t)))) (gM t + 1)) (Or.inl ⟨j, k, a, R, ⟨hj, rfl, hk2, rfl, ha, rfl⟩, hR, Or.inl ⟨h30, rfl, rfl⟩⟩) rfl (Nat.le_of_ble_eq_true rfl) (Nat.le_of_ble_eq_true rfl)
            · have hq2 : ¬ k ≤ q := fun h => c_44 ((nI_leI (a := k) (b := q) (by omega) (by omega)).mpr h)
              refine gg_aload_n X dX3_make_47 rfl 1 rfl ?_
              refine gg_aload_n X dX3_make_48 rfl 1 rfl ?_
              refine gg_get X dX3_make_49 imX3 0 rfl rfl 4 (by decide) (am 147 rfl) rfl ?_
              refine gg_iload X dX3_make_52 0 rfl ?_
              refine gc_i X (gr_S X dX3_make_54 X.2.2.2.2.2.1 (k_placeOf l D (dT G) (dW G (wV (wR t R) (fI (gK t) (pL (gM t) 0) q (gK t a)) (fI (gV t) (pL (gM t) 0) q (gV t a)))) (gM t) q) (cwS 2 X.2.2.2.2.1 (gdS (al 180 rfl) (al 181 rfl) (al 4 rfl) (al 182 rfl)) rfl rfl rfl (by decide +kernel) ⟨Nat.le_of_ble_eq_true rfl, Nat.le_of_ble_eq_true rfl⟩) rfl rfl (Nat.le_of_ble_eq_true rfl) ⟨Nat.le_of_ble_eq_true rfl, Nat.le_of_ble_eq_true rfl⟩) (fun r_54 w_54 h_54 => ?_)
              rw [h_54]
              refine gg_iload_n X dX3_make_57 rfl 4 rfl ?_
              refine gc_v X (gr_V (q0 := 0) X dX3_make_58 X.2.2.2.2.2.1 (k_move l D G (wV (wR t R) (fI (gK t) (pL (gM t) 0) q (gK t a)) (fI (gV t) (pL (gM t) 0) q (gV t a))) (pL (gM t) q) a (by unfold pL; omega) (by omega) (by show vp_nar .byte (fI (gK t) (pL (gM t) 0) q (gK t a) a) = fI (gK t) (pL (gM t) 0) q (gK t a) a; rw [fI_out (by have := pL_ge (gM t) 0; omega)]; exact nar_k hk0 (Or.inl (by omega)))) (cwV 2 X.2.2.2.2.1 (gdV (al 183 rfl) (al 184 rfl) (al 248 rfl) (al 4 rfl) (al 185 rfl)) rfl rfl rfl (by decide +kernel) ⟨Nat.le_of_ble_eq_true rfl, Nat.le_of_ble_eq_true rfl⟩) rfl rfl rfl rfl rfl (Nat.le_of_ble_eq_true rfl) ⟨Nat.le_of_ble_eq_true rfl, Nat.le_of_ble_eq_true rfl⟩) (fun w_58 h_58 => ?_)
              rw [h_58]
              refine gg_iinc X dX3_make_61 0 rfl (nI_1 _) (by decide) rfl ?_
              refine gg_goto (tgt := 41) X dX3_make_64 (by decide) ?_
              refine gg_ws (ws' := dW G (wV (wR t R) (fI (gK t) (pL (gM t) 0) (q + 1) (gK t a)) (fI (gV t) (pL (gM t) 0) (q + 1) (gV t a)))) (by rw [← fI_s, ← fI_s]; exact congrArg (dW G) (fI_mv (by omega))) ?_
              exact ih (q + 1) (by omega) (by omega)
          · rcases h_30 with ⟨-, h30, -⟩ | ⟨h30, -, ew2⟩
            · rw [h30] at c_33; exact absurd c_33 (by decide)
            rw [ew2]
            refine gg_iconst X dX3_make_36 (v := 0) (by decide) ?_
            exact gg_iret X dX3_make_37 hr hk (wF (wR t R) (gF t + 1)) (Or.inl ⟨j, k, a, R, ⟨hj, rfl, hk2, rfl, ha, rfl⟩, hR, Or.inr ⟨h30, rfl, rfl⟩⟩) rfl (Nat.le_of_ble_eq_true rfl) (Nat.le_of_ble_eq_true rfl)
        · refine gg_iconst X dX3_make_24 (v := (-1)) (by decide) ?_
          exact gg_iret X dX3_make_25 hr hk t (Or.inr ⟨fun ⟨j', k', a', g1, g2, g3, g4, g5, g6⟩ => c_21 (by rw [g4]; exact nI_le g3 (by omega)), rfl, rfl⟩) rfl (Nat.le_of_ble_eq_true rfl) (Nat.le_of_ble_eq_true rfl)
set_option maxHeartbeats 4000000 in
set_option maxRecDepth 100000 in
theorem k_lookd (l : Launch) (D : va_G) (G : DF) (t : DS) (hk0 : dOk t) (r : Int32) : mG l yX3_look wX3_look ({ frames := 1, cells := 0, slots := 0, locals := 20 }) D vwCl (dT G) [.ref (dH G), .int r] (dW G t) (qI D vwCl (fun (x : Int32) (w : DS) => dpLook t r x w) (dW G)) := by
  refine gg_met (cc := cX3_look) (nL := 2) (ret := (some .int)) (lv := [(0, .ref (dH G)), (1, .int r)]) (by decide) rfl rfl (Nat.le_of_ble_eq_true rfl) ?_
  intro p_ e_ s_ m_ bl_ me_ cc_ A_ X hr hk hnm
  have hm := hk0.2.1
  refine gg_iload_n X dX3_look_0 rfl 1 rfl ?_
  refine gc_i X (gr_S X dX3_look_1 X.2.2.2.2.2.1 (k_isRd l D (dT G) (dW G t) r) (cwS 1 X.2.2.2.2.1 (gdS (al 165 rfl) (al 166 rfl) (al 4 rfl) (al 167 rfl)) rfl rfl rfl (by decide +kernel) ⟨Nat.le_of_ble_eq_true rfl, Nat.le_of_ble_eq_true rfl⟩) rfl rfl (Nat.le_of_ble_eq_true rfl) ⟨Nat.le_of_ble_eq_true rfl, Nat.le_of_ble_eq_true rfl⟩) (fun r_1 w_1 h_1 => ?_)
  refine gg_if_ne (tgt := 11) X dX3_look_4 (by decide) (fun c_4 => ?_) (fun c_4 => ?_)
  · obtain ⟨j, hj, rfl⟩ := b01' h_1 c_4
    refine gg_aload_n X dX3_look_11 rfl 0 rfl ?_
    refine gg_get X dX3_look_12 imX3 0 rfl rfl 1 (by decide) (am 144 rfl) rfl ?_
    refine gg_iload_n X dX3_look_15 rfl 1 rfl ?_
    refine gg_bald X dX3_look_16 1 0 rfl rfl j rfl (by omega) (by decide) ?_
    refine gg_if_ne (tgt := 25) X dX3_look_17 (by decide) (fun c_17 => ?_) (fun c_17 => ?_)
    · refine gg_aload_n X dX3_look_25 rfl 0 rfl ?_
      refine gg_get X dX3_look_26 imX3 0 rfl rfl 1 (by decide) (am 144 rfl) rfl ?_
      refine gg_iload_n X dX3_look_29 rfl 1 rfl ?_
      refine gg_bald X dX3_look_30 1 0 rfl rfl j rfl (by omega) (by decide) ?_
      refine gg_iconst X dX3_look_31 (v := 1) (by decide) ?_
      refine gg_icmp_ne (tgt := 40) X dX3_look_32 (by decide) (fun c_32 => ?_) (fun c_32 => ?_)
      · obtain ⟨h2, o, ho, hv⟩ : gK t j = 2 ∧ ∃ o, o < gM t ∧ gV t j = nI o := by
          rcases hk0.2.2.2 j (Or.inl (by omega)) with ⟨h, -⟩ | h | h
          · exact absurd h c_17
          · exact absurd h c_32
          · exact h
        refine gg_aload_n X dX3_look_40 rfl 0 rfl ?_
        refine gg_get X dX3_look_41 imX3 0 rfl rfl 5 (by decide) (am 148 rfl) rfl ?_
        refine gg_aload_n X dX3_look_44 rfl 0 rfl ?_
        refine gg_get X dX3_look_45 imX3 0 rfl rfl 2 (by decide) (am 145 rfl) rfl ?_
        refine gg_iload_n X dX3_look_48 rfl 1 rfl ?_
        refine gg_iald X dX3_look_49 2 1 rfl rfl j rfl (by omega) (by decide) ?_
        rw [hv]
        refine gg_iald X dX3_look_50 3 1 rfl rfl o rfl (by omega) (by decide) ?_
        exact gg_iret X dX3_look_51 hr hk t (⟨rfl, Or.inr ⟨j, hj, rfl, Or.inr (Or.inr ⟨o, h2, ho, hv, rfl⟩)⟩⟩) rfl (Nat.le_of_ble_eq_true rfl) (Nat.le_of_ble_eq_true rfl)
      · refine gg_bipush X dX3_look_35 (v := -3) (by decide) ?_
        refine gg_goto (tgt := 51) X dX3_look_37 (by decide) ?_
        exact gg_iret X dX3_look_51 hr hk t (⟨rfl, Or.inr ⟨j, hj, rfl, Or.inr (Or.inl ⟨c_32, rfl⟩)⟩⟩) rfl (Nat.le_of_ble_eq_true rfl) (Nat.le_of_ble_eq_true rfl)
    · refine gg_bipush X dX3_look_20 (v := -2) (by decide) ?_
      refine gg_goto (tgt := 51) X dX3_look_22 (by decide) ?_
      exact gg_iret X dX3_look_51 hr hk t (⟨rfl, Or.inr ⟨j, hj, rfl, Or.inl ⟨c_17, rfl⟩⟩⟩) rfl (Nat.le_of_ble_eq_true rfl) (Nat.le_of_ble_eq_true rfl)
  · refine gg_iconst X dX3_look_7 (v := (-1)) (by decide) ?_
    refine gg_goto (tgt := 51) X dX3_look_8 (by decide) ?_
    exact gg_iret X dX3_look_51 hr hk t (⟨rfl, Or.inl ⟨b01 h_1 c_4, rfl⟩⟩) rfl (Nat.le_of_ble_eq_true rfl) (Nat.le_of_ble_eq_true rfl)
set_option maxHeartbeats 4000000 in
set_option maxRecDepth 100000 in
theorem k_numberInd (l : Launch) (D : va_G) (G : DF) (t : DS) (r : Int32) : mG l yX3_numberIn wX3_numberIn ({ frames := 1, cells := 0, slots := 0, locals := 20 }) D vwCl (dT G) [.ref (dH G), .int r] (dW G t) (qI D vwCl (fun (x : Int32) (w : DS) => dpNumIn t r x w) (dW G)) := by
  refine gg_met (cc := cX3_numberIn) (nL := 2) (ret := (some .int)) (lv := [(0, .ref (dH G)), (1, .int r)]) (by decide) rfl rfl (Nat.le_of_ble_eq_true rfl) ?_
  intro p_ e_ s_ m_ bl_ me_ cc_ A_ X hr hk hnm
  refine gg_iload_n X dX3_numberIn_0 rfl 1 rfl ?_
  refine gc_i X (gr_S X dX3_numberIn_1 X.2.2.2.2.2.1 (k_isRd l D (dT G) (dW G t) r) (cwS 1 X.2.2.2.2.1 (gdS (al 165 rfl) (al 166 rfl) (al 4 rfl) (al 167 rfl)) rfl rfl rfl (by decide +kernel) ⟨Nat.le_of_ble_eq_true rfl, Nat.le_of_ble_eq_true rfl⟩) rfl rfl (Nat.le_of_ble_eq_true rfl) ⟨Nat.le_of_ble_eq_true rfl, Nat.le_of_ble_eq_true rfl⟩) (fun r_1 w_1 h_1 => ?_)
  refine gg_if_eq (tgt := 26) X dX3_numberIn_4 (by decide) (fun c_4 => ?_) (fun c_4 => ?_)
  · refine gg_iconst X dX3_numberIn_26 (v := 0) (by decide) ?_
    exact gg_iret X dX3_numberIn_27 hr hk t (⟨rfl, Or.inr ⟨fun ⟨k, h1, h2, _⟩ => b01 h_1 c_4 ⟨k, h1, h2⟩, rfl⟩⟩) rfl (Nat.le_of_ble_eq_true rfl) (Nat.le_of_ble_eq_true rfl)
  · obtain ⟨j, hj, rfl⟩ := b01' h_1 c_4
    refine gg_aload_n X dX3_numberIn_7 rfl 0 rfl ?_
    refine gg_get X dX3_numberIn_8 imX3 0 rfl rfl 1 (by decide) (am 144 rfl) rfl ?_
    refine gg_iload_n X dX3_numberIn_11 rfl 1 rfl ?_
    refine gg_bald X dX3_numberIn_12 1 0 rfl rfl j rfl (by omega) (by decide) ?_
    refine gg_iconst X dX3_numberIn_13 (v := 1) (by decide) ?_
    refine gg_icmp_ne (tgt := 26) X dX3_numberIn_14 (by decide) (fun c_14 => ?_) (fun c_14 => ?_)
    · refine gg_iconst X dX3_numberIn_26 (v := 0) (by decide) ?_
      exact gg_iret X dX3_numberIn_27 hr hk t (⟨rfl, Or.inr ⟨fun ⟨k, h1, h2, h3⟩ => by
          have e := r_inj (by omega) (by omega) h2
          subst e
          exact c_14 h3, rfl⟩⟩) rfl (Nat.le_of_ble_eq_true rfl) (Nat.le_of_ble_eq_true rfl)
    · refine gg_aload_n X dX3_numberIn_17 rfl 0 rfl ?_
      refine gg_get X dX3_numberIn_18 imX3 0 rfl rfl 2 (by decide) (am 145 rfl) rfl ?_
      refine gg_iload_n X dX3_numberIn_21 rfl 1 rfl ?_
      refine gg_iald X dX3_numberIn_22 2 1 rfl rfl j rfl (by omega) (by decide) ?_
      refine gg_goto (tgt := 27) X dX3_numberIn_23 (by decide) ?_
      exact gg_iret X dX3_numberIn_27 hr hk t (⟨rfl, Or.inl ⟨j, hj, rfl, c_14, rfl⟩⟩) rfl (Nat.le_of_ble_eq_true rfl) (Nat.le_of_ble_eq_true rfl)
set_option maxHeartbeats 4000000 in
set_option maxRecDepth 100000 in
theorem k_samed (l : Launch) (D : va_G) (G : DF) (t : DS) (r s : Int32) : mG l yX3_same wX3_same ({ frames := 1, cells := 0, slots := 0, locals := 20 }) D vwCl (dT G) [.ref (dH G), .int r, .int s] (dW G t) (qI D vwCl (fun (x : Int32) (w : DS) => dpSame t r s x w) (dW G)) := by
  refine gg_met (cc := cX3_same) (nL := 3) (ret := (some .int)) (lv := [(0, .ref (dH G)), (1, .int r), (2, .int s)]) (by decide) rfl rfl (Nat.le_of_ble_eq_true rfl) ?_
  intro p_ e_ s_ m_ bl_ me_ cc_ A_ X hr hk hnm
  refine gg_iload_n X dX3_same_0 rfl 1 rfl ?_
  refine gc_i X (gr_S X dX3_same_1 X.2.2.2.2.2.1 (k_isRd l D (dT G) (dW G t) r) (cwS 1 X.2.2.2.2.1 (gdS (al 165 rfl) (al 166 rfl) (al 4 rfl) (al 167 rfl)) rfl rfl rfl (by decide +kernel) ⟨Nat.le_of_ble_eq_true rfl, Nat.le_of_ble_eq_true rfl⟩) rfl rfl (Nat.le_of_ble_eq_true rfl) ⟨Nat.le_of_ble_eq_true rfl, Nat.le_of_ble_eq_true rfl⟩) (fun r_1 w_1 h_1 => ?_)
  refine gg_if_eq (tgt := 14) X dX3_same_4 (by decide) (fun c_4 => ?_) (fun c_4 => ?_)
  · refine gg_iconst X dX3_same_14 (v := (-1)) (by decide) ?_
    refine gg_goto (tgt := 53) X dX3_same_15 (by decide) ?_
    exact gg_iret X dX3_same_53 hr hk t (⟨rfl, Or.inr ⟨fun h => b01 h_1 c_4 h.1, rfl⟩⟩) rfl (Nat.le_of_ble_eq_true rfl) (Nat.le_of_ble_eq_true rfl)
  · obtain ⟨j, hj, rfl⟩ := b01' h_1 c_4
    refine gg_iload_n X dX3_same_7 rfl 2 rfl ?_
    refine gc_i X (gr_S X dX3_same_8 X.2.2.2.2.2.1 (k_isRd l D (dT G) (dW G t) s) (cwS 1 X.2.2.2.2.1 (gdS (al 165 rfl) (al 166 rfl) (al 4 rfl) (al 167 rfl)) rfl rfl rfl (by decide +kernel) ⟨Nat.le_of_ble_eq_true rfl, Nat.le_of_ble_eq_true rfl⟩) rfl rfl (Nat.le_of_ble_eq_true rfl) ⟨Nat.le_of_ble_eq_true rfl, Nat.le_of_ble_eq_true rfl⟩) (fun r_8 w_8 h_8 => ?_)
    refine gg_if_ne (tgt := 18) X dX3_same_11 (by decide) (fun c_11 => ?_) (fun c_11 => ?_)
    · obtain ⟨k, hk2, rfl⟩ := b01' h_8 c_11
      refine gg_aload_n X dX3_same_18 rfl 0 rfl ?_
      refine gg_get X dX3_same_19 imX3 0 rfl rfl 1 (by decide) (am 144 rfl) rfl ?_
      refine gg_iload_n X dX3_same_22 rfl 1 rfl ?_
      refine gg_bald X dX3_same_23 1 0 rfl rfl j rfl (by omega) (by decide) ?_
      refine gg_aload_n X dX3_same_24 rfl 0 rfl ?_
      refine gg_get X dX3_same_25 imX3 0 rfl rfl 1 (by decide) (am 144 rfl) rfl ?_
      refine gg_iload_n X dX3_same_28 rfl 2 rfl ?_
      refine gg_bald X dX3_same_29 1 0 rfl rfl k rfl (by omega) (by decide) ?_
      refine gg_icmp_ne (tgt := 52) X dX3_same_30 (by decide) (fun c_30 => ?_) (fun c_30 => ?_)
      · refine gg_iconst X dX3_same_52 (v := 0) (by decide) ?_
        exact gg_iret X dX3_same_53 hr hk t (⟨rfl, Or.inl ⟨j, k, hj, rfl, hk2, rfl, Or.inr ⟨fun h => c_30 h.1, rfl⟩⟩⟩) rfl (Nat.le_of_ble_eq_true rfl) (Nat.le_of_ble_eq_true rfl)
      · refine gg_aload_n X dX3_same_33 rfl 0 rfl ?_
        refine gg_get X dX3_same_34 imX3 0 rfl rfl 2 (by decide) (am 145 rfl) rfl ?_
        refine gg_iload_n X dX3_same_37 rfl 1 rfl ?_
        refine gg_iald X dX3_same_38 2 1 rfl rfl j rfl (by omega) (by decide) ?_
        refine gg_aload_n X dX3_same_39 rfl 0 rfl ?_
        refine gg_get X dX3_same_40 imX3 0 rfl rfl 2 (by decide) (am 145 rfl) rfl ?_
        refine gg_iload_n X dX3_same_43 rfl 2 rfl ?_
        refine gg_iald X dX3_same_44 2 1 rfl rfl k rfl (by omega) (by decide) ?_
        refine gg_icmp_ne (tgt := 52) X dX3_same_45 (by decide) (fun c_45 => ?_) (fun c_45 => ?_)
        · refine gg_iconst X dX3_same_52 (v := 0) (by decide) ?_
          exact gg_iret X dX3_same_53 hr hk t (⟨rfl, Or.inl ⟨j, k, hj, rfl, hk2, rfl, Or.inr ⟨fun h => c_45 h.2, rfl⟩⟩⟩) rfl (Nat.le_of_ble_eq_true rfl) (Nat.le_of_ble_eq_true rfl)
        · refine gg_iconst X dX3_same_48 (v := 1) (by decide) ?_
          refine gg_goto (tgt := 53) X dX3_same_49 (by decide) ?_
          exact gg_iret X dX3_same_53 hr hk t (⟨rfl, Or.inl ⟨j, k, hj, rfl, hk2, rfl, Or.inl ⟨c_30, c_45, rfl⟩⟩⟩) rfl (Nat.le_of_ble_eq_true rfl) (Nat.le_of_ble_eq_true rfl)
    · refine gg_iconst X dX3_same_14 (v := (-1)) (by decide) ?_
      refine gg_goto (tgt := 53) X dX3_same_15 (by decide) ?_
      exact gg_iret X dX3_same_53 hr hk t (⟨rfl, Or.inr ⟨fun h => b01 h_8 c_11 h.2, rfl⟩⟩) rfl (Nat.le_of_ble_eq_true rfl) (Nat.le_of_ble_eq_true rfl)
set_option maxHeartbeats 4000000 in
set_option maxRecDepth 100000 in
theorem k_countd (l : Launch) (D : va_G) (G : DF) (t : DS) (hk0 : dOk t) (q : Int32) : mG l yX3_count wX3_count ({ frames := 3, cells := 0, slots := 0, locals := 66 }) D vwCl (dT G) [.ref (dH G), .int q] (dW G t) (qI D vwCl (fun (x : Int32) (w : DS) => dpCount t q x w) (dW G)) := by
  refine gg_met (cc := cX3_count) (nL := 5) (ret := (some .int)) (lv := [(0, .ref (dH G)), (1, .int q)]) (by decide) rfl rfl (Nat.le_of_ble_eq_true rfl) ?_
  intro p_ e_ s_ m_ bl_ me_ cc_ A_ X hr hk hnm
  have hm := hk0.2.1
  refine gg_iconst X dX3_count_0 (v := nI 0) (by decide) ?_
  refine gg_istore_n X dX3_count_1 rfl (by decide) rfl ?_
  refine gg_aload_n X dX3_count_2 rfl 1 rfl ?_
  refine gc_i X (gr_V (q0 := 0) X dX3_count_3 X.2.2.2.2.2.1 (k_reachable l D G t hk0) (cwV 0 X.2.2.2.2.1 (gdV (al 171 rfl) (al 172 rfl) (al 245 rfl) (al 4 rfl) (al 173 rfl)) rfl rfl rfl (by decide +kernel) ⟨Nat.le_of_ble_eq_true rfl, Nat.le_of_ble_eq_true rfl⟩) rfl rfl rfl rfl rfl (Nat.le_of_ble_eq_true rfl) ⟨Nat.le_of_ble_eq_true rfl, Nat.le_of_ble_eq_true rfl⟩) (fun r_3 w_3 h_3 => ?_)
  obtain ⟨R, hR, ew, er⟩ := h_3
  rw [ew, er]
  refine gg_istore_n X dX3_count_6 rfl (by decide) rfl ?_
  refine gg_iconst X dX3_count_7 (v := nI 0) (by decide) ?_
  refine gg_istore X dX3_count_8 (by decide) rfl ?_
  refine gg_lv [0, 2, 1, 3, 4] rfl ?_
  refine gg_loop (ι := Nat) (fun a => a ≤ gM t) (fun a => gM t - a) (fun _ => dW G (wR t R)) (fun a => [(4, .int (nI a)), (2, .int (nI (sm R (fun _ => 1) a))), (3, .int (nI (sm R (fun o => 2 + gS t o) (gM t)))), (0, .ref (dH G)), (1, .int q)]) ?_ 0 (Nat.zero_le _)
  intro k hk9 ih
  refine gg_iload X dX3_count_10 0 rfl ?_
  refine gg_aload_n X dX3_count_12 rfl 3 rfl ?_
  refine gg_get X dX3_count_13 imX3 0 rfl rfl 4 (by decide) (am 147 rfl) rfl ?_
  refine gg_icmp_ge (tgt := 43) X dX3_count_16 (by decide) (fun c_16 => ?_) (fun c_16 => ?_)
  · have hkm : k = gM t := by have := (nI_leI (a := gM t) (b := k) (by omega) (by omega)).mp c_16; omega
    refine gg_iload_n X dX3_count_43 rfl 4 rfl ?_
    refine gg_if_ne (tgt := 51) X dX3_count_44 (by decide) (fun c_44 => ?_) (fun c_44 => ?_)
    · refine gg_iload_n X dX3_count_51 rfl 4 rfl ?_
      refine gg_iconst X dX3_count_52 (v := 1) (by decide) ?_
      refine gg_icmp_ne (tgt := 60) X dX3_count_53 (by decide) (fun c_53 => ?_) (fun c_53 => ?_)
      · refine gg_iload_n X dX3_count_60 rfl 4 rfl ?_
        refine gg_iconst X dX3_count_61 (v := 2) (by decide) ?_
        refine gg_icmp_ne (tgt := 72) X dX3_count_62 (by decide) (fun c_62 => ?_) (fun c_62 => ?_)
        · refine gg_iload_n X dX3_count_72 rfl 4 rfl ?_
          refine gg_iconst X dX3_count_73 (v := 3) (by decide) ?_
          refine gg_icmp_ne (tgt := 84) X dX3_count_74 (by decide) (fun c_74 => ?_) (fun c_74 => ?_)
          · refine gg_iload_n X dX3_count_84 rfl 4 rfl ?_
            refine gg_iconst X dX3_count_85 (v := 4) (by decide) ?_
            refine gg_icmp_ne (tgt := 96) X dX3_count_86 (by decide) (fun c_86 => ?_) (fun c_86 => ?_)
            · refine gg_iconst X dX3_count_96 (v := (-1)) (by decide) ?_
              exact gg_iret X dX3_count_97 hr hk (wR t R) (⟨R, hR, rfl, Or.inr (Or.inr (Or.inr (Or.inr (Or.inr ⟨c_44, c_53, c_62, c_74, c_86, rfl⟩))))⟩) rfl (Nat.le_of_ble_eq_true rfl) (Nat.le_of_ble_eq_true rfl)
            · refine gg_aload_n X dX3_count_89 rfl 3 rfl ?_
              refine gg_get X dX3_count_90 imX3 0 rfl rfl 7 (by decide) (am 150 rfl) rfl ?_
              refine gg_goto (tgt := 97) X dX3_count_93 (by decide) ?_
              exact gg_iret X dX3_count_97 hr hk (wR t R) (⟨R, hR, rfl, Or.inr (Or.inr (Or.inr (Or.inr (Or.inl ⟨c_86, rfl⟩))))⟩) rfl (Nat.le_of_ble_eq_true rfl) (Nat.le_of_ble_eq_true rfl)
          · refine gg_aload_n X dX3_count_77 rfl 3 rfl ?_
            refine gg_get X dX3_count_78 imX3 0 rfl rfl 4 (by decide) (am 147 rfl) rfl ?_
            refine gg_goto (tgt := 97) X dX3_count_81 (by decide) ?_
            exact gg_iret X dX3_count_97 hr hk (wR t R) (⟨R, hR, rfl, Or.inr (Or.inr (Or.inr (Or.inl ⟨c_74, rfl⟩)))⟩) rfl (Nat.le_of_ble_eq_true rfl) (Nat.le_of_ble_eq_true rfl)
        · refine gg_aload_n X dX3_count_65 rfl 3 rfl ?_
          refine gg_get X dX3_count_66 imX3 0 rfl rfl 3 (by decide) (am 146 rfl) rfl ?_
          refine gg_goto (tgt := 97) X dX3_count_69 (by decide) ?_
          exact gg_iret X dX3_count_97 hr hk (wR t R) (⟨R, hR, rfl, Or.inr (Or.inr (Or.inl ⟨c_62, rfl⟩))⟩) rfl (Nat.le_of_ble_eq_true rfl) (Nat.le_of_ble_eq_true rfl)
      · refine gg_iload_n X dX3_count_56 rfl 1 rfl ?_
        refine gg_goto (tgt := 97) X dX3_count_57 (by decide) ?_
        exact gg_iret X dX3_count_97 hr hk (wR t R) (⟨R, hR, rfl, Or.inr (Or.inl ⟨c_53, by rw [hkm]⟩)⟩) rfl (Nat.le_of_ble_eq_true rfl) (Nat.le_of_ble_eq_true rfl)
    · refine gg_iload_n X dX3_count_47 rfl 2 rfl ?_
      refine gg_goto (tgt := 97) X dX3_count_48 (by decide) ?_
      exact gg_iret X dX3_count_97 hr hk (wR t R) (⟨R, hR, rfl, Or.inl ⟨c_44, rfl⟩⟩) rfl (Nat.le_of_ble_eq_true rfl) (Nat.le_of_ble_eq_true rfl)
  · have hk8 : ¬ gM t ≤ k := fun h => c_16 ((nI_leI (a := gM t) (b := k) (by omega) (by omega)).mpr h)
    refine gg_aload_n X dX3_count_19 rfl 3 rfl ?_
    refine gg_get X dX3_count_20 imX3 0 rfl rfl 6 (by decide) (am 149 rfl) rfl ?_
    refine gg_iload X dX3_count_23 0 rfl ?_
    refine gg_zald X dX3_count_25 4 2 rfl rfl k rfl (by omega) (by decide) ?_
    refine gg_if_eq (tgt := 35) X dX3_count_26 (by decide) (fun c_26 => ?_) (fun c_26 => ?_)
    · have hrk : R k = false := bI_0 c_26
      refine gg_iload_n X dX3_count_35 rfl 1 rfl ?_
      refine gg_istore_n X dX3_count_36 rfl (by decide) rfl ?_
      refine gg_iinc X dX3_count_37 1 rfl (nI_1 _) (by decide) rfl ?_
      refine gg_goto (tgt := 10) X dX3_count_40 (by decide) ?_
      refine gg_lve (lv' := [(4, .int (nI (k + 1))), (2, .int (nI (sm R (fun _ => 1) (k + 1)))), (3, .int (nI (sm R (fun o => 2 + gS t o) (gM t)))), (0, .ref (dH G)), (1, .int q)]) (by simp only [sm]; (first | rw [if_pos hrk] | rw [if_neg (by rw [hrk]; decide)]); rfl) ?_
      exact ih (k + 1) (by omega) (by omega)
    · have hrk : R k = true := bI_1 c_26
      refine gg_iload_n X dX3_count_29 rfl 1 rfl ?_
      refine gg_iconst X dX3_count_30 (v := 1) (by decide) ?_
      refine gg_iadd X dX3_count_31 (nI_1 _) ?_
      refine gg_goto (tgt := 36) X dX3_count_32 (by decide) ?_
      refine gg_istore_n X dX3_count_36 rfl (by decide) rfl ?_
      refine gg_iinc X dX3_count_37 1 rfl (nI_1 _) (by decide) rfl ?_
      refine gg_goto (tgt := 10) X dX3_count_40 (by decide) ?_
      refine gg_lve (lv' := [(4, .int (nI (k + 1))), (2, .int (nI (sm R (fun _ => 1) (k + 1)))), (3, .int (nI (sm R (fun o => 2 + gS t o) (gM t)))), (0, .ref (dH G)), (1, .int q)]) (by simp only [sm]; (first | rw [if_pos hrk] | rw [if_neg (by rw [hrk]; decide)]); rfl) ?_
      exact ih (k + 1) (by omega) (by omega)
end
section
/-! a new heap, a new reference -/
def capC (c : Int32) : Nat := if 20 ≤ c.toInt ∧ c.toInt ≤ 3000 then c.toInt.toNat else 300
theorem capC_ok (c : Int32) : 20 ≤ capC c ∧ capC c ≤ 3000 := by
  unfold capC
  by_cases h : 20 ≤ c.toInt ∧ c.toInt ≤ 3000
  · rw [if_pos h]; omega
  · rw [if_neg h]; omega
theorem nI_int {n : Nat} (h : n < 2147483648) : (nI n).toInt = n := nI_toInt (by omega)
theorem capC_lo {c : Int32} (h : c < nI 20) : capC c = 300 := by
  unfold capC
  rw [Int32.lt_iff_toInt_lt, nI_int (by omega)] at h
  rw [if_neg (by omega)]
theorem capC_hi {c : Int32} (h : nI 3000 < c) : capC c = 300 := by
  unfold capC
  rw [Int32.lt_iff_toInt_lt, nI_int (by omega)] at h
  rw [if_neg (by omega)]
theorem capC_in {c : Int32} (h1 : ¬ c < nI 20) (h2 : ¬ nI 3000 < c) : ∃ z : Nat, c = nI z ∧ z = capC c := by
  rw [Int32.lt_iff_toInt_lt, nI_int (by omega)] at h1 h2
  refine ⟨c.toInt.toNat, ?_, ?_⟩
  · apply Int32.toInt_inj.mp
    rw [nI_int (by omega)]
    omega
  · unfold capC
    rw [if_pos (by omega)]
theorem rW_zero {th : Nat → Nat} : rW 0 th = fun _ => none := by
  funext i
  exact rW_ge (Nat.not_lt_zero i)
def pNew (F : CF) (u : CS) (h : Nat) (J T : ClassId) (C : Nat) : Prop := kH F = h ∧ kJ F = J ∧ kT F = T ∧ kC F = C ∧ cOk F u ∧ (∀ j, j < 10 → rG u j = nO) ∧ sT u = 0 ∧ mD u = 0 ∧ fU u = 0 ∧ nU u = 0
theorem pNew.of {h r k q a b C : Nat} {J T : ClassId} {g : Nat → Int64} (hC : 20 ≤ C ∧ C ≤ 3000) (hg : ∀ k, k < 10 → g k = 4294967296) : pNew ((((h, r), k), (q, a)), (((b, J), T), (C / 2, C))) ((((g, fun _ => 0), (0, 0)), ((0, 0), fun _ => 0)), (((fun _ => 0, fun _ => 0), (fun _ => false, fun _ _ => 0)), ((0, 0), fun _ => none))) h J T C := by
  refine ⟨rfl, rfl, rfl, rfl, ⟨rfl, hC.1, hC.2, Nat.zero_le _, Nat.zero_le _, fun i hi => absurd hi (Nat.not_lt_zero i)⟩, fun j hj => ?_, rfl, rfl, rfl, rfl⟩
  show g j = nO
  rw [hg j hj]
  exact c64n
def dNew (G : DF) (t : DS) (h : Nat) (B I Z : ClassId) (C : Nat) : Prop := dH G = h ∧ dB G = B ∧ dI G = I ∧ dZ G = Z ∧ dC G = C ∧ (∀ p, gK t p = 0 ∧ gV t p = 0) ∧ gT t = 0 ∧ gM t = 0 ∧ gF t = 0
theorem dNew.of {h k v z r C : Nat} {B I Z : ClassId} : dNew ((((h, k), v), (z, r)), ((B, I), (Z, C))) (((fun _ => 0, fun _ => 0), (0, 0)), ((0, fun _ => 0), fun _ => false)) h B I Z C :=
  ⟨rfl, rfl, rfl, rfl, rfl, fun _ => ⟨rfl, rfl⟩, rfl, rfl, rfl⟩
theorem Iv.start {F : CF} {u : CS} {G : DF} {t : DS} {h g C : Nat} {J T B I Z : ClassId} (hc : pNew F u h J T C) (hd : dNew G t g B I Z C) : Iv F u t := by
  obtain ⟨-, -, -, -, c1, c2, c3, c4, c5, c6⟩ := hc
  obtain ⟨-, -, -, -, -, d1, d2, d3, d4⟩ := hd
  have none : ∀ o, ¬ dRe t o := fun o ho => by
    have := ho.lt
    omega
  refine ⟨fun _ => 0, ⟨by rw [c3, d2], by rw [c4, d3], by rw [c5, d4], fun r hr => ?_, fun j hj => by omega, fun o ho => absurd ho (none o), fun a b ha => absurd ha (none a)⟩, c1, by omega, by omega, fun o ho => by omega, fun p _ => Or.inl (d1 p)⟩
  rw [c2 r hr, (d1 r).1, eV_0]
theorem gm_num {t w : DS} {r v y : Int32} (h : dpNum t r v y w) : gM w ≤ gM t + 1 := by
  rcases h with ⟨j, -, -, -, rfl⟩ | ⟨-, -, rfl⟩ <;> exact Nat.le_succ _
theorem gm_copy {t w : DS} {r s y : Int32} (h : dpCopy t r s y w) : gM w ≤ gM t + 1 := by
  rcases h with ⟨j, -, -, -, ⟨-, rfl⟩ | ⟨-, k, -, -, rfl⟩⟩ | ⟨-, -, rfl⟩ <;> exact Nat.le_succ _
theorem gm_get {t w : DS} {r s k y : Int32} (h : dpGet t r s k y w) : gM w ≤ gM t + 1 := by
  rcases h with ⟨j, a, o, q, -, -, rfl⟩ | ⟨-, -, rfl⟩ <;> exact Nat.le_succ _
theorem gm_set {t w : DS} {r s k y : Int32} (h : dpSet t r s k y w) : gM w ≤ gM t + 1 := by
  rcases h with ⟨j, a, o, q, -, -, rfl⟩ | ⟨-, -, rfl⟩ <;> exact Nat.le_succ _
theorem gm_push {t w : DS} {r y : Int32} (h : dpPush t r y w) : gM w ≤ gM t + 1 := by
  rcases h with ⟨j, -, -, -, -, rfl⟩ | ⟨-, -, rfl⟩ <;> exact Nat.le_succ _
theorem gm_pop {t w : DS} {r y : Int32} (h : dpPop t r y w) : gM w ≤ gM t + 1 := by
  rcases h with ⟨j, n, -, -, -, -, rfl⟩ | ⟨-, -, rfl⟩ <;> exact Nat.le_succ _
theorem gm_look {t w : DS} {r y : Int32} (h : dpLook t r y w) : gM w ≤ gM t + 1 := by rw [h.1]; exact Nat.le_succ _
theorem gm_numIn {t w : DS} {r y : Int32} (h : dpNumIn t r y w) : gM w ≤ gM t + 1 := by rw [h.1]; exact Nat.le_succ _
theorem gm_same {t w : DS} {r s y : Int32} (h : dpSame t r s y w) : gM w ≤ gM t + 1 := by rw [h.1]; exact Nat.le_succ _
theorem gm_count {t w : DS} {q y : Int32} (h : dpCount t q y w) : gM w ≤ gM t + 1 := by
  obtain ⟨R, -, rfl, -⟩ := h
  exact Nat.le_succ _
theorem gm_shr {t w : DS} {r y : Int32} (h : dpShr t r y w) : gM w ≤ gM t + 1 := by
  rcases h with ⟨j, o, n, -, -, rfl⟩ | ⟨-, -, rfl⟩ <;> exact Nat.le_succ _
theorem gm_grow {C : Nat} {t w : DS} {r s y : Int32} (h : dpGrow C t r s y w) : gM w ≤ gM t + 1 := by
  rcases h with ⟨j, o, a, R, -, -, ⟨-, -, rfl⟩ | ⟨-, -, rfl⟩⟩ | ⟨-, -, rfl⟩ <;> exact Nat.le_succ _
theorem gm_make {C : Nat} {t w : DS} {r n s y : Int32} (h : dpMake C t r n s y w) : gM w ≤ gM t + 1 := by
  rcases h with ⟨j, k, a, R, -, -, ⟨-, -, rfl⟩ | ⟨-, -, rfl⟩⟩ | ⟨-, -, rfl⟩
  · exact Nat.le_refl _
  · exact Nat.le_succ _
  · exact Nat.le_succ _
end
section
set_option maxHeartbeats 4000000 in
set_option maxRecDepth 100000 in
theorem k_fillJ (l : Launch) (D : va_G) (J T : ClassId) (a n : Nat) (hn : n < 2147483648) (f : Nat → Int64) (x : Int64) : mG l yJ_fill wJ_fill ({ frames := 0, cells := 0, slots := 0, locals := 0 }) D vwCl [(J, .long), (T, .object "SliceHeap$Thing")] [.ref a, .long x] [(a, .inl (J, n, .inr (.inl f)))] (qV D vwCl (fun (g : Nat → Int64) => ∀ k, k < n → g k = x) (fun g => [(a, .inl (J, n, .inr (.inl g)))])) := by
  refine gg_met (cc := cJ_fill) (nL := 5) (ret := none) (lv := [(0, .ref a), (1, .long x)]) (by decide) rfl rfl (Nat.le_of_ble_eq_true rfl) ?_
  intro p_ e_ s_ m_ bl_ me_ cc_ A_ X hr hk hnm
  refine gg_iconst X dJ_fill_0 (v := nI 0) (by decide) ?_
  refine gg_istore_n X dJ_fill_1 rfl (by decide) rfl ?_
  refine gg_aload_n X dJ_fill_2 rfl 1 rfl ?_
  refine gg_alen X dJ_fill_3 0 0 rfl rfl (v := nI n) rfl ?_
  refine gg_istore X dJ_fill_4 (by decide) rfl ?_
  refine gg_lv [1, 0, 2, 3] rfl ?_
  refine gg_loop (ι := Nat × (Nat → Int64)) (fun b => b.1 ≤ n ∧ ∀ k, k < b.1 → b.2 k = x) (fun b => n - b.1) (fun b => [(a, .inl (J, n, .inr (.inl b.2)))]) (fun b => [(3, .int (nI b.1)), (4, .int (nI n)), (0, .ref a), (1, .long x)]) ?_ (0, f) ⟨Nat.zero_le _, fun k hk => absurd hk (Nat.not_lt_zero k)⟩
  intro b hb ih
  obtain ⟨q, g⟩ := b
  obtain ⟨h1, h2⟩ := hb
  have h1 : q ≤ n := h1
  have h2 : ∀ k, k < q → g k = x := h2
  refine gg_iload_n X dJ_fill_6 rfl 0 rfl ?_
  refine gg_iload X dJ_fill_7 1 rfl ?_
  refine gg_icmp_ge (tgt := 22) X dJ_fill_9 (by decide) (fun c_9 => ?_) (fun c_9 => ?_)
  · have hq2 : n ≤ q := (nI_leI (a := n) (b := q) (by omega) (by omega)).mp c_9
    exact gg_vret X dJ_fill_22 hr hk g (fun k hk => h2 k (by omega)) rfl (Nat.le_of_ble_eq_true rfl) (Nat.le_of_ble_eq_true rfl)
  · have hq2 : ¬ n ≤ q := fun h => c_9 ((nI_leI (a := n) (b := q) (by omega) (by omega)).mpr h)
    refine gg_aload_n X dJ_fill_12 rfl 2 rfl ?_
    refine gg_iload_n X dJ_fill_13 rfl 0 rfl ?_
    refine gg_lload_n X dJ_fill_14 rfl 3 rfl ?_
    refine gg_last X dJ_fill_15 0 0 rfl rfl q rfl (by omega) hn (ws' := [(a, .inl (J, n, .inr (.inl (vp_updL g q x))))]) rfl ?_
    refine gg_iinc X dJ_fill_16 0 rfl (nI_1 _) (by decide) rfl ?_
    refine gg_goto (tgt := 6) X dJ_fill_19 (by decide) ?_
    exact ih (q + 1, vp_updL g q x) ⟨by show q + 1 ≤ n; omega, fun k hk => by
      show vp_updL g q x k = x
      have hk : k < q + 1 := hk
      by_cases e : k = q
      · rw [e, pk_uLs]
      · rw [pk_uLn e]; exact h2 k (by omega)⟩ (by show n - (q + 1) < n - q; omega)
set_option maxHeartbeats 4000000 in
set_option maxRecDepth 100000 in
theorem k_memInit (l : Launch) (D : va_G) (J T : ClassId) (q N : Nat) (hN : N ≤ 1500) : mG l yX0_init wX0_init ({ frames := 1, cells := 2, slots := 3000, locals := 30 }) D vwCl [(J, .long), (T, .object "SliceHeap$Thing")] [.ref q, .int (nI N)] [(q, .inr (0, [.null, .null, .int 0, .int 0]))] (qV D vwCl (fun (_ : Nat × Nat) => True) (fun w => [(q, .inr (0, [.ref w.1, .ref w.2, .int 0, .int 0])), (w.1, .inl (T, N, .inr (.inr (.inr (.inr (fun _ => none)))))), (w.2, .inl (T, N, .inr (.inr (.inr (.inr (fun _ => none))))))])) := by
  refine gg_met (cc := cX0_init) (nL := 2) (ret := none) (lv := [(0, .ref q), (1, .int (nI N))]) (by decide) rfl rfl (Nat.le_of_ble_eq_true rfl) ?_
  intro p_ e_ s_ m_ bl_ me_ cc_ A_ X hr hk hnm
  refine gg_aload_n X dX0_init_0 rfl 0 rfl ?_
  refine gg_objInit X dX0_init_1 (am 22 rfl) (am 12 rfl) (am 13 rfl) (Nat.le_of_ble_eq_true rfl) (Nat.le_of_ble_eq_true rfl) ?_
  refine gg_aload_n X dX0_init_4 rfl 0 rfl ?_
  refine gg_iload_n X dX0_init_5 rfl 1 rfl ?_
  refine gg_newq X dX0_init_6 (am 23 rfl) X.2.2.2.2.2.2.2.2 1 rfl N rfl (by omega) (by omega) (by show _ ≤ 2; omega) (by show _ ≤ 3000; omega) (fun a => ?_)
  refine gg_putF X dX0_init_9 imX0 tyX0 tyX0_ok nmX0 0 rfl rfl 0 (by decide) (am 24 rfl) hnm rfl (ws' := [(q, .inr (0, [.ref a, .null, .int 0, .int 0])), (a, .inl (T, N, .inr (.inr (.inr (.inr (fun _ => none))))))]) (ty := .array (.object "SliceHeap$Thing")) rfl (by decide +kernel) rfl rfl (Nat.le_of_ble_eq_true rfl) (rfl) ?_
  refine gg_aload_n X dX0_init_12 rfl 0 rfl ?_
  refine gg_iload_n X dX0_init_13 rfl 1 rfl ?_
  refine gg_newq X dX0_init_14 (am 23 rfl) X.2.2.2.2.2.2.2.2 1 rfl N rfl (by omega) (by omega) (by show _ ≤ 2; omega) (by show _ ≤ 3000; omega) (fun b => ?_)
  refine gg_putF X dX0_init_17 imX0 tyX0 tyX0_ok nmX0 0 rfl rfl 1 (by decide) (am 25 rfl) hnm rfl (ws' := [(q, .inr (0, [.ref a, .ref b, .int 0, .int 0])), (a, .inl (T, N, .inr (.inr (.inr (.inr (fun _ => none)))))), (b, .inl (T, N, .inr (.inr (.inr (.inr (fun _ => none))))))]) (ty := .array (.object "SliceHeap$Thing")) rfl (by decide +kernel) rfl rfl (Nat.le_of_ble_eq_true rfl) (rfl) ?_
  exact gg_vret X dX0_init_20 hr hk (a, b) trivial rfl (by show _ ≤ 2; omega) (by show _ ≤ 3000; omega)
set_option maxHeartbeats 4000000 in
set_option maxRecDepth 100000 in
theorem k_heapInit (l : Launch) (D : va_G) (J T : ClassId) (h : Nat) (c : Int32) : mG l yX2_init wX2_init ({ frames := 2, cells := 5, slots := 3064, locals := 51 }) D vwCl [(J, .long), (T, .object "SliceHeap$Thing")] [.ref h, .int c] [(h, .inr (2, [.int 0, .null, .null, .null, .int 0, .int 0, .int 0]))] (qV D vwCl (fun (w : CF × CS) => pNew w.1 w.2 h J T (capC c)) (fun w => cW w.1 w.2)) := by
  refine gg_met (cc := cX2_init) (nL := 2) (ret := none) (lv := [(0, .ref h), (1, .int c)]) (by decide) rfl rfl (Nat.le_of_ble_eq_true rfl) ?_
  intro p_ e_ s_ m_ bl_ me_ cc_ A_ X hr hk hnm
  have hC := capC_ok c
  refine gg_aload_n X dX2_init_0 rfl 0 rfl ?_
  refine gg_objInit X dX2_init_1 (am 11 rfl) (am 12 rfl) (am 13 rfl) (Nat.le_of_ble_eq_true rfl) (Nat.le_of_ble_eq_true rfl) ?_
  refine gg_aload_n X dX2_init_4 rfl 0 rfl ?_
  refine gg_iload_n X dX2_init_5 rfl 1 rfl ?_
  refine gg_bipush X dX2_init_6 (v := nI 20) (by decide) ?_
  refine gg_icmp_lt (tgt := 22) X dX2_init_8 (by decide) (fun c_8 => ?_) (fun c_8 => ?_)
  · have eC : capC c = 300 := capC_lo c_8
    refine gg_sipush X dX2_init_22 (v := nI 300) (by decide) ?_
    refine gg_st (st' := [.int (nI (capC c)), .ref h]) (by rw [eC]) ?_
    refine gg_putF X dX2_init_25 imX2 tyX2 tyX2_ok nmX2 0 rfl rfl 0 (by decide) (am 33 rfl) hnm rfl (ws' := [(h, .inr (2, [.int (nI (capC c)), .null, .null, .null, .int 0, .int 0, .int 0]))]) (ty := .int) rfl (by decide +kernel) rfl rfl (Nat.le_of_ble_eq_true rfl) (rfl) ?_
    refine gg_aload_n X dX2_init_28 rfl 0 rfl ?_
    refine gg_bipush X dX2_init_29 (v := nI 10) (by decide) ?_
    refine gg_newa X dX2_init_31 (ty := .long) rfl (fun _ h => by cases h) (am 32 rfl) 0 rfl 10 (a0 := (10, .inr (.inl (fun _ => 0)))) (fun _ => rfl) rfl (by decide) (by decide) (Nat.le_of_ble_eq_true rfl) (Nat.le_of_ble_eq_true rfl) (fun r => ?_)
    refine gg_putF X dX2_init_33 imX2 tyX2 tyX2_ok nmX2 0 rfl rfl 1 (by decide) (am 34 rfl) hnm rfl (ws' := [(h, .inr (2, [.int (nI (capC c)), .ref r, .null, .null, .int 0, .int 0, .int 0])), (r, .inl (J, 10, .inr (.inl (fun _ => 0))))]) (ty := .array .long) rfl (by decide +kernel) rfl rfl (Nat.le_of_ble_eq_true rfl) (rfl) ?_
    refine gg_aload_n X dX2_init_36 rfl 0 rfl ?_
    refine gg_get X dX2_init_37 imX2 0 rfl rfl 1 (by decide) (am 34 rfl) rfl ?_
    refine gg_ldc2 X (v := 4294967296) (am 14 rfl) dX2_init_40 ?_
    refine gg_ws (ws' := [(h, .inr (2, [.int (nI (capC c)), .ref r, .null, .null, .int 0, .int 0, .int 0]))] ++ [(r, .inl (J, 10, .inr (.inl (fun _ => 0))))]) rfl ?_
    refine gc_vR X (gr_S X dX2_init_43 X.2.2.2.2.2.1 (k_fillJ l D J T r 10 (by decide) (fun _ => 0) 4294967296) (va_cwS 2 X.2.2.2.2.1 (gdO (al 15 rfl) (al 16 rfl) (al 2 rfl) (al 17 rfl)) rfl rfl rfl (by decide +kernel) ⟨Nat.le_of_ble_eq_true rfl, Nat.le_of_ble_eq_true rfl⟩) rfl rfl (Nat.le_of_ble_eq_true rfl) ⟨Nat.le_of_ble_eq_true rfl, Nat.le_of_ble_eq_true rfl⟩) (fun g hg => ?_)
    refine gg_ws (ws' := [(h, .inr (2, [.int (nI (capC c)), .ref r, .null, .null, .int 0, .int 0, .int 0])), (r, .inl (J, 10, .inr (.inl g)))]) rfl ?_
    refine gg_aload_n X dX2_init_46 rfl 0 rfl ?_
    refine gg_bipush X dX2_init_47 (v := nI 50) (by decide) ?_
    refine gg_newa X dX2_init_49 (ty := .long) rfl (fun _ h => by cases h) (am 32 rfl) 0 rfl 50 (a0 := (50, .inr (.inl (fun _ => 0)))) (fun _ => rfl) rfl (by decide) (by decide) (Nat.le_of_ble_eq_true rfl) (Nat.le_of_ble_eq_true rfl) (fun k => ?_)
    refine gg_putF X dX2_init_51 imX2 tyX2 tyX2_ok nmX2 0 rfl rfl 2 (by decide) (am 35 rfl) hnm rfl (ws' := [(h, .inr (2, [.int (nI (capC c)), .ref r, .ref k, .null, .int 0, .int 0, .int 0])), (r, .inl (J, 10, .inr (.inl g))), (k, .inl (J, 50, .inr (.inl (fun _ => 0))))]) (ty := .array .long) rfl (by decide +kernel) rfl rfl (Nat.le_of_ble_eq_true rfl) (rfl) ?_
    refine gg_aload_n X dX2_init_54 rfl 0 rfl ?_
    refine gg_new (C := RX0) (T := TX0) (N' := 4) (ci := 0) X dX2_init_55 imX0 tyX0 tyX0_ok (am 18 rfl) (am 19 rfl) (am 3 rfl) rfl (fs := [.null, .null, .int 0, .int 0]) (fun j hj => by rcases (show j = 0 ∨ j = 1 ∨ j = 2 ∨ j = 3 by omega) with rfl | rfl | rfl | rfl <;> rfl) (Nat.le_of_ble_eq_true rfl) (Nat.le_of_ble_eq_true rfl) (fun q => ?_)
    refine gg_dup X dX2_init_58 rfl ?_
    refine gg_aload_n X dX2_init_59 rfl 0 rfl ?_
    refine gg_get X dX2_init_60 imX2 0 rfl rfl 0 (by decide) (am 33 rfl) rfl ?_
    refine gg_iconst X dX2_init_63 (v := nI 2) (by decide) ?_
    refine gg_idiv X dX2_init_64 (by decide) (pk_div (a := capC c) (d := 2) (by omega) (by omega) (by omega)) ?_
    refine gc_vR X (gr_IN (host := "SliceHeap") X dX2_init_65 X.2.2.2.2.2.1 (k_memInit l D J T q (capC c / 2) (by omega)) ⟨va_cnB 1 X.2.2.2.2.1 (gd0 (al 21 rfl)) rfl rfl rfl (X.2.2.2.2.2.2.2.1 _ (nw 0 rfl)) (X.2.2.2.2.1 _ (am 3 rfl)) (by decide +kernel) ⟨Nat.le_of_ble_eq_true rfl, Nat.le_of_ble_eq_true rfl⟩, rfl, (X.2.2.2.2.1 _ (am 20 rfl))⟩ rfl rfl (Nat.le_of_ble_eq_true rfl) ⟨Nat.le_of_ble_eq_true rfl, Nat.le_of_ble_eq_true rfl⟩) (fun w hw => ?_)
    refine gg_putF X dX2_init_68 imX2 tyX2 tyX2_ok nmX2 0 rfl rfl 3 (by decide) (am 36 rfl) hnm rfl (ws' := [(h, .inr (2, [.int (nI (capC c)), .ref r, .ref k, .ref q, .int 0, .int 0, .int 0])), (r, .inl (J, 10, .inr (.inl g))), (k, .inl (J, 50, .inr (.inl (fun _ => 0)))), (q, .inr (0, [.ref w.1, .ref w.2, .int 0, .int 0])), (w.1, .inl (T, capC c / 2, .inr (.inr (.inr (.inr (fun _ => none)))))), (w.2, .inl (T, capC c / 2, .inr (.inr (.inr (.inr (fun _ => none))))))]) (ty := .object "SliceHeap$Memory") rfl (by decide +kernel) rfl rfl (Nat.le_of_ble_eq_true rfl) (rfl) ?_
    refine gg_ws (ws' := cW ((((h, r), k), (q, w.1)), (((w.2, J), T), (capC c / 2, capC c))) ((((g, fun _ => 0), (0, 0)), ((0, 0), fun _ => 0)), (((fun _ => 0, fun _ => 0), (fun _ => false, fun _ _ => 0)), ((0, 0), fun _ => none)))) (by unfold cW; rw [rW_zero]; rfl) ?_
    exact gg_vret X dX2_init_71 hr hk (((((h, r), k), (q, w.1)), (((w.2, J), T), (capC c / 2, capC c))), ((((g, fun _ => 0), (0, 0)), ((0, 0), fun _ => 0)), (((fun _ => 0, fun _ => 0), (fun _ => false, fun _ _ => 0)), ((0, 0), fun _ => none)))) (pNew.of hC hg) rfl (Nat.le_of_ble_eq_true rfl) (Nat.le_of_ble_eq_true rfl)
  · refine gg_iload_n X dX2_init_11 rfl 1 rfl ?_
    refine gg_sipush X dX2_init_12 (v := nI 3000) (by decide) ?_
    refine gg_icmp_gt (tgt := 22) X dX2_init_15 (by decide) (fun c_15 => ?_) (fun c_15 => ?_)
    · have eC : capC c = 300 := capC_hi c_15
      refine gg_sipush X dX2_init_22 (v := nI 300) (by decide) ?_
      refine gg_st (st' := [.int (nI (capC c)), .ref h]) (by rw [eC]) ?_
      refine gg_putF X dX2_init_25 imX2 tyX2 tyX2_ok nmX2 0 rfl rfl 0 (by decide) (am 33 rfl) hnm rfl (ws' := [(h, .inr (2, [.int (nI (capC c)), .null, .null, .null, .int 0, .int 0, .int 0]))]) (ty := .int) rfl (by decide +kernel) rfl rfl (Nat.le_of_ble_eq_true rfl) (rfl) ?_
      refine gg_aload_n X dX2_init_28 rfl 0 rfl ?_
      refine gg_bipush X dX2_init_29 (v := nI 10) (by decide) ?_
      refine gg_newa X dX2_init_31 (ty := .long) rfl (fun _ h => by cases h) (am 32 rfl) 0 rfl 10 (a0 := (10, .inr (.inl (fun _ => 0)))) (fun _ => rfl) rfl (by decide) (by decide) (Nat.le_of_ble_eq_true rfl) (Nat.le_of_ble_eq_true rfl) (fun r => ?_)
      refine gg_putF X dX2_init_33 imX2 tyX2 tyX2_ok nmX2 0 rfl rfl 1 (by decide) (am 34 rfl) hnm rfl (ws' := [(h, .inr (2, [.int (nI (capC c)), .ref r, .null, .null, .int 0, .int 0, .int 0])), (r, .inl (J, 10, .inr (.inl (fun _ => 0))))]) (ty := .array .long) rfl (by decide +kernel) rfl rfl (Nat.le_of_ble_eq_true rfl) (rfl) ?_
      refine gg_aload_n X dX2_init_36 rfl 0 rfl ?_
      refine gg_get X dX2_init_37 imX2 0 rfl rfl 1 (by decide) (am 34 rfl) rfl ?_
      refine gg_ldc2 X (v := 4294967296) (am 14 rfl) dX2_init_40 ?_
      refine gg_ws (ws' := [(h, .inr (2, [.int (nI (capC c)), .ref r, .null, .null, .int 0, .int 0, .int 0]))] ++ [(r, .inl (J, 10, .inr (.inl (fun _ => 0))))]) rfl ?_
      refine gc_vR X (gr_S X dX2_init_43 X.2.2.2.2.2.1 (k_fillJ l D J T r 10 (by decide) (fun _ => 0) 4294967296) (va_cwS 2 X.2.2.2.2.1 (gdO (al 15 rfl) (al 16 rfl) (al 2 rfl) (al 17 rfl)) rfl rfl rfl (by decide +kernel) ⟨Nat.le_of_ble_eq_true rfl, Nat.le_of_ble_eq_true rfl⟩) rfl rfl (Nat.le_of_ble_eq_true rfl) ⟨Nat.le_of_ble_eq_true rfl, Nat.le_of_ble_eq_true rfl⟩) (fun g hg => ?_)
      refine gg_ws (ws' := [(h, .inr (2, [.int (nI (capC c)), .ref r, .null, .null, .int 0, .int 0, .int 0])), (r, .inl (J, 10, .inr (.inl g)))]) rfl ?_
      refine gg_aload_n X dX2_init_46 rfl 0 rfl ?_
      refine gg_bipush X dX2_init_47 (v := nI 50) (by decide) ?_
      refine gg_newa X dX2_init_49 (ty := .long) rfl (fun _ h => by cases h) (am 32 rfl) 0 rfl 50 (a0 := (50, .inr (.inl (fun _ => 0)))) (fun _ => rfl) rfl (by decide) (by decide) (Nat.le_of_ble_eq_true rfl) (Nat.le_of_ble_eq_true rfl) (fun k => ?_)
      refine gg_putF X dX2_init_51 imX2 tyX2 tyX2_ok nmX2 0 rfl rfl 2 (by decide) (am 35 rfl) hnm rfl (ws' := [(h, .inr (2, [.int (nI (capC c)), .ref r, .ref k, .null, .int 0, .int 0, .int 0])), (r, .inl (J, 10, .inr (.inl g))), (k, .inl (J, 50, .inr (.inl (fun _ => 0))))]) (ty := .array .long) rfl (by decide +kernel) rfl rfl (Nat.le_of_ble_eq_true rfl) (rfl) ?_
      refine gg_aload_n X dX2_init_54 rfl 0 rfl ?_
      refine gg_new (C := RX0) (T := TX0) (N' := 4) (ci := 0) X dX2_init_55 imX0 tyX0 tyX0_ok (am 18 rfl) (am 19 rfl) (am 3 rfl) rfl (fs := [.null, .null, .int 0, .int 0]) (fun j hj => by rcases (show j = 0 ∨ j = 1 ∨ j = 2 ∨ j = 3 by omega) with rfl | rfl | rfl | rfl <;> rfl) (Nat.le_of_ble_eq_true rfl) (Nat.le_of_ble_eq_true rfl) (fun q => ?_)
      refine gg_dup X dX2_init_58 rfl ?_
      refine gg_aload_n X dX2_init_59 rfl 0 rfl ?_
      refine gg_get X dX2_init_60 imX2 0 rfl rfl 0 (by decide) (am 33 rfl) rfl ?_
      refine gg_iconst X dX2_init_63 (v := nI 2) (by decide) ?_
      refine gg_idiv X dX2_init_64 (by decide) (pk_div (a := capC c) (d := 2) (by omega) (by omega) (by omega)) ?_
      refine gc_vR X (gr_IN (host := "SliceHeap") X dX2_init_65 X.2.2.2.2.2.1 (k_memInit l D J T q (capC c / 2) (by omega)) ⟨va_cnB 1 X.2.2.2.2.1 (gd0 (al 21 rfl)) rfl rfl rfl (X.2.2.2.2.2.2.2.1 _ (nw 0 rfl)) (X.2.2.2.2.1 _ (am 3 rfl)) (by decide +kernel) ⟨Nat.le_of_ble_eq_true rfl, Nat.le_of_ble_eq_true rfl⟩, rfl, (X.2.2.2.2.1 _ (am 20 rfl))⟩ rfl rfl (Nat.le_of_ble_eq_true rfl) ⟨Nat.le_of_ble_eq_true rfl, Nat.le_of_ble_eq_true rfl⟩) (fun w hw => ?_)
      refine gg_putF X dX2_init_68 imX2 tyX2 tyX2_ok nmX2 0 rfl rfl 3 (by decide) (am 36 rfl) hnm rfl (ws' := [(h, .inr (2, [.int (nI (capC c)), .ref r, .ref k, .ref q, .int 0, .int 0, .int 0])), (r, .inl (J, 10, .inr (.inl g))), (k, .inl (J, 50, .inr (.inl (fun _ => 0)))), (q, .inr (0, [.ref w.1, .ref w.2, .int 0, .int 0])), (w.1, .inl (T, capC c / 2, .inr (.inr (.inr (.inr (fun _ => none)))))), (w.2, .inl (T, capC c / 2, .inr (.inr (.inr (.inr (fun _ => none))))))]) (ty := .object "SliceHeap$Memory") rfl (by decide +kernel) rfl rfl (Nat.le_of_ble_eq_true rfl) (rfl) ?_
      refine gg_ws (ws' := cW ((((h, r), k), (q, w.1)), (((w.2, J), T), (capC c / 2, capC c))) ((((g, fun _ => 0), (0, 0)), ((0, 0), fun _ => 0)), (((fun _ => 0, fun _ => 0), (fun _ => false, fun _ _ => 0)), ((0, 0), fun _ => none)))) (by unfold cW; rw [rW_zero]; rfl) ?_
      exact gg_vret X dX2_init_71 hr hk (((((h, r), k), (q, w.1)), (((w.2, J), T), (capC c / 2, capC c))), ((((g, fun _ => 0), (0, 0)), ((0, 0), fun _ => 0)), (((fun _ => 0, fun _ => 0), (fun _ => false, fun _ _ => 0)), ((0, 0), fun _ => none)))) (pNew.of hC hg) rfl (Nat.le_of_ble_eq_true rfl) (Nat.le_of_ble_eq_true rfl)
    · obtain ⟨z, hz, ez⟩ := capC_in c_8 c_15
      refine gg_iload_n X dX2_init_18 rfl 1 rfl ?_
      refine gg_goto (tgt := 25) X dX2_init_19 (by decide) ?_
      refine gg_st (st' := [.int (nI (capC c)), .ref h]) (by rw [← ez, ← hz]) ?_
      refine gg_putF X dX2_init_25 imX2 tyX2 tyX2_ok nmX2 0 rfl rfl 0 (by decide) (am 33 rfl) hnm rfl (ws' := [(h, .inr (2, [.int (nI (capC c)), .null, .null, .null, .int 0, .int 0, .int 0]))]) (ty := .int) rfl (by decide +kernel) rfl rfl (Nat.le_of_ble_eq_true rfl) (rfl) ?_
      refine gg_aload_n X dX2_init_28 rfl 0 rfl ?_
      refine gg_bipush X dX2_init_29 (v := nI 10) (by decide) ?_
      refine gg_newa X dX2_init_31 (ty := .long) rfl (fun _ h => by cases h) (am 32 rfl) 0 rfl 10 (a0 := (10, .inr (.inl (fun _ => 0)))) (fun _ => rfl) rfl (by decide) (by decide) (Nat.le_of_ble_eq_true rfl) (Nat.le_of_ble_eq_true rfl) (fun r => ?_)
      refine gg_putF X dX2_init_33 imX2 tyX2 tyX2_ok nmX2 0 rfl rfl 1 (by decide) (am 34 rfl) hnm rfl (ws' := [(h, .inr (2, [.int (nI (capC c)), .ref r, .null, .null, .int 0, .int 0, .int 0])), (r, .inl (J, 10, .inr (.inl (fun _ => 0))))]) (ty := .array .long) rfl (by decide +kernel) rfl rfl (Nat.le_of_ble_eq_true rfl) (rfl) ?_
      refine gg_aload_n X dX2_init_36 rfl 0 rfl ?_
      refine gg_get X dX2_init_37 imX2 0 rfl rfl 1 (by decide) (am 34 rfl) rfl ?_
      refine gg_ldc2 X (v := 4294967296) (am 14 rfl) dX2_init_40 ?_
      refine gg_ws (ws' := [(h, .inr (2, [.int (nI (capC c)), .ref r, .null, .null, .int 0, .int 0, .int 0]))] ++ [(r, .inl (J, 10, .inr (.inl (fun _ => 0))))]) rfl ?_
      refine gc_vR X (gr_S X dX2_init_43 X.2.2.2.2.2.1 (k_fillJ l D J T r 10 (by decide) (fun _ => 0) 4294967296) (va_cwS 2 X.2.2.2.2.1 (gdO (al 15 rfl) (al 16 rfl) (al 2 rfl) (al 17 rfl)) rfl rfl rfl (by decide +kernel) ⟨Nat.le_of_ble_eq_true rfl, Nat.le_of_ble_eq_true rfl⟩) rfl rfl (Nat.le_of_ble_eq_true rfl) ⟨Nat.le_of_ble_eq_true rfl, Nat.le_of_ble_eq_true rfl⟩) (fun g hg => ?_)
      refine gg_ws (ws' := [(h, .inr (2, [.int (nI (capC c)), .ref r, .null, .null, .int 0, .int 0, .int 0])), (r, .inl (J, 10, .inr (.inl g)))]) rfl ?_
      refine gg_aload_n X dX2_init_46 rfl 0 rfl ?_
      refine gg_bipush X dX2_init_47 (v := nI 50) (by decide) ?_
      refine gg_newa X dX2_init_49 (ty := .long) rfl (fun _ h => by cases h) (am 32 rfl) 0 rfl 50 (a0 := (50, .inr (.inl (fun _ => 0)))) (fun _ => rfl) rfl (by decide) (by decide) (Nat.le_of_ble_eq_true rfl) (Nat.le_of_ble_eq_true rfl) (fun k => ?_)
      refine gg_putF X dX2_init_51 imX2 tyX2 tyX2_ok nmX2 0 rfl rfl 2 (by decide) (am 35 rfl) hnm rfl (ws' := [(h, .inr (2, [.int (nI (capC c)), .ref r, .ref k, .null, .int 0, .int 0, .int 0])), (r, .inl (J, 10, .inr (.inl g))), (k, .inl (J, 50, .inr (.inl (fun _ => 0))))]) (ty := .array .long) rfl (by decide +kernel) rfl rfl (Nat.le_of_ble_eq_true rfl) (rfl) ?_
      refine gg_aload_n X dX2_init_54 rfl 0 rfl ?_
      refine gg_new (C := RX0) (T := TX0) (N' := 4) (ci := 0) X dX2_init_55 imX0 tyX0 tyX0_ok (am 18 rfl) (am 19 rfl) (am 3 rfl) rfl (fs := [.null, .null, .int 0, .int 0]) (fun j hj => by rcases (show j = 0 ∨ j = 1 ∨ j = 2 ∨ j = 3 by omega) with rfl | rfl | rfl | rfl <;> rfl) (Nat.le_of_ble_eq_true rfl) (Nat.le_of_ble_eq_true rfl) (fun q => ?_)
      refine gg_dup X dX2_init_58 rfl ?_
      refine gg_aload_n X dX2_init_59 rfl 0 rfl ?_
      refine gg_get X dX2_init_60 imX2 0 rfl rfl 0 (by decide) (am 33 rfl) rfl ?_
      refine gg_iconst X dX2_init_63 (v := nI 2) (by decide) ?_
      refine gg_idiv X dX2_init_64 (by decide) (pk_div (a := capC c) (d := 2) (by omega) (by omega) (by omega)) ?_
      refine gc_vR X (gr_IN (host := "SliceHeap") X dX2_init_65 X.2.2.2.2.2.1 (k_memInit l D J T q (capC c / 2) (by omega)) ⟨va_cnB 1 X.2.2.2.2.1 (gd0 (al 21 rfl)) rfl rfl rfl (X.2.2.2.2.2.2.2.1 _ (nw 0 rfl)) (X.2.2.2.2.1 _ (am 3 rfl)) (by decide +kernel) ⟨Nat.le_of_ble_eq_true rfl, Nat.le_of_ble_eq_true rfl⟩, rfl, (X.2.2.2.2.1 _ (am 20 rfl))⟩ rfl rfl (Nat.le_of_ble_eq_true rfl) ⟨Nat.le_of_ble_eq_true rfl, Nat.le_of_ble_eq_true rfl⟩) (fun w hw => ?_)
      refine gg_putF X dX2_init_68 imX2 tyX2 tyX2_ok nmX2 0 rfl rfl 3 (by decide) (am 36 rfl) hnm rfl (ws' := [(h, .inr (2, [.int (nI (capC c)), .ref r, .ref k, .ref q, .int 0, .int 0, .int 0])), (r, .inl (J, 10, .inr (.inl g))), (k, .inl (J, 50, .inr (.inl (fun _ => 0)))), (q, .inr (0, [.ref w.1, .ref w.2, .int 0, .int 0])), (w.1, .inl (T, capC c / 2, .inr (.inr (.inr (.inr (fun _ => none)))))), (w.2, .inl (T, capC c / 2, .inr (.inr (.inr (.inr (fun _ => none))))))]) (ty := .object "SliceHeap$Memory") rfl (by decide +kernel) rfl rfl (Nat.le_of_ble_eq_true rfl) (rfl) ?_
      refine gg_ws (ws' := cW ((((h, r), k), (q, w.1)), (((w.2, J), T), (capC c / 2, capC c))) ((((g, fun _ => 0), (0, 0)), ((0, 0), fun _ => 0)), (((fun _ => 0, fun _ => 0), (fun _ => false, fun _ _ => 0)), ((0, 0), fun _ => none)))) (by unfold cW; rw [rW_zero]; rfl) ?_
      exact gg_vret X dX2_init_71 hr hk (((((h, r), k), (q, w.1)), (((w.2, J), T), (capC c / 2, capC c))), ((((g, fun _ => 0), (0, 0)), ((0, 0), fun _ => 0)), (((fun _ => 0, fun _ => 0), (fun _ => false, fun _ _ => 0)), ((0, 0), fun _ => none)))) (pNew.of hC hg) rfl (Nat.le_of_ble_eq_true rfl) (Nat.le_of_ble_eq_true rfl)
set_option maxHeartbeats 4000000 in
set_option maxRecDepth 100000 in
theorem k_modelInit (l : Launch) (D : va_G) (B I Z : ClassId) (h : Nat) (c : Int32) : mG l yX3_init wX3_init ({ frames := 1, cells := 4, slots := 21960, locals := 30 }) D vwCl [(B, .byte), (I, .int), (Z, .boolean)] [.ref h, .int c] [(h, .inr (3, [.int 0, .null, .null, .int 0, .int 0, .null, .null, .int 0]))] (qV D vwCl (fun (w : DF × DS) => dNew w.1 w.2 h B I Z (capC c)) (fun w => dW w.1 w.2)) := by
  refine gg_met (cc := cX3_init) (nL := 2) (ret := none) (lv := [(0, .ref h), (1, .int c)]) (by decide) rfl rfl (Nat.le_of_ble_eq_true rfl) ?_
  intro p_ e_ s_ m_ bl_ me_ cc_ A_ X hr hk hnm
  have hC := capC_ok c
  refine gg_aload_n X dX3_init_0 rfl 0 rfl ?_
  refine gg_objInit X dX3_init_1 (am 142 rfl) (am 12 rfl) (am 13 rfl) (Nat.le_of_ble_eq_true rfl) (Nat.le_of_ble_eq_true rfl) ?_
  refine gg_aload_n X dX3_init_4 rfl 0 rfl ?_
  refine gg_sipush X dX3_init_5 (v := nI 10460) (by decide) ?_
  refine gg_newa X dX3_init_8 (ty := .byte) rfl (fun _ h => by cases h) (am 159 rfl) 0 rfl 10460 (a0 := (10460, .inl (fun _ => 0))) (fun _ => rfl) rfl (by decide) (by decide) (Nat.le_of_ble_eq_true rfl) (Nat.le_of_ble_eq_true rfl) (fun k => ?_)
  refine gg_putF X dX3_init_10 imX3 tyX3 tyX3_ok nmX3 0 rfl rfl 1 (by decide) (am 144 rfl) hnm rfl (ws' := [(h, .inr (3, [.int 0, .ref k, .null, .int 0, .int 0, .null, .null, .int 0])), (k, .inl (B, 10460, .inl (fun _ => 0)))]) (ty := .array .byte) rfl (by decide +kernel) rfl rfl (Nat.le_of_ble_eq_true rfl) (rfl) ?_
  refine gg_aload_n X dX3_init_13 rfl 0 rfl ?_
  refine gg_sipush X dX3_init_14 (v := nI 10460) (by decide) ?_
  refine gg_newa X dX3_init_17 (ty := .int) rfl (fun _ h => by cases h) (am 160 rfl) 1 rfl 10460 (a0 := (10460, .inl (fun _ => 0))) (fun _ => rfl) rfl (by decide) (by decide) (Nat.le_of_ble_eq_true rfl) (Nat.le_of_ble_eq_true rfl) (fun v => ?_)
  refine gg_putF X dX3_init_19 imX3 tyX3 tyX3_ok nmX3 0 rfl rfl 2 (by decide) (am 145 rfl) hnm rfl (ws' := [(h, .inr (3, [.int 0, .ref k, .ref v, .int 0, .int 0, .null, .null, .int 0])), (k, .inl (B, 10460, .inl (fun _ => 0))), (v, .inl (I, 10460, .inl (fun _ => 0)))]) (ty := .array .int) rfl (by decide +kernel) rfl rfl (Nat.le_of_ble_eq_true rfl) (rfl) ?_
  refine gg_aload_n X dX3_init_22 rfl 0 rfl ?_
  refine gg_sipush X dX3_init_23 (v := nI 520) (by decide) ?_
  refine gg_newa X dX3_init_26 (ty := .int) rfl (fun _ h => by cases h) (am 160 rfl) 1 rfl 520 (a0 := (520, .inl (fun _ => 0))) (fun _ => rfl) rfl (by decide) (by decide) (Nat.le_of_ble_eq_true rfl) (Nat.le_of_ble_eq_true rfl) (fun z => ?_)
  refine gg_putF X dX3_init_28 imX3 tyX3 tyX3_ok nmX3 0 rfl rfl 5 (by decide) (am 148 rfl) hnm rfl (ws' := [(h, .inr (3, [.int 0, .ref k, .ref v, .int 0, .int 0, .ref z, .null, .int 0])), (k, .inl (B, 10460, .inl (fun _ => 0))), (v, .inl (I, 10460, .inl (fun _ => 0))), (z, .inl (I, 520, .inl (fun _ => 0)))]) (ty := .array .int) rfl (by decide +kernel) rfl rfl (Nat.le_of_ble_eq_true rfl) (rfl) ?_
  refine gg_aload_n X dX3_init_31 rfl 0 rfl ?_
  refine gg_sipush X dX3_init_32 (v := nI 520) (by decide) ?_
  refine gg_newa X dX3_init_35 (ty := .boolean) rfl (fun _ h => by cases h) (am 161 rfl) 2 rfl 520 (a0 := (520, .inl (fun _ => 0))) (fun _ => rfl) rfl (by decide) (by decide) (Nat.le_of_ble_eq_true rfl) (Nat.le_of_ble_eq_true rfl) (fun r => ?_)
  refine gg_putF X dX3_init_37 imX3 tyX3 tyX3_ok nmX3 0 rfl rfl 6 (by decide) (am 149 rfl) hnm rfl (ws' := [(h, .inr (3, [.int 0, .ref k, .ref v, .int 0, .int 0, .ref z, .ref r, .int 0])), (k, .inl (B, 10460, .inl (fun _ => 0))), (v, .inl (I, 10460, .inl (fun _ => 0))), (z, .inl (I, 520, .inl (fun _ => 0))), (r, .inl (Z, 520, .inl (fun _ => 0)))]) (ty := .array .boolean) rfl (by decide +kernel) rfl rfl (Nat.le_of_ble_eq_true rfl) (rfl) ?_
  refine gg_aload_n X dX3_init_40 rfl 0 rfl ?_
  refine gg_iload_n X dX3_init_41 rfl 1 rfl ?_
  refine gg_bipush X dX3_init_42 (v := nI 20) (by decide) ?_
  refine gg_icmp_lt (tgt := 58) X dX3_init_44 (by decide) (fun c_44 => ?_) (fun c_44 => ?_)
  · have eC : capC c = 300 := capC_lo c_44
    refine gg_sipush X dX3_init_58 (v := nI 300) (by decide) ?_
    refine gg_st (st' := [.int (nI (capC c)), .ref h]) (by rw [eC]) ?_
    refine gg_putF X dX3_init_61 imX3 tyX3 tyX3_ok nmX3 0 rfl rfl 0 (by decide) (am 143 rfl) hnm rfl (ws' := [(h, .inr (3, [.int (nI (capC c)), .ref k, .ref v, .int 0, .int 0, .ref z, .ref r, .int 0])), (k, .inl (B, 10460, .inl (fun _ => 0))), (v, .inl (I, 10460, .inl (fun _ => 0))), (z, .inl (I, 520, .inl (fun _ => 0))), (r, .inl (Z, 520, .inl (fun _ => 0)))]) (ty := .int) rfl (by decide +kernel) rfl rfl (Nat.le_of_ble_eq_true rfl) (rfl) ?_
    refine gg_ws (ws' := dW ((((h, k), v), (z, r)), ((B, I), (Z, capC c))) (((fun _ => 0, fun _ => 0), (0, 0)), ((0, fun _ => 0), fun _ => false))) rfl ?_
    exact gg_vret X dX3_init_64 hr hk (((((h, k), v), (z, r)), ((B, I), (Z, capC c))), (((fun _ => 0, fun _ => 0), (0, 0)), ((0, fun _ => 0), fun _ => false))) (dNew.of) rfl (Nat.le_of_ble_eq_true rfl) (Nat.le_of_ble_eq_true rfl)
  · refine gg_iload_n X dX3_init_47 rfl 1 rfl ?_
    refine gg_sipush X dX3_init_48 (v := nI 3000) (by decide) ?_
    refine gg_icmp_gt (tgt := 58) X dX3_init_51 (by decide) (fun c_51 => ?_) (fun c_51 => ?_)
    · have eC : capC c = 300 := capC_hi c_51
      refine gg_sipush X dX3_init_58 (v := nI 300) (by decide) ?_
      refine gg_st (st' := [.int (nI (capC c)), .ref h]) (by rw [eC]) ?_
      refine gg_putF X dX3_init_61 imX3 tyX3 tyX3_ok nmX3 0 rfl rfl 0 (by decide) (am 143 rfl) hnm rfl (ws' := [(h, .inr (3, [.int (nI (capC c)), .ref k, .ref v, .int 0, .int 0, .ref z, .ref r, .int 0])), (k, .inl (B, 10460, .inl (fun _ => 0))), (v, .inl (I, 10460, .inl (fun _ => 0))), (z, .inl (I, 520, .inl (fun _ => 0))), (r, .inl (Z, 520, .inl (fun _ => 0)))]) (ty := .int) rfl (by decide +kernel) rfl rfl (Nat.le_of_ble_eq_true rfl) (rfl) ?_
      refine gg_ws (ws' := dW ((((h, k), v), (z, r)), ((B, I), (Z, capC c))) (((fun _ => 0, fun _ => 0), (0, 0)), ((0, fun _ => 0), fun _ => false))) rfl ?_
      exact gg_vret X dX3_init_64 hr hk (((((h, k), v), (z, r)), ((B, I), (Z, capC c))), (((fun _ => 0, fun _ => 0), (0, 0)), ((0, fun _ => 0), fun _ => false))) (dNew.of) rfl (Nat.le_of_ble_eq_true rfl) (Nat.le_of_ble_eq_true rfl)
    · obtain ⟨zz, hz, ez⟩ := capC_in c_44 c_51
      refine gg_iload_n X dX3_init_54 rfl 1 rfl ?_
      refine gg_goto (tgt := 61) X dX3_init_55 (by decide) ?_
      refine gg_st (st' := [.int (nI (capC c)), .ref h]) (by rw [← ez, ← hz]) ?_
      refine gg_putF X dX3_init_61 imX3 tyX3 tyX3_ok nmX3 0 rfl rfl 0 (by decide) (am 143 rfl) hnm rfl (ws' := [(h, .inr (3, [.int (nI (capC c)), .ref k, .ref v, .int 0, .int 0, .ref z, .ref r, .int 0])), (k, .inl (B, 10460, .inl (fun _ => 0))), (v, .inl (I, 10460, .inl (fun _ => 0))), (z, .inl (I, 520, .inl (fun _ => 0))), (r, .inl (Z, 520, .inl (fun _ => 0)))]) (ty := .int) rfl (by decide +kernel) rfl rfl (Nat.le_of_ble_eq_true rfl) (rfl) ?_
      refine gg_ws (ws' := dW ((((h, k), v), (z, r)), ((B, I), (Z, capC c))) (((fun _ => 0, fun _ => 0), (0, 0)), ((0, fun _ => 0), fun _ => false))) rfl ?_
      exact gg_vret X dX3_init_64 hr hk (((((h, k), v), (z, r)), ((B, I), (Z, capC c))), (((fun _ => 0, fun _ => 0), (0, 0)), ((0, fun _ => 0), fun _ => false))) (dNew.of) rfl (Nat.le_of_ble_eq_true rfl) (Nat.le_of_ble_eq_true rfl)
end
section
theorem dL_law_0 : decode code 0 = .ok (.new 7, 3) := by decide +kernel
theorem dL_law_3 : decode code 3 = .ok (.dup, 1) := by decide +kernel
theorem dL_law_4 : decode code 4 = .ok (.aload_n 0, 1) := by decide +kernel
theorem dL_law_5 : decode code 5 = .ok (.iconst 0, 1) := by decide +kernel
theorem dL_law_6 : decode code 6 = .ok (.invokestatic 9, 3) := by decide +kernel
theorem dL_law_9 : decode code 9 = .ok (.invokespecial 15, 3) := by decide +kernel
theorem dL_law_12 : decode code 12 = .ok (.astore_n 1, 1) := by decide +kernel
theorem dL_law_13 : decode code 13 = .ok (.new 18, 3) := by decide +kernel
theorem dL_law_16 : decode code 16 = .ok (.dup, 1) := by decide +kernel
theorem dL_law_17 : decode code 17 = .ok (.aload_n 0, 1) := by decide +kernel
theorem dL_law_18 : decode code 18 = .ok (.iconst 0, 1) := by decide +kernel
theorem dL_law_19 : decode code 19 = .ok (.invokestatic 9, 3) := by decide +kernel
theorem dL_law_22 : decode code 22 = .ok (.invokespecial 20, 3) := by decide +kernel
theorem dL_law_25 : decode code 25 = .ok (.astore_n 2, 1) := by decide +kernel
theorem dL_law_26 : decode code 26 = .ok (.iconst 1, 1) := by decide +kernel
theorem dL_law_27 : decode code 27 = .ok (.istore_n 3, 1) := by decide +kernel
theorem dL_law_28 : decode code 28 = .ok (.iload_n 3, 1) := by decide +kernel
theorem dL_law_29 : decode code 29 = .ok (.aload_n 0, 1) := by decide +kernel
theorem dL_law_30 : decode code 30 = .ok (.arraylength, 1) := by decide +kernel
theorem dL_law_31 : decode code 31 = .ok (.iconst 4, 1) := by decide +kernel
theorem dL_law_32 : decode code 32 = .ok (.isub, 1) := by decide +kernel
theorem dL_law_33 : decode code 33 = .ok (.if_icmp .gt 480, 3) := by decide +kernel
theorem dL_law_36 : decode code 36 = .ok (.aload_n 0, 1) := by decide +kernel
theorem dL_law_37 : decode code 37 = .ok (.iload_n 3, 1) := by decide +kernel
theorem dL_law_38 : decode code 38 = .ok (.iaload, 1) := by decide +kernel
theorem dL_law_39 : decode code 39 = .ok (.bipush 15, 2) := by decide +kernel
theorem dL_law_41 : decode code 41 = .ok (.iand, 1) := by decide +kernel
theorem dL_law_42 : decode code 42 = .ok (.tableswitch 465 0 12 #[66, 109, 142, 165, 198, 231, 274, 317, 340, 363, 386, 409, 442], 66) := by decide +kernel
theorem dL_law_108 : decode code 108 = .ok (.aload_n 1, 1) := by decide +kernel
theorem dL_law_109 : decode code 109 = .ok (.aload_n 0, 1) := by decide +kernel
theorem dL_law_110 : decode code 110 = .ok (.iload_n 3, 1) := by decide +kernel
theorem dL_law_111 : decode code 111 = .ok (.iconst 1, 1) := by decide +kernel
theorem dL_law_112 : decode code 112 = .ok (.iadd, 1) := by decide +kernel
theorem dL_law_113 : decode code 113 = .ok (.iaload, 1) := by decide +kernel
theorem dL_law_114 : decode code 114 = .ok (.aload_n 0, 1) := by decide +kernel
theorem dL_law_115 : decode code 115 = .ok (.iload_n 3, 1) := by decide +kernel
theorem dL_law_116 : decode code 116 = .ok (.iconst 2, 1) := by decide +kernel
theorem dL_law_117 : decode code 117 = .ok (.iadd, 1) := by decide +kernel
theorem dL_law_118 : decode code 118 = .ok (.iaload, 1) := by decide +kernel
theorem dL_law_119 : decode code 119 = .ok (.aload_n 0, 1) := by decide +kernel
theorem dL_law_120 : decode code 120 = .ok (.iload_n 3, 1) := by decide +kernel
theorem dL_law_121 : decode code 121 = .ok (.iconst 3, 1) := by decide +kernel
theorem dL_law_122 : decode code 122 = .ok (.iadd, 1) := by decide +kernel
theorem dL_law_123 : decode code 123 = .ok (.iaload, 1) := by decide +kernel
theorem dL_law_124 : decode code 124 = .ok (.invokevirtual 21, 3) := by decide +kernel
theorem dL_law_127 : decode code 127 = .ok (.aload_n 2, 1) := by decide +kernel
theorem dL_law_128 : decode code 128 = .ok (.aload_n 0, 1) := by decide +kernel
theorem dL_law_129 : decode code 129 = .ok (.iload_n 3, 1) := by decide +kernel
theorem dL_law_130 : decode code 130 = .ok (.iconst 1, 1) := by decide +kernel
theorem dL_law_131 : decode code 131 = .ok (.iadd, 1) := by decide +kernel
theorem dL_law_132 : decode code 132 = .ok (.iaload, 1) := by decide +kernel
theorem dL_law_133 : decode code 133 = .ok (.aload_n 0, 1) := by decide +kernel
theorem dL_law_134 : decode code 134 = .ok (.iload_n 3, 1) := by decide +kernel
theorem dL_law_135 : decode code 135 = .ok (.iconst 2, 1) := by decide +kernel
theorem dL_law_136 : decode code 136 = .ok (.iadd, 1) := by decide +kernel
theorem dL_law_137 : decode code 137 = .ok (.iaload, 1) := by decide +kernel
theorem dL_law_138 : decode code 138 = .ok (.aload_n 0, 1) := by decide +kernel
theorem dL_law_139 : decode code 139 = .ok (.iload_n 3, 1) := by decide +kernel
theorem dL_law_140 : decode code 140 = .ok (.iconst 3, 1) := by decide +kernel
theorem dL_law_141 : decode code 141 = .ok (.iadd, 1) := by decide +kernel
theorem dL_law_142 : decode code 142 = .ok (.iaload, 1) := by decide +kernel
theorem dL_law_143 : decode code 143 = .ok (.invokevirtual 25, 3) := by decide +kernel
theorem dL_law_146 : decode code 146 = .ok (.if_icmp .eq 361, 3) := by decide +kernel
theorem dL_law_149 : decode code 149 = .ok (.iconst 0, 1) := by decide +kernel
theorem dL_law_150 : decode code 150 = .ok (.ireturn, 1) := by decide +kernel
theorem dL_law_151 : decode code 151 = .ok (.aload_n 1, 1) := by decide +kernel
theorem dL_law_152 : decode code 152 = .ok (.aload_n 0, 1) := by decide +kernel
theorem dL_law_153 : decode code 153 = .ok (.iload_n 3, 1) := by decide +kernel
theorem dL_law_154 : decode code 154 = .ok (.iconst 1, 1) := by decide +kernel
theorem dL_law_155 : decode code 155 = .ok (.iadd, 1) := by decide +kernel
theorem dL_law_156 : decode code 156 = .ok (.iaload, 1) := by decide +kernel
theorem dL_law_157 : decode code 157 = .ok (.aload_n 0, 1) := by decide +kernel
theorem dL_law_158 : decode code 158 = .ok (.iload_n 3, 1) := by decide +kernel
theorem dL_law_159 : decode code 159 = .ok (.iconst 2, 1) := by decide +kernel
theorem dL_law_160 : decode code 160 = .ok (.iadd, 1) := by decide +kernel
theorem dL_law_161 : decode code 161 = .ok (.iaload, 1) := by decide +kernel
theorem dL_law_162 : decode code 162 = .ok (.invokevirtual 26, 3) := by decide +kernel
theorem dL_law_165 : decode code 165 = .ok (.aload_n 2, 1) := by decide +kernel
theorem dL_law_166 : decode code 166 = .ok (.aload_n 0, 1) := by decide +kernel
theorem dL_law_167 : decode code 167 = .ok (.iload_n 3, 1) := by decide +kernel
theorem dL_law_168 : decode code 168 = .ok (.iconst 1, 1) := by decide +kernel
theorem dL_law_169 : decode code 169 = .ok (.iadd, 1) := by decide +kernel
theorem dL_law_170 : decode code 170 = .ok (.iaload, 1) := by decide +kernel
theorem dL_law_171 : decode code 171 = .ok (.aload_n 0, 1) := by decide +kernel
theorem dL_law_172 : decode code 172 = .ok (.iload_n 3, 1) := by decide +kernel
theorem dL_law_173 : decode code 173 = .ok (.iconst 2, 1) := by decide +kernel
theorem dL_law_174 : decode code 174 = .ok (.iadd, 1) := by decide +kernel
theorem dL_law_175 : decode code 175 = .ok (.iaload, 1) := by decide +kernel
theorem dL_law_176 : decode code 176 = .ok (.invokevirtual 30, 3) := by decide +kernel
theorem dL_law_179 : decode code 179 = .ok (.if_icmp .eq 328, 3) := by decide +kernel
theorem dL_law_182 : decode code 182 = .ok (.iconst 0, 1) := by decide +kernel
theorem dL_law_183 : decode code 183 = .ok (.ireturn, 1) := by decide +kernel
theorem dL_law_184 : decode code 184 = .ok (.aload_n 1, 1) := by decide +kernel
theorem dL_law_185 : decode code 185 = .ok (.aload_n 0, 1) := by decide +kernel
theorem dL_law_186 : decode code 186 = .ok (.iload_n 3, 1) := by decide +kernel
theorem dL_law_187 : decode code 187 = .ok (.iconst 1, 1) := by decide +kernel
theorem dL_law_188 : decode code 188 = .ok (.iadd, 1) := by decide +kernel
theorem dL_law_189 : decode code 189 = .ok (.iaload, 1) := by decide +kernel
theorem dL_law_190 : decode code 190 = .ok (.invokevirtual 31, 3) := by decide +kernel
theorem dL_law_193 : decode code 193 = .ok (.aload_n 2, 1) := by decide +kernel
theorem dL_law_194 : decode code 194 = .ok (.aload_n 0, 1) := by decide +kernel
theorem dL_law_195 : decode code 195 = .ok (.iload_n 3, 1) := by decide +kernel
theorem dL_law_196 : decode code 196 = .ok (.iconst 1, 1) := by decide +kernel
theorem dL_law_197 : decode code 197 = .ok (.iadd, 1) := by decide +kernel
theorem dL_law_198 : decode code 198 = .ok (.iaload, 1) := by decide +kernel
theorem dL_law_199 : decode code 199 = .ok (.invokevirtual 35, 3) := by decide +kernel
theorem dL_law_202 : decode code 202 = .ok (.if_icmp .eq 305, 3) := by decide +kernel
theorem dL_law_205 : decode code 205 = .ok (.iconst 0, 1) := by decide +kernel
theorem dL_law_206 : decode code 206 = .ok (.ireturn, 1) := by decide +kernel
theorem dL_law_207 : decode code 207 = .ok (.aload_n 1, 1) := by decide +kernel
theorem dL_law_208 : decode code 208 = .ok (.aload_n 0, 1) := by decide +kernel
theorem dL_law_209 : decode code 209 = .ok (.iload_n 3, 1) := by decide +kernel
theorem dL_law_210 : decode code 210 = .ok (.iconst 1, 1) := by decide +kernel
theorem dL_law_211 : decode code 211 = .ok (.iadd, 1) := by decide +kernel
theorem dL_law_212 : decode code 212 = .ok (.iaload, 1) := by decide +kernel
theorem dL_law_213 : decode code 213 = .ok (.aload_n 0, 1) := by decide +kernel
theorem dL_law_214 : decode code 214 = .ok (.iload_n 3, 1) := by decide +kernel
theorem dL_law_215 : decode code 215 = .ok (.iconst 2, 1) := by decide +kernel
theorem dL_law_216 : decode code 216 = .ok (.iadd, 1) := by decide +kernel
theorem dL_law_217 : decode code 217 = .ok (.iaload, 1) := by decide +kernel
end
section
theorem dL_law_218 : decode code 218 = .ok (.invokevirtual 36, 3) := by decide +kernel
theorem dL_law_221 : decode code 221 = .ok (.aload_n 2, 1) := by decide +kernel
theorem dL_law_222 : decode code 222 = .ok (.aload_n 0, 1) := by decide +kernel
theorem dL_law_223 : decode code 223 = .ok (.iload_n 3, 1) := by decide +kernel
theorem dL_law_224 : decode code 224 = .ok (.iconst 1, 1) := by decide +kernel
theorem dL_law_225 : decode code 225 = .ok (.iadd, 1) := by decide +kernel
theorem dL_law_226 : decode code 226 = .ok (.iaload, 1) := by decide +kernel
theorem dL_law_227 : decode code 227 = .ok (.aload_n 0, 1) := by decide +kernel
theorem dL_law_228 : decode code 228 = .ok (.iload_n 3, 1) := by decide +kernel
theorem dL_law_229 : decode code 229 = .ok (.iconst 2, 1) := by decide +kernel
theorem dL_law_230 : decode code 230 = .ok (.iadd, 1) := by decide +kernel
theorem dL_law_231 : decode code 231 = .ok (.iaload, 1) := by decide +kernel
theorem dL_law_232 : decode code 232 = .ok (.invokevirtual 40, 3) := by decide +kernel
theorem dL_law_235 : decode code 235 = .ok (.if_icmp .eq 272, 3) := by decide +kernel
theorem dL_law_238 : decode code 238 = .ok (.iconst 0, 1) := by decide +kernel
theorem dL_law_239 : decode code 239 = .ok (.ireturn, 1) := by decide +kernel
theorem dL_law_240 : decode code 240 = .ok (.aload_n 1, 1) := by decide +kernel
theorem dL_law_241 : decode code 241 = .ok (.aload_n 0, 1) := by decide +kernel
theorem dL_law_242 : decode code 242 = .ok (.iload_n 3, 1) := by decide +kernel
theorem dL_law_243 : decode code 243 = .ok (.iconst 1, 1) := by decide +kernel
theorem dL_law_244 : decode code 244 = .ok (.iadd, 1) := by decide +kernel
theorem dL_law_245 : decode code 245 = .ok (.iaload, 1) := by decide +kernel
theorem dL_law_246 : decode code 246 = .ok (.aload_n 0, 1) := by decide +kernel
theorem dL_law_247 : decode code 247 = .ok (.iload_n 3, 1) := by decide +kernel
theorem dL_law_248 : decode code 248 = .ok (.iconst 2, 1) := by decide +kernel
theorem dL_law_249 : decode code 249 = .ok (.iadd, 1) := by decide +kernel
theorem dL_law_250 : decode code 250 = .ok (.iaload, 1) := by decide +kernel
theorem dL_law_251 : decode code 251 = .ok (.invokevirtual 41, 3) := by decide +kernel
theorem dL_law_254 : decode code 254 = .ok (.aload_n 2, 1) := by decide +kernel
theorem dL_law_255 : decode code 255 = .ok (.aload_n 0, 1) := by decide +kernel
theorem dL_law_256 : decode code 256 = .ok (.iload_n 3, 1) := by decide +kernel
theorem dL_law_257 : decode code 257 = .ok (.iconst 1, 1) := by decide +kernel
theorem dL_law_258 : decode code 258 = .ok (.iadd, 1) := by decide +kernel
theorem dL_law_259 : decode code 259 = .ok (.iaload, 1) := by decide +kernel
theorem dL_law_260 : decode code 260 = .ok (.aload_n 0, 1) := by decide +kernel
theorem dL_law_261 : decode code 261 = .ok (.iload_n 3, 1) := by decide +kernel
theorem dL_law_262 : decode code 262 = .ok (.iconst 2, 1) := by decide +kernel
theorem dL_law_263 : decode code 263 = .ok (.iadd, 1) := by decide +kernel
theorem dL_law_264 : decode code 264 = .ok (.iaload, 1) := by decide +kernel
theorem dL_law_265 : decode code 265 = .ok (.invokevirtual 44, 3) := by decide +kernel
theorem dL_law_268 : decode code 268 = .ok (.if_icmp .eq 239, 3) := by decide +kernel
theorem dL_law_271 : decode code 271 = .ok (.iconst 0, 1) := by decide +kernel
theorem dL_law_272 : decode code 272 = .ok (.ireturn, 1) := by decide +kernel
theorem dL_law_273 : decode code 273 = .ok (.aload_n 1, 1) := by decide +kernel
theorem dL_law_274 : decode code 274 = .ok (.aload_n 0, 1) := by decide +kernel
theorem dL_law_275 : decode code 275 = .ok (.iload_n 3, 1) := by decide +kernel
theorem dL_law_276 : decode code 276 = .ok (.iconst 1, 1) := by decide +kernel
theorem dL_law_277 : decode code 277 = .ok (.iadd, 1) := by decide +kernel
theorem dL_law_278 : decode code 278 = .ok (.iaload, 1) := by decide +kernel
theorem dL_law_279 : decode code 279 = .ok (.aload_n 0, 1) := by decide +kernel
theorem dL_law_280 : decode code 280 = .ok (.iload_n 3, 1) := by decide +kernel
theorem dL_law_281 : decode code 281 = .ok (.iconst 2, 1) := by decide +kernel
theorem dL_law_282 : decode code 282 = .ok (.iadd, 1) := by decide +kernel
theorem dL_law_283 : decode code 283 = .ok (.iaload, 1) := by decide +kernel
theorem dL_law_284 : decode code 284 = .ok (.aload_n 0, 1) := by decide +kernel
theorem dL_law_285 : decode code 285 = .ok (.iload_n 3, 1) := by decide +kernel
theorem dL_law_286 : decode code 286 = .ok (.iconst 3, 1) := by decide +kernel
theorem dL_law_287 : decode code 287 = .ok (.iadd, 1) := by decide +kernel
theorem dL_law_288 : decode code 288 = .ok (.iaload, 1) := by decide +kernel
theorem dL_law_289 : decode code 289 = .ok (.invokevirtual 45, 3) := by decide +kernel
theorem dL_law_292 : decode code 292 = .ok (.aload_n 2, 1) := by decide +kernel
theorem dL_law_293 : decode code 293 = .ok (.aload_n 0, 1) := by decide +kernel
theorem dL_law_294 : decode code 294 = .ok (.iload_n 3, 1) := by decide +kernel
theorem dL_law_295 : decode code 295 = .ok (.iconst 1, 1) := by decide +kernel
theorem dL_law_296 : decode code 296 = .ok (.iadd, 1) := by decide +kernel
theorem dL_law_297 : decode code 297 = .ok (.iaload, 1) := by decide +kernel
theorem dL_law_298 : decode code 298 = .ok (.aload_n 0, 1) := by decide +kernel
theorem dL_law_299 : decode code 299 = .ok (.iload_n 3, 1) := by decide +kernel
theorem dL_law_300 : decode code 300 = .ok (.iconst 2, 1) := by decide +kernel
theorem dL_law_301 : decode code 301 = .ok (.iadd, 1) := by decide +kernel
theorem dL_law_302 : decode code 302 = .ok (.iaload, 1) := by decide +kernel
theorem dL_law_303 : decode code 303 = .ok (.aload_n 0, 1) := by decide +kernel
theorem dL_law_304 : decode code 304 = .ok (.iload_n 3, 1) := by decide +kernel
theorem dL_law_305 : decode code 305 = .ok (.iconst 3, 1) := by decide +kernel
theorem dL_law_306 : decode code 306 = .ok (.iadd, 1) := by decide +kernel
theorem dL_law_307 : decode code 307 = .ok (.iaload, 1) := by decide +kernel
theorem dL_law_308 : decode code 308 = .ok (.invokevirtual 49, 3) := by decide +kernel
theorem dL_law_311 : decode code 311 = .ok (.if_icmp .eq 196, 3) := by decide +kernel
theorem dL_law_314 : decode code 314 = .ok (.iconst 0, 1) := by decide +kernel
theorem dL_law_315 : decode code 315 = .ok (.ireturn, 1) := by decide +kernel
theorem dL_law_316 : decode code 316 = .ok (.aload_n 1, 1) := by decide +kernel
theorem dL_law_317 : decode code 317 = .ok (.aload_n 0, 1) := by decide +kernel
theorem dL_law_318 : decode code 318 = .ok (.iload_n 3, 1) := by decide +kernel
theorem dL_law_319 : decode code 319 = .ok (.iconst 1, 1) := by decide +kernel
theorem dL_law_320 : decode code 320 = .ok (.iadd, 1) := by decide +kernel
theorem dL_law_321 : decode code 321 = .ok (.iaload, 1) := by decide +kernel
theorem dL_law_322 : decode code 322 = .ok (.aload_n 0, 1) := by decide +kernel
theorem dL_law_323 : decode code 323 = .ok (.iload_n 3, 1) := by decide +kernel
theorem dL_law_324 : decode code 324 = .ok (.iconst 2, 1) := by decide +kernel
theorem dL_law_325 : decode code 325 = .ok (.iadd, 1) := by decide +kernel
theorem dL_law_326 : decode code 326 = .ok (.iaload, 1) := by decide +kernel
theorem dL_law_327 : decode code 327 = .ok (.aload_n 0, 1) := by decide +kernel
theorem dL_law_328 : decode code 328 = .ok (.iload_n 3, 1) := by decide +kernel
theorem dL_law_329 : decode code 329 = .ok (.iconst 3, 1) := by decide +kernel
theorem dL_law_330 : decode code 330 = .ok (.iadd, 1) := by decide +kernel
theorem dL_law_331 : decode code 331 = .ok (.iaload, 1) := by decide +kernel
theorem dL_law_332 : decode code 332 = .ok (.invokevirtual 50, 3) := by decide +kernel
theorem dL_law_335 : decode code 335 = .ok (.aload_n 2, 1) := by decide +kernel
theorem dL_law_336 : decode code 336 = .ok (.aload_n 0, 1) := by decide +kernel
theorem dL_law_337 : decode code 337 = .ok (.iload_n 3, 1) := by decide +kernel
theorem dL_law_338 : decode code 338 = .ok (.iconst 1, 1) := by decide +kernel
theorem dL_law_339 : decode code 339 = .ok (.iadd, 1) := by decide +kernel
theorem dL_law_340 : decode code 340 = .ok (.iaload, 1) := by decide +kernel
theorem dL_law_341 : decode code 341 = .ok (.aload_n 0, 1) := by decide +kernel
theorem dL_law_342 : decode code 342 = .ok (.iload_n 3, 1) := by decide +kernel
theorem dL_law_343 : decode code 343 = .ok (.iconst 2, 1) := by decide +kernel
theorem dL_law_344 : decode code 344 = .ok (.iadd, 1) := by decide +kernel
theorem dL_law_345 : decode code 345 = .ok (.iaload, 1) := by decide +kernel
theorem dL_law_346 : decode code 346 = .ok (.aload_n 0, 1) := by decide +kernel
theorem dL_law_347 : decode code 347 = .ok (.iload_n 3, 1) := by decide +kernel
theorem dL_law_348 : decode code 348 = .ok (.iconst 3, 1) := by decide +kernel
theorem dL_law_349 : decode code 349 = .ok (.iadd, 1) := by decide +kernel
theorem dL_law_350 : decode code 350 = .ok (.iaload, 1) := by decide +kernel
theorem dL_law_351 : decode code 351 = .ok (.invokevirtual 53, 3) := by decide +kernel
theorem dL_law_354 : decode code 354 = .ok (.if_icmp .eq 153, 3) := by decide +kernel
theorem dL_law_357 : decode code 357 = .ok (.iconst 0, 1) := by decide +kernel
theorem dL_law_358 : decode code 358 = .ok (.ireturn, 1) := by decide +kernel
theorem dL_law_359 : decode code 359 = .ok (.aload_n 1, 1) := by decide +kernel
theorem dL_law_360 : decode code 360 = .ok (.aload_n 0, 1) := by decide +kernel
theorem dL_law_361 : decode code 361 = .ok (.iload_n 3, 1) := by decide +kernel
end
section
theorem dL_law_362 : decode code 362 = .ok (.iconst 1, 1) := by decide +kernel
theorem dL_law_363 : decode code 363 = .ok (.iadd, 1) := by decide +kernel
theorem dL_law_364 : decode code 364 = .ok (.iaload, 1) := by decide +kernel
theorem dL_law_365 : decode code 365 = .ok (.invokevirtual 54, 3) := by decide +kernel
theorem dL_law_368 : decode code 368 = .ok (.aload_n 2, 1) := by decide +kernel
theorem dL_law_369 : decode code 369 = .ok (.aload_n 0, 1) := by decide +kernel
theorem dL_law_370 : decode code 370 = .ok (.iload_n 3, 1) := by decide +kernel
theorem dL_law_371 : decode code 371 = .ok (.iconst 1, 1) := by decide +kernel
theorem dL_law_372 : decode code 372 = .ok (.iadd, 1) := by decide +kernel
theorem dL_law_373 : decode code 373 = .ok (.iaload, 1) := by decide +kernel
theorem dL_law_374 : decode code 374 = .ok (.invokevirtual 57, 3) := by decide +kernel
theorem dL_law_377 : decode code 377 = .ok (.if_icmp .eq 130, 3) := by decide +kernel
theorem dL_law_380 : decode code 380 = .ok (.iconst 0, 1) := by decide +kernel
theorem dL_law_381 : decode code 381 = .ok (.ireturn, 1) := by decide +kernel
theorem dL_law_382 : decode code 382 = .ok (.aload_n 1, 1) := by decide +kernel
theorem dL_law_383 : decode code 383 = .ok (.aload_n 0, 1) := by decide +kernel
theorem dL_law_384 : decode code 384 = .ok (.iload_n 3, 1) := by decide +kernel
theorem dL_law_385 : decode code 385 = .ok (.iconst 1, 1) := by decide +kernel
theorem dL_law_386 : decode code 386 = .ok (.iadd, 1) := by decide +kernel
theorem dL_law_387 : decode code 387 = .ok (.iaload, 1) := by decide +kernel
theorem dL_law_388 : decode code 388 = .ok (.invokevirtual 58, 3) := by decide +kernel
theorem dL_law_391 : decode code 391 = .ok (.aload_n 2, 1) := by decide +kernel
theorem dL_law_392 : decode code 392 = .ok (.aload_n 0, 1) := by decide +kernel
theorem dL_law_393 : decode code 393 = .ok (.iload_n 3, 1) := by decide +kernel
theorem dL_law_394 : decode code 394 = .ok (.iconst 1, 1) := by decide +kernel
theorem dL_law_395 : decode code 395 = .ok (.iadd, 1) := by decide +kernel
theorem dL_law_396 : decode code 396 = .ok (.iaload, 1) := by decide +kernel
theorem dL_law_397 : decode code 397 = .ok (.invokevirtual 61, 3) := by decide +kernel
theorem dL_law_400 : decode code 400 = .ok (.if_icmp .eq 107, 3) := by decide +kernel
theorem dL_law_403 : decode code 403 = .ok (.iconst 0, 1) := by decide +kernel
theorem dL_law_404 : decode code 404 = .ok (.ireturn, 1) := by decide +kernel
theorem dL_law_405 : decode code 405 = .ok (.aload_n 1, 1) := by decide +kernel
theorem dL_law_406 : decode code 406 = .ok (.aload_n 0, 1) := by decide +kernel
theorem dL_law_407 : decode code 407 = .ok (.iload_n 3, 1) := by decide +kernel
theorem dL_law_408 : decode code 408 = .ok (.iconst 1, 1) := by decide +kernel
theorem dL_law_409 : decode code 409 = .ok (.iadd, 1) := by decide +kernel
theorem dL_law_410 : decode code 410 = .ok (.iaload, 1) := by decide +kernel
theorem dL_law_411 : decode code 411 = .ok (.invokevirtual 62, 3) := by decide +kernel
theorem dL_law_414 : decode code 414 = .ok (.aload_n 2, 1) := by decide +kernel
theorem dL_law_415 : decode code 415 = .ok (.aload_n 0, 1) := by decide +kernel
theorem dL_law_416 : decode code 416 = .ok (.iload_n 3, 1) := by decide +kernel
theorem dL_law_417 : decode code 417 = .ok (.iconst 1, 1) := by decide +kernel
theorem dL_law_418 : decode code 418 = .ok (.iadd, 1) := by decide +kernel
theorem dL_law_419 : decode code 419 = .ok (.iaload, 1) := by decide +kernel
theorem dL_law_420 : decode code 420 = .ok (.invokevirtual 65, 3) := by decide +kernel
theorem dL_law_423 : decode code 423 = .ok (.if_icmp .eq 84, 3) := by decide +kernel
theorem dL_law_426 : decode code 426 = .ok (.iconst 0, 1) := by decide +kernel
theorem dL_law_427 : decode code 427 = .ok (.ireturn, 1) := by decide +kernel
theorem dL_law_428 : decode code 428 = .ok (.aload_n 1, 1) := by decide +kernel
theorem dL_law_429 : decode code 429 = .ok (.aload_n 0, 1) := by decide +kernel
theorem dL_law_430 : decode code 430 = .ok (.iload_n 3, 1) := by decide +kernel
theorem dL_law_431 : decode code 431 = .ok (.iconst 1, 1) := by decide +kernel
theorem dL_law_432 : decode code 432 = .ok (.iadd, 1) := by decide +kernel
theorem dL_law_433 : decode code 433 = .ok (.iaload, 1) := by decide +kernel
theorem dL_law_434 : decode code 434 = .ok (.invokevirtual 66, 3) := by decide +kernel
theorem dL_law_437 : decode code 437 = .ok (.aload_n 2, 1) := by decide +kernel
theorem dL_law_438 : decode code 438 = .ok (.aload_n 0, 1) := by decide +kernel
theorem dL_law_439 : decode code 439 = .ok (.iload_n 3, 1) := by decide +kernel
theorem dL_law_440 : decode code 440 = .ok (.iconst 1, 1) := by decide +kernel
theorem dL_law_441 : decode code 441 = .ok (.iadd, 1) := by decide +kernel
theorem dL_law_442 : decode code 442 = .ok (.iaload, 1) := by decide +kernel
theorem dL_law_443 : decode code 443 = .ok (.invokevirtual 69, 3) := by decide +kernel
theorem dL_law_446 : decode code 446 = .ok (.if_icmp .eq 61, 3) := by decide +kernel
theorem dL_law_449 : decode code 449 = .ok (.iconst 0, 1) := by decide +kernel
theorem dL_law_450 : decode code 450 = .ok (.ireturn, 1) := by decide +kernel
theorem dL_law_451 : decode code 451 = .ok (.aload_n 1, 1) := by decide +kernel
theorem dL_law_452 : decode code 452 = .ok (.aload_n 0, 1) := by decide +kernel
theorem dL_law_453 : decode code 453 = .ok (.iload_n 3, 1) := by decide +kernel
theorem dL_law_454 : decode code 454 = .ok (.iconst 1, 1) := by decide +kernel
theorem dL_law_455 : decode code 455 = .ok (.iadd, 1) := by decide +kernel
theorem dL_law_456 : decode code 456 = .ok (.iaload, 1) := by decide +kernel
theorem dL_law_457 : decode code 457 = .ok (.aload_n 0, 1) := by decide +kernel
theorem dL_law_458 : decode code 458 = .ok (.iload_n 3, 1) := by decide +kernel
theorem dL_law_459 : decode code 459 = .ok (.iconst 2, 1) := by decide +kernel
theorem dL_law_460 : decode code 460 = .ok (.iadd, 1) := by decide +kernel
theorem dL_law_461 : decode code 461 = .ok (.iaload, 1) := by decide +kernel
theorem dL_law_462 : decode code 462 = .ok (.invokevirtual 70, 3) := by decide +kernel
theorem dL_law_465 : decode code 465 = .ok (.aload_n 2, 1) := by decide +kernel
theorem dL_law_466 : decode code 466 = .ok (.aload_n 0, 1) := by decide +kernel
theorem dL_law_467 : decode code 467 = .ok (.iload_n 3, 1) := by decide +kernel
theorem dL_law_468 : decode code 468 = .ok (.iconst 1, 1) := by decide +kernel
theorem dL_law_469 : decode code 469 = .ok (.iadd, 1) := by decide +kernel
theorem dL_law_470 : decode code 470 = .ok (.iaload, 1) := by decide +kernel
theorem dL_law_471 : decode code 471 = .ok (.aload_n 0, 1) := by decide +kernel
theorem dL_law_472 : decode code 472 = .ok (.iload_n 3, 1) := by decide +kernel
theorem dL_law_473 : decode code 473 = .ok (.iconst 2, 1) := by decide +kernel
theorem dL_law_474 : decode code 474 = .ok (.iadd, 1) := by decide +kernel
theorem dL_law_475 : decode code 475 = .ok (.iaload, 1) := by decide +kernel
theorem dL_law_476 : decode code 476 = .ok (.invokevirtual 73, 3) := by decide +kernel
theorem dL_law_479 : decode code 479 = .ok (.if_icmp .eq 28, 3) := by decide +kernel
theorem dL_law_482 : decode code 482 = .ok (.iconst 0, 1) := by decide +kernel
theorem dL_law_483 : decode code 483 = .ok (.ireturn, 1) := by decide +kernel
theorem dL_law_484 : decode code 484 = .ok (.aload_n 1, 1) := by decide +kernel
theorem dL_law_485 : decode code 485 = .ok (.aload_n 0, 1) := by decide +kernel
theorem dL_law_486 : decode code 486 = .ok (.iload_n 3, 1) := by decide +kernel
theorem dL_law_487 : decode code 487 = .ok (.iconst 1, 1) := by decide +kernel
theorem dL_law_488 : decode code 488 = .ok (.iadd, 1) := by decide +kernel
theorem dL_law_489 : decode code 489 = .ok (.iaload, 1) := by decide +kernel
theorem dL_law_490 : decode code 490 = .ok (.invokevirtual 74, 3) := by decide +kernel
theorem dL_law_493 : decode code 493 = .ok (.aload_n 2, 1) := by decide +kernel
theorem dL_law_494 : decode code 494 = .ok (.aload_n 0, 1) := by decide +kernel
theorem dL_law_495 : decode code 495 = .ok (.iload_n 3, 1) := by decide +kernel
theorem dL_law_496 : decode code 496 = .ok (.iconst 1, 1) := by decide +kernel
theorem dL_law_497 : decode code 497 = .ok (.iadd, 1) := by decide +kernel
theorem dL_law_498 : decode code 498 = .ok (.iaload, 1) := by decide +kernel
theorem dL_law_499 : decode code 499 = .ok (.invokevirtual 77, 3) := by decide +kernel
theorem dL_law_502 : decode code 502 = .ok (.if_icmp .eq 5, 3) := by decide +kernel
theorem dL_law_505 : decode code 505 = .ok (.iconst 0, 1) := by decide +kernel
theorem dL_law_506 : decode code 506 = .ok (.ireturn, 1) := by decide +kernel
theorem dL_law_507 : decode code 507 = .ok (.iinc 3 4, 3) := by decide +kernel
theorem dL_law_510 : decode code 510 = .ok (.goto (-482), 3) := by decide +kernel
theorem dL_law_513 : decode code 513 = .ok (.iconst 1, 1) := by decide +kernel
theorem dL_law_514 : decode code 514 = .ok (.ireturn, 1) := by decide +kernel
end
section
/-! THE CLAIM OUT OF ONE WALK OF THE LAW'S BODY. Your part is whole_start (and what it stands on); all else here is the same for every law, but numbers. -/
def R_law : String := "SliceHeapLaw"
def lw_P (b : Addr) (xs : List Int32) (args : Array Value) (s : State) : Prop := args = #[.ref b] ∧ s.IntsAt b xs ∧ xs.length ≤ 2049 ∧ (Jvm.Cond.and given_1 narrow_1).before args s = true
def lw_Q (_ : Array Value) (s : State) (o : Outcome) (t : State) : Prop := o = .returned (some (.int 1)) ∧ Framed s o t [] 600000 7302250
def lw_Z (below : List Frame) (a : Array Value) (s : State) : State → Prop := fun t => ∃ o, t.status = .running ∧ Ended t below o ∧ lw_Q a s o t
/-- the law's own end, with 1 on the stack, nothing written that was there before, its room as the claim has it -/
theorem lw_ret {p : Program} {l : Launch} {e : Env} {s : State} {m : MethodId} {below : List Frame} {meth : Method} {c : Code} {b : Nat} (hx : p.tables.exec = Jvm.exec) (hb : c.code = code) (hr : meth.sig.returnType = ret) (hlocks : meth.locks = false) {pc : Nat} {H : Heap} {ls : Array Slot} (hdg : decode code pc = .ok (.ireturn, 1)) : W p l e room_1 s m #[Value.ref b] below meth c H [] 600000 7302250 (lw_Z below #[Value.ref b] s) (F0 m pc ls [.int 1]) := by
  intro T hT X
  obtain ⟨fs, hret, hrun, hended, hW, hframe⟩ := X.leave (v := some (.int 1)) (hlocks := hlocks) (fun h => by rw [hr] at h; cases h)
  have hmeth' : T.vm.method? m = some meth := X.method'
  refine ⟨T.setFrames fs, ?_, .returned (some (.int 1)), hrun, hended, rfl, ⟨_, rfl⟩, hW, hframe⟩
  jvm_step X.here [X.here.top, hx, hb, hdg, hmeth', hr, ret, narrow_b1]
  (try refine ⟨rfl, ?_⟩); (try refine ⟨rfl, ?_⟩)
  first | (intro acts; rw [hret _ acts rfl rfl rfl]) | rw [hret _ _ rfl rfl rfl]
  exact Steps.refl _
/-- what holds at the law's entry: the machine, the code, the tables' words (any of lw_tbl by 'hts w (by decide +kernel)'), the script of L ints xs at the cell b, what the Statement gives of the start (any of its parts by flat_of_before) -/
def lw_At (p : Program) (s : State) (m : MethodId) (meth : Method) (c : Code) (b L : Nat) (xs : Nat → Int32) : Prop :=
  p.tables.exec = Jvm.exec ∧ c.code = code ∧ meth.sig.returnType = ret ∧ c.maxLocals = 4 ∧ s.vm.findClass R_law = some m.cls ∧ (∀ w ∈ lw_tbl, w.before #[Value.ref b] s = true) ∧ va_X b L xs s s.heap ∧ b < s.heap.size ∧ meth.locks = false ∧ (Jvm.Cond.and given_1 narrow_1).before #[Value.ref b] s = true
section LAW
variable {p : Program} {l : Launch} {e : Env} {s : State} {m : MethodId} {below : List Frame} {meth : Method} {c : Code} {D : va_G} {Q : State → Prop} {ws : va_W} {lv : List (Nat × Value)} {pc : Nat} {st : List Value} {cells slots : Nat}
/-- the law's words -/
abbrev wLW : List Cond := .initialized "SliceHeapLaw" :: AL
abbrev aLW (s : State) : Nat → Prop := fun q => s.heap.size ≤ q
theorem gg_sld {tys : List (ClassId × FieldType)} {b L : Nat} {xs : Nat → Int32} (X : gx p s m #[Value.ref b] c code 4 RL wLW D vwCl tys (aLW s)) (hX : va_X b L xs s s.heap) (hbl : b < s.heap.size) (hdg : decode code pc = .ok (.iaload, 1)) {i : Int32} (j : Nat) (hi : i = nI j) (hj : j < L) (hL : L < 2147483648) (k : gg p l e room_1 s m #[Value.ref b] below meth c cells slots Q D vwCl (aLW s) 4 ws lv (pc + 1) (.int (xs j) :: st)) : gg p l e room_1 s m #[Value.ref b] below meth c cells slots Q D vwCl (aLW s) 4 ws lv pc (.int i :: .ref b :: st) := by
  intro H locs ls hP hD hS hl
  subst hi
  refine va_sld X.1 X.2.1 hX hbl (Nat.not_le.mpr hbl) hS (gg_in hj hL) hdg ?_
  rw [nI_clamp (by omega)]
  exact k H locs ls hP hD hS hl
theorem gg_slen {tys : List (ClassId × FieldType)} {b L : Nat} {xs : Nat → Int32} (X : gx p s m #[Value.ref b] c code 4 RL wLW D vwCl tys (aLW s)) (hX : va_X b L xs s s.heap) (hbl : b < s.heap.size) (hdg : decode code pc = .ok (.arraylength, 1)) (k : gg p l e room_1 s m #[Value.ref b] below meth c cells slots Q D vwCl (aLW s) 4 ws lv (pc + 1) (.int (nI L) :: st)) : gg p l e room_1 s m #[Value.ref b] below meth c cells slots Q D vwCl (aLW s) 4 ws lv pc (.ref b :: st) := fun H locs ls hP hD hS hl => va_slen X.1 X.2.1 hX hbl (Nat.not_le.mpr hbl) hS hdg (k H locs ls hP hD hS hl)
/-- an array class by its word -/
theorem arr_at {ty : FieldType} {args : Array Value} {U : State} (h : (Cond.arrayClass ty).before args U = true) (hp : ∀ C, ty ≠ .object C) : ∃ cA : ClassId, ArrOfT U cA ty ∧ va_RA U cA ty := by
  obtain ⟨cA, k, comp, h1, h2, h3⟩ := Cond.arrayClass_spec h
  refine ⟨cA, fun n z => ⟨fun k h => (by cases h), k, h2, comp, h3⟩, ?_⟩
  cases ty with
  | object C => exact absurd rfl (hp C)
  | _ => exact h1
theorem arr_ob {C : String} {U : State} (h : va_AO C U) : ∃ cA : ClassId, ArrOfT U cA (.object C) ∧ va_RA U cA (.object C) := by
  obtain ⟨comp, cA, k, h1, h2, h3, h4, h5⟩ := Cond.arrayOver_spec h
  exact ⟨cA, fun n z => ⟨fun k h => (by cases h), k, h3, comp, h4⟩, k, comp, h3, h4, h1, h5⟩
theorem op_of (x : Int32) : ∃ k : Nat, k < 16 ∧ x &&& 15 = nI k := pk_andE x (m := 15) 4 (by decide)
/-- a loop whose room grows -/
theorem gg_loopC {R : Room} {args : Array Value} {cl : List vw_C} {A : Nat → Prop} {nL : Nat} {ι : Type} (I : ι → Prop) (mu cf sf : ι → Nat) (wf : ι → va_W) (lf : ι → List (Nat × Value)) (step : ∀ a, I a → (∀ b, I b → mu b < mu a → gg p l e R s m args below meth c (cf b) (sf b) Q D cl A nL (wf b) (lf b) pc st) → gg p l e R s m args below meth c (cf a) (sf a) Q D cl A nL (wf a) (lf a) pc st) (a : ι) (h : I a) : gg p l e R s m args below meth c (cf a) (sf a) Q D cl A nL (wf a) (lf a) pc st := by
  have key : ∀ (n : Nat) (a : ι), mu a < n → I a → gg p l e R s m args below meth c (cf a) (sf a) Q D cl A nL (wf a) (lf a) pc st := by
    intro n
    induction n with
    | zero => intro a h1; omega
    | succ n ih => intro a h1 h2; exact step a h2 (fun b hb hm => ih b (by omega) hb)
  exact key (mu a + 1) a (Nat.lt_succ_self _) h
end LAW
set_option maxHeartbeats 4000000 in
set_option maxRecDepth 100000 in
/-- cell(script, 0) -/
theorem k_cell (l : Launch) (b L : Nat) (xs : Nat → Int32) (hL : L < 2147483648) : Met l yL_cell wL_cell ({ frames := 0, cells := 0, slots := 0, locals := 0 }) (va_Pc [.ref b, .int 0] (fun U => va_X b L xs U U.heap ∧ b < U.heap.size)) (QcRead (if L = 0 then 0 else xs 0)) 0 0 (fun _ => False) := by
  refine Met.ofW (cc := cL_cell) (maxL := 2) (ret := (some .int)) (by decide) rfl ?_
  intro p e s m args below meth c s₁ B hml hv
  obtain ⟨rfl, hX, hbl⟩ := hv
  have hx := B.exec
  have hb := B.bytes
  have hr := B.returns
  have hlocks := B.notSynchronized
  have hbA : ¬ (fun q : Nat => s.heap.size ≤ q) b := Nat.not_le.mpr hbl
  have hS : va_S (fun q : Nat => s.heap.size ≤ q) s.heap s.heap [] := va_S.rf
  have hl := lv_entry ([.ref b, .int 0]) (n := 2) (Nat.le_of_ble_eq_true rfl)
  rw [lg_entry_eq]
  generalize (lg_sl ([.ref b, .int 0]) ++ List.replicate (2 - (lg_sl ([.ref b, .int 0])).length) Slot.unset).toArray = ls at hl ⊢
  have hl : lv_has ls 2 [(0, .ref b), (1, .int 0)] := hl
  refine lv_iload_n hx hb dL_cell_0 rfl (lv_at hl 1 rfl) ?_
  refine lv_aload_n hx hb dL_cell_1 rfl (lv_at hl 0 rfl) ?_
  refine va_slen hx hb hX hbl hbA hS dL_cell_2 ?_
  refine lv_icmp_ge (tgt := 12) hx hb dL_cell_3 (by decide) (fun c_3 => ?_) (fun c_3 => ?_)
  · have h0 : L = 0 := by
      have := (nI_leI (a := L) (b := 0) (by omega) (by omega)).mp c_3
      omega
    refine lv_iconst (v := 0) hx hb dL_cell_12 (by decide) ?_
    exact W.iret (v := 0) hx hb hr (fun t ht hW => ⟨by rw [if_pos h0], ht⟩) (fun q h => by cases h) dL_cell_13
  · have h0 : ¬ L = 0 := fun h => c_3 (by rw [h]; decide)
    refine lv_aload_n hx hb dL_cell_6 rfl (lv_at hl 0 rfl) ?_
    refine lv_iload_n hx hb dL_cell_7 rfl (lv_at hl 1 rfl) ?_
    refine va_sld hx hb hX hbl hbA hS (i := 0) (vp_in_nI (n := 0) (N := L) (by omega) (by omega)) dL_cell_8 ?_
    refine lv_goto (tgt := 13) hx hb dL_cell_9 (by decide) ?_
    exact W.iret (v := xs (0 : Int32).toNatClampNeg) hx hb hr (fun t ht hW => ⟨by rw [if_neg h0]; rfl, ht⟩) (fun q h => by cases h) dL_cell_13
section LAW2
variable {p : Program} {l : Launch} {e : Env} {s : State} {m : MethodId} {below : List Frame} {meth : Method} {c : Code} {D : va_G} {Q : State → Prop} {ws : va_W} {lv : List (Nat × Value)} {pc : Nat} {st : List Value} {cells slots : Nat}
theorem gg_cell {tys : List (ClassId × FieldType)} {b L : Nat} {xs : Nat → Int32} (X : gx p s m #[Value.ref b] c code 4 RL wLW D vwCl tys (aLW s)) (hX : va_X b L xs s s.heap) (hbl : b < s.heap.size) (hL : L < 2147483648) (hdg : decode code pc = .ok (.invokestatic 9, 3)) (hst : (st.map fun v => v.category).sum ≤ 8) (hc : cells + 0 ≤ room_1.cells ∧ slots + 0 ≤ room_1.slots) (k : gg p l e room_1 s m #[Value.ref b] below meth c cells slots Q D vwCl (aLW s) 4 ws lv (pc + 3) (.int (if L = 0 then 0 else xs 0) :: st)) : gg p l e room_1 s m #[Value.ref b] below meth c cells slots Q D vwCl (aLW s) 4 ws lv pc (.int 0 :: .ref b :: st) := by
  intro H locs ls hP hD hS hl
  refine W.callR (W.runS (As := [.ref b, .int 0]) (rest := st) ⟨X.1, X.2.1, X.2.2.1, X.2.2.2.1, X.2.2.2.2.1⟩ (k_cell l b L xs hL) (cwS 2 X.2.2.2.2.1 (gdS (al 134 rfl) (al 135 rfl) (al 0 rfl) (al 136 rfl)) rfl rfl rfl (by decide +kernel) ⟨Nat.le_of_ble_eq_true rfl, Nat.le_of_ble_eq_true rfl⟩) ⟨fun a U g mk q => ⟨q.1, va_X.moved (u := U) (U := U.calling g mk a) (Vm.Alike.refl U.vm) q.2.1, q.2.2⟩, fun U hU hW => ⟨rfl, ?_, ?_⟩⟩ rfl rfl hl.1 rfl (lv_room hst) hdg hc) (k H locs ls hP hD hS hl)
  · rw [hU]
    exact (hX.kept (hS.2.1 b hbl (Nat.not_le.mpr hbl))).moved hW.alike
  · rw [hU]
    exact Nat.lt_of_lt_of_le hbl hS.1
end LAW2
end
section
set_option maxHeartbeats 4000000 in
set_option maxRecDepth 100000 in
theorem lc_make {p : Program} {l : Launch} {e : Env} {s : State} {m : MethodId} {below : List Frame} {meth : Method} {c : Code} {D : va_G} {Q : State → Prop} {b L : Nat} {xs : Nat → Int32} {F : CF} {G : DF} (X : gx p s m #[Value.ref b] c code 4 RL wLW D vwCl (cT F ++ dT G) (aLW s)) (hX : va_X b L xs s s.heap) (hbl : b < s.heap.size) (hL : L ≤ 2049) (hCG : dC G = kC F) {u : CS} {t : DS} (hI : Iv F u t) (hM : gM t < 512) {i cells slots : Nat} (hi : i + 4 ≤ L) (hcs : cells + 2 ≤ 600000) (hss : slots + 23 ≤ 7302250)
    (kk : ∀ (u2 : CS) (t2 : DS), Iv F u2 t2 → gM t2 ≤ gM t + 1 → gg p l e room_1 s m #[Value.ref b] below meth c (cells + 2) (slots + 23) Q D vwCl (aLW s) 4 (cW F u2 ++ dW G t2) [(3, .int (nI i)), (2, .ref (dH G)), (1, .ref (kH F)), (0, .ref b)] 507 []) : gg p l e room_1 s m #[Value.ref b] below meth c cells slots Q D vwCl (aLW s) 4 (cW F u ++ dW G t) [(3, .int (nI i)), (2, .ref (dH G)), (1, .ref (kH F)), (0, .ref b)] 108 [] := by
  obtain ⟨rho, hRl, hc, hk⟩ := id hI
  have hC3 : dC G ≤ 3000 := by rw [hCG]; exact hc.2.2.1
  have hKc : va_K D vwCl (cT F) s := X.2.2.2.2.2.1.sub [0, 1] rfl
  have hKd : va_K D vwCl (dT G) s := X.2.2.2.2.2.1.sub [2, 3, 4] rfl
  refine gg_aload_n X dL_law_108 rfl 2 rfl ?_
  refine gg_aload_n X dL_law_109 rfl 3 rfl ?_
  refine gg_iload_n X dL_law_110 rfl 0 rfl ?_
  refine gg_iconst X dL_law_111 (v := nI 1) (by decide) ?_
  refine gg_iadd X dL_law_112 (nI_add _ _) ?_
  refine gg_sld X hX hbl dL_law_113 (i + 1) rfl (by omega) (by omega) ?_
  refine gg_aload_n X dL_law_114 rfl 3 rfl ?_
  refine gg_iload_n X dL_law_115 rfl 0 rfl ?_
  refine gg_iconst X dL_law_116 (v := nI 2) (by decide) ?_
  refine gg_iadd X dL_law_117 (nI_add _ _) ?_
  refine gg_sld X hX hbl dL_law_118 (i + 2) rfl (by omega) (by omega) ?_
  refine gg_aload_n X dL_law_119 rfl 3 rfl ?_
  refine gg_iload_n X dL_law_120 rfl 0 rfl ?_
  refine gg_iconst X dL_law_121 (v := nI 3) (by decide) ?_
  refine gg_iadd X dL_law_122 (nI_add _ _) ?_
  refine gg_sld X hX hbl dL_law_123 (i + 3) rfl (by omega) (by omega) ?_
  refine gc_iL X (gr_V (q0 := 0) X dL_law_124 hKc (k_make l D F u hc (xs (i + 1)) (xs (i + 2)) (xs (i + 3))) (cwV 3 X.2.2.2.2.1 (gdV (al 47 rfl) (al 48 rfl) (al 252 rfl) (al 1 rfl) (al 49 rfl)) rfl rfl rfl (by decide +kernel) ⟨Nat.le_of_ble_eq_true rfl, Nat.le_of_ble_eq_true rfl⟩) rfl rfl rfl rfl rfl (Nat.le_of_ble_eq_true rfl) ⟨by show cells + 2 ≤ 600000; omega, by show slots + 23 ≤ 7302250; omega⟩) (fun x u2 hx => ?_)
  refine gg_aload_n X dL_law_127 rfl 1 rfl ?_
  refine gg_aload_n X dL_law_128 rfl 3 rfl ?_
  refine gg_iload_n X dL_law_129 rfl 0 rfl ?_
  refine gg_iconst X dL_law_130 (v := nI 1) (by decide) ?_
  refine gg_iadd X dL_law_131 (nI_add _ _) ?_
  refine gg_sld X hX hbl dL_law_132 (i + 1) rfl (by omega) (by omega) ?_
  refine gg_aload_n X dL_law_133 rfl 3 rfl ?_
  refine gg_iload_n X dL_law_134 rfl 0 rfl ?_
  refine gg_iconst X dL_law_135 (v := nI 2) (by decide) ?_
  refine gg_iadd X dL_law_136 (nI_add _ _) ?_
  refine gg_sld X hX hbl dL_law_137 (i + 2) rfl (by omega) (by omega) ?_
  refine gg_aload_n X dL_law_138 rfl 3 rfl ?_
  refine gg_iload_n X dL_law_139 rfl 0 rfl ?_
  refine gg_iconst X dL_law_140 (v := nI 3) (by decide) ?_
  refine gg_iadd X dL_law_141 (nI_add _ _) ?_
  refine gg_sld X hX hbl dL_law_142 (i + 3) rfl (by omega) (by omega) ?_
  refine gc_iR X (gr_V (q0 := 0) X dL_law_143 hKd (k_maked l D G t hk hC3 (xs (i + 1)) (xs (i + 2)) (xs (i + 3))) (cwV 3 X.2.2.2.2.1 (gdV (al 162 rfl) (al 163 rfl) (al 265 rfl) (al 4 rfl) (al 164 rfl)) rfl rfl rfl (by decide +kernel) ⟨Nat.le_of_ble_eq_true rfl, Nat.le_of_ble_eq_true rfl⟩) rfl rfl rfl rfl rfl (Nat.le_of_ble_eq_true rfl) ⟨by show cells + 2 + 0 ≤ 600000; omega, by show slots + 23 + 0 ≤ 7302250; omega⟩) (fun y t2 hy => ?_)
  have hop := op_make hM hI hx (by rw [← hCG]; exact hy)
  refine gg_icmp_eq (tgt := 507) X dL_law_146 (by decide) (fun cc => ?_) (fun cc => ?_)
  · refine gg_wide (k := cells + 2) (n := slots + 23) (by show cells + 2 + 0 ≤ cells + 2; omega) (by show slots + 23 + 0 ≤ slots + 23; omega) ?_
    exact kk u2 t2 hop.2 (gm_make hy)
  · exact absurd hop.1 cc
set_option maxHeartbeats 4000000 in
set_option maxRecDepth 100000 in
theorem lc_grow {p : Program} {l : Launch} {e : Env} {s : State} {m : MethodId} {below : List Frame} {meth : Method} {c : Code} {D : va_G} {Q : State → Prop} {b L : Nat} {xs : Nat → Int32} {F : CF} {G : DF} (X : gx p s m #[Value.ref b] c code 4 RL wLW D vwCl (cT F ++ dT G) (aLW s)) (hX : va_X b L xs s s.heap) (hbl : b < s.heap.size) (hL : L ≤ 2049) (hCG : dC G = kC F) {u : CS} {t : DS} (hI : Iv F u t) (hM : gM t < 512) {i cells slots : Nat} (hi : i + 4 ≤ L) (hcs : cells + 2 ≤ 600000) (hss : slots + 23 ≤ 7302250)
    (kk : ∀ (u2 : CS) (t2 : DS), Iv F u2 t2 → gM t2 ≤ gM t + 1 → gg p l e room_1 s m #[Value.ref b] below meth c (cells + 2) (slots + 23) Q D vwCl (aLW s) 4 (cW F u2 ++ dW G t2) [(3, .int (nI i)), (2, .ref (dH G)), (1, .ref (kH F)), (0, .ref b)] 507 []) : gg p l e room_1 s m #[Value.ref b] below meth c cells slots Q D vwCl (aLW s) 4 (cW F u ++ dW G t) [(3, .int (nI i)), (2, .ref (dH G)), (1, .ref (kH F)), (0, .ref b)] 151 [] := by
  obtain ⟨rho, hRl, hc, hk⟩ := id hI
  have hC3 : dC G ≤ 3000 := by rw [hCG]; exact hc.2.2.1
  have hKc : va_K D vwCl (cT F) s := X.2.2.2.2.2.1.sub [0, 1] rfl
  have hKd : va_K D vwCl (dT G) s := X.2.2.2.2.2.1.sub [2, 3, 4] rfl
  refine gg_aload_n X dL_law_151 rfl 2 rfl ?_
  refine gg_aload_n X dL_law_152 rfl 3 rfl ?_
  refine gg_iload_n X dL_law_153 rfl 0 rfl ?_
  refine gg_iconst X dL_law_154 (v := nI 1) (by decide) ?_
  refine gg_iadd X dL_law_155 (nI_add _ _) ?_
  refine gg_sld X hX hbl dL_law_156 (i + 1) rfl (by omega) (by omega) ?_
  refine gg_aload_n X dL_law_157 rfl 3 rfl ?_
  refine gg_iload_n X dL_law_158 rfl 0 rfl ?_
  refine gg_iconst X dL_law_159 (v := nI 2) (by decide) ?_
  refine gg_iadd X dL_law_160 (nI_add _ _) ?_
  refine gg_sld X hX hbl dL_law_161 (i + 2) rfl (by omega) (by omega) ?_
  refine gc_iL X (gr_V (q0 := 0) X dL_law_162 hKc (k_grow l D F u hc (xs (i + 1)) (xs (i + 2))) (cwV 2 X.2.2.2.2.1 (gdV (al 93 rfl) (al 94 rfl) (al 253 rfl) (al 1 rfl) (al 95 rfl)) rfl rfl rfl (by decide +kernel) ⟨Nat.le_of_ble_eq_true rfl, Nat.le_of_ble_eq_true rfl⟩) rfl rfl rfl rfl rfl (Nat.le_of_ble_eq_true rfl) ⟨by show cells + 0 ≤ 600000; omega, by show slots + 0 ≤ 7302250; omega⟩) (fun x u2 hx => ?_)
  refine gg_aload_n X dL_law_165 rfl 1 rfl ?_
  refine gg_aload_n X dL_law_166 rfl 3 rfl ?_
  refine gg_iload_n X dL_law_167 rfl 0 rfl ?_
  refine gg_iconst X dL_law_168 (v := nI 1) (by decide) ?_
  refine gg_iadd X dL_law_169 (nI_add _ _) ?_
  refine gg_sld X hX hbl dL_law_170 (i + 1) rfl (by omega) (by omega) ?_
  refine gg_aload_n X dL_law_171 rfl 3 rfl ?_
  refine gg_iload_n X dL_law_172 rfl 0 rfl ?_
  refine gg_iconst X dL_law_173 (v := nI 2) (by decide) ?_
  refine gg_iadd X dL_law_174 (nI_add _ _) ?_
  refine gg_sld X hX hbl dL_law_175 (i + 2) rfl (by omega) (by omega) ?_
  refine gc_iR X (gr_V (q0 := 0) X dL_law_176 hKd (k_growd l D G t hk hC3 (xs (i + 1)) (xs (i + 2))) (cwV 2 X.2.2.2.2.1 (gdV (al 186 rfl) (al 187 rfl) (al 266 rfl) (al 4 rfl) (al 188 rfl)) rfl rfl rfl (by decide +kernel) ⟨Nat.le_of_ble_eq_true rfl, Nat.le_of_ble_eq_true rfl⟩) rfl rfl rfl rfl rfl (Nat.le_of_ble_eq_true rfl) ⟨by show cells + 0 + 0 ≤ 600000; omega, by show slots + 0 + 0 ≤ 7302250; omega⟩) (fun y t2 hy => ?_)
  have hop := op_grow hI hx (by rw [← hCG]; exact hy)
  refine gg_icmp_eq (tgt := 507) X dL_law_179 (by decide) (fun cc => ?_) (fun cc => ?_)
  · refine gg_wide (k := cells + 2) (n := slots + 23) (by show cells + 0 + 0 ≤ cells + 2; omega) (by show slots + 0 + 0 ≤ slots + 23; omega) ?_
    exact kk u2 t2 hop.2 (gm_grow hy)
  · exact absurd hop.1 cc
set_option maxHeartbeats 4000000 in
set_option maxRecDepth 100000 in
theorem lc_shrink {p : Program} {l : Launch} {e : Env} {s : State} {m : MethodId} {below : List Frame} {meth : Method} {c : Code} {D : va_G} {Q : State → Prop} {b L : Nat} {xs : Nat → Int32} {F : CF} {G : DF} (X : gx p s m #[Value.ref b] c code 4 RL wLW D vwCl (cT F ++ dT G) (aLW s)) (hX : va_X b L xs s s.heap) (hbl : b < s.heap.size) (hL : L ≤ 2049) (hCG : dC G = kC F) {u : CS} {t : DS} (hI : Iv F u t) (hM : gM t < 512) {i cells slots : Nat} (hi : i + 4 ≤ L) (hcs : cells + 2 ≤ 600000) (hss : slots + 23 ≤ 7302250)
    (kk : ∀ (u2 : CS) (t2 : DS), Iv F u2 t2 → gM t2 ≤ gM t + 1 → gg p l e room_1 s m #[Value.ref b] below meth c (cells + 2) (slots + 23) Q D vwCl (aLW s) 4 (cW F u2 ++ dW G t2) [(3, .int (nI i)), (2, .ref (dH G)), (1, .ref (kH F)), (0, .ref b)] 507 []) : gg p l e room_1 s m #[Value.ref b] below meth c cells slots Q D vwCl (aLW s) 4 (cW F u ++ dW G t) [(3, .int (nI i)), (2, .ref (dH G)), (1, .ref (kH F)), (0, .ref b)] 184 [] := by
  obtain ⟨rho, hRl, hc, hk⟩ := id hI
  have hC3 : dC G ≤ 3000 := by rw [hCG]; exact hc.2.2.1
  have hKc : va_K D vwCl (cT F) s := X.2.2.2.2.2.1.sub [0, 1] rfl
  have hKd : va_K D vwCl (dT G) s := X.2.2.2.2.2.1.sub [2, 3, 4] rfl
  refine gg_aload_n X dL_law_184 rfl 2 rfl ?_
  refine gg_aload_n X dL_law_185 rfl 3 rfl ?_
  refine gg_iload_n X dL_law_186 rfl 0 rfl ?_
  refine gg_iconst X dL_law_187 (v := nI 1) (by decide) ?_
  refine gg_iadd X dL_law_188 (nI_add _ _) ?_
  refine gg_sld X hX hbl dL_law_189 (i + 1) rfl (by omega) (by omega) ?_
  refine gc_iL X (gr_V (q0 := 0) X dL_law_190 hKc (k_shrink l D F u hc (xs (i + 1))) (cwV 1 X.2.2.2.2.1 (gdV (al 99 rfl) (al 100 rfl) (al 254 rfl) (al 1 rfl) (al 101 rfl)) rfl rfl rfl (by decide +kernel) ⟨Nat.le_of_ble_eq_true rfl, Nat.le_of_ble_eq_true rfl⟩) rfl rfl rfl rfl rfl (Nat.le_of_ble_eq_true rfl) ⟨by show cells + 0 ≤ 600000; omega, by show slots + 0 ≤ 7302250; omega⟩) (fun x u2 hx => ?_)
  refine gg_aload_n X dL_law_193 rfl 1 rfl ?_
  refine gg_aload_n X dL_law_194 rfl 3 rfl ?_
  refine gg_iload_n X dL_law_195 rfl 0 rfl ?_
  refine gg_iconst X dL_law_196 (v := nI 1) (by decide) ?_
  refine gg_iadd X dL_law_197 (nI_add _ _) ?_
  refine gg_sld X hX hbl dL_law_198 (i + 1) rfl (by omega) (by omega) ?_
  refine gc_iR X (gr_V (q0 := 0) X dL_law_199 hKd (k_shrinkd l D G t hk (xs (i + 1))) (cwV 1 X.2.2.2.2.1 (gdV (al 192 rfl) (al 193 rfl) (al 267 rfl) (al 4 rfl) (al 194 rfl)) rfl rfl rfl (by decide +kernel) ⟨Nat.le_of_ble_eq_true rfl, Nat.le_of_ble_eq_true rfl⟩) rfl rfl rfl rfl rfl (Nat.le_of_ble_eq_true rfl) ⟨by show cells + 0 + 0 ≤ 600000; omega, by show slots + 0 + 0 ≤ 7302250; omega⟩) (fun y t2 hy => ?_)
  have hop := op_shr hI hx hy
  refine gg_icmp_eq (tgt := 507) X dL_law_202 (by decide) (fun cc => ?_) (fun cc => ?_)
  · refine gg_wide (k := cells + 2) (n := slots + 23) (by show cells + 0 + 0 ≤ cells + 2; omega) (by show slots + 0 + 0 ≤ slots + 23; omega) ?_
    exact kk u2 t2 hop.2 (gm_shr hy)
  · exact absurd hop.1 cc
set_option maxHeartbeats 4000000 in
set_option maxRecDepth 100000 in
theorem lc_number {p : Program} {l : Launch} {e : Env} {s : State} {m : MethodId} {below : List Frame} {meth : Method} {c : Code} {D : va_G} {Q : State → Prop} {b L : Nat} {xs : Nat → Int32} {F : CF} {G : DF} (X : gx p s m #[Value.ref b] c code 4 RL wLW D vwCl (cT F ++ dT G) (aLW s)) (hX : va_X b L xs s s.heap) (hbl : b < s.heap.size) (hL : L ≤ 2049) (hCG : dC G = kC F) {u : CS} {t : DS} (hI : Iv F u t) (hM : gM t < 512) {i cells slots : Nat} (hi : i + 4 ≤ L) (hcs : cells + 2 ≤ 600000) (hss : slots + 23 ≤ 7302250)
    (kk : ∀ (u2 : CS) (t2 : DS), Iv F u2 t2 → gM t2 ≤ gM t + 1 → gg p l e room_1 s m #[Value.ref b] below meth c (cells + 2) (slots + 23) Q D vwCl (aLW s) 4 (cW F u2 ++ dW G t2) [(3, .int (nI i)), (2, .ref (dH G)), (1, .ref (kH F)), (0, .ref b)] 507 []) : gg p l e room_1 s m #[Value.ref b] below meth c cells slots Q D vwCl (aLW s) 4 (cW F u ++ dW G t) [(3, .int (nI i)), (2, .ref (dH G)), (1, .ref (kH F)), (0, .ref b)] 207 [] := by
  obtain ⟨rho, hRl, hc, hk⟩ := id hI
  have hC3 : dC G ≤ 3000 := by rw [hCG]; exact hc.2.2.1
  have hKc : va_K D vwCl (cT F) s := X.2.2.2.2.2.1.sub [0, 1] rfl
  have hKd : va_K D vwCl (dT G) s := X.2.2.2.2.2.1.sub [2, 3, 4] rfl
  refine gg_aload_n X dL_law_207 rfl 2 rfl ?_
  refine gg_aload_n X dL_law_208 rfl 3 rfl ?_
  refine gg_iload_n X dL_law_209 rfl 0 rfl ?_
  refine gg_iconst X dL_law_210 (v := nI 1) (by decide) ?_
  refine gg_iadd X dL_law_211 (nI_add _ _) ?_
  refine gg_sld X hX hbl dL_law_212 (i + 1) rfl (by omega) (by omega) ?_
  refine gg_aload_n X dL_law_213 rfl 3 rfl ?_
  refine gg_iload_n X dL_law_214 rfl 0 rfl ?_
  refine gg_iconst X dL_law_215 (v := nI 2) (by decide) ?_
  refine gg_iadd X dL_law_216 (nI_add _ _) ?_
  refine gg_sld X hX hbl dL_law_217 (i + 2) rfl (by omega) (by omega) ?_
  refine gc_iL X (gr_V (q0 := 0) X dL_law_218 hKc (k_number l D F u (xs (i + 1)) (xs (i + 2))) (cwV 2 X.2.2.2.2.1 (gdV (al 102 rfl) (al 103 rfl) (al 255 rfl) (al 1 rfl) (al 104 rfl)) rfl rfl rfl (by decide +kernel) ⟨Nat.le_of_ble_eq_true rfl, Nat.le_of_ble_eq_true rfl⟩) rfl rfl rfl rfl rfl (Nat.le_of_ble_eq_true rfl) ⟨by show cells + 0 ≤ 600000; omega, by show slots + 0 ≤ 7302250; omega⟩) (fun x u2 hx => ?_)
  refine gg_aload_n X dL_law_221 rfl 1 rfl ?_
  refine gg_aload_n X dL_law_222 rfl 3 rfl ?_
  refine gg_iload_n X dL_law_223 rfl 0 rfl ?_
  refine gg_iconst X dL_law_224 (v := nI 1) (by decide) ?_
  refine gg_iadd X dL_law_225 (nI_add _ _) ?_
  refine gg_sld X hX hbl dL_law_226 (i + 1) rfl (by omega) (by omega) ?_
  refine gg_aload_n X dL_law_227 rfl 3 rfl ?_
  refine gg_iload_n X dL_law_228 rfl 0 rfl ?_
  refine gg_iconst X dL_law_229 (v := nI 2) (by decide) ?_
  refine gg_iadd X dL_law_230 (nI_add _ _) ?_
  refine gg_sld X hX hbl dL_law_231 (i + 2) rfl (by omega) (by omega) ?_
  refine gc_iR X (gr_V (q0 := 0) X dL_law_232 hKd (k_numberd l D G t (xs (i + 1)) (xs (i + 2))) (cwV 2 X.2.2.2.2.1 (gdV (al 198 rfl) (al 199 rfl) (al 268 rfl) (al 4 rfl) (al 200 rfl)) rfl rfl rfl (by decide +kernel) ⟨Nat.le_of_ble_eq_true rfl, Nat.le_of_ble_eq_true rfl⟩) rfl rfl rfl rfl rfl (Nat.le_of_ble_eq_true rfl) ⟨by show cells + 0 + 0 ≤ 600000; omega, by show slots + 0 + 0 ≤ 7302250; omega⟩) (fun y t2 hy => ?_)
  have hop := op_num hI hx hy
  refine gg_icmp_eq (tgt := 507) X dL_law_235 (by decide) (fun cc => ?_) (fun cc => ?_)
  · refine gg_wide (k := cells + 2) (n := slots + 23) (by show cells + 0 + 0 ≤ cells + 2; omega) (by show slots + 0 + 0 ≤ slots + 23; omega) ?_
    exact kk u2 t2 hop.2 (gm_num hy)
  · exact absurd hop.1 cc
set_option maxHeartbeats 4000000 in
set_option maxRecDepth 100000 in
theorem lc_copy {p : Program} {l : Launch} {e : Env} {s : State} {m : MethodId} {below : List Frame} {meth : Method} {c : Code} {D : va_G} {Q : State → Prop} {b L : Nat} {xs : Nat → Int32} {F : CF} {G : DF} (X : gx p s m #[Value.ref b] c code 4 RL wLW D vwCl (cT F ++ dT G) (aLW s)) (hX : va_X b L xs s s.heap) (hbl : b < s.heap.size) (hL : L ≤ 2049) (hCG : dC G = kC F) {u : CS} {t : DS} (hI : Iv F u t) (hM : gM t < 512) {i cells slots : Nat} (hi : i + 4 ≤ L) (hcs : cells + 2 ≤ 600000) (hss : slots + 23 ≤ 7302250)
    (kk : ∀ (u2 : CS) (t2 : DS), Iv F u2 t2 → gM t2 ≤ gM t + 1 → gg p l e room_1 s m #[Value.ref b] below meth c (cells + 2) (slots + 23) Q D vwCl (aLW s) 4 (cW F u2 ++ dW G t2) [(3, .int (nI i)), (2, .ref (dH G)), (1, .ref (kH F)), (0, .ref b)] 507 []) : gg p l e room_1 s m #[Value.ref b] below meth c cells slots Q D vwCl (aLW s) 4 (cW F u ++ dW G t) [(3, .int (nI i)), (2, .ref (dH G)), (1, .ref (kH F)), (0, .ref b)] 240 [] := by
  obtain ⟨rho, hRl, hc, hk⟩ := id hI
  have hC3 : dC G ≤ 3000 := by rw [hCG]; exact hc.2.2.1
  have hKc : va_K D vwCl (cT F) s := X.2.2.2.2.2.1.sub [0, 1] rfl
  have hKd : va_K D vwCl (dT G) s := X.2.2.2.2.2.1.sub [2, 3, 4] rfl
  refine gg_aload_n X dL_law_240 rfl 2 rfl ?_
  refine gg_aload_n X dL_law_241 rfl 3 rfl ?_
  refine gg_iload_n X dL_law_242 rfl 0 rfl ?_
  refine gg_iconst X dL_law_243 (v := nI 1) (by decide) ?_
  refine gg_iadd X dL_law_244 (nI_add _ _) ?_
  refine gg_sld X hX hbl dL_law_245 (i + 1) rfl (by omega) (by omega) ?_
  refine gg_aload_n X dL_law_246 rfl 3 rfl ?_
  refine gg_iload_n X dL_law_247 rfl 0 rfl ?_
  refine gg_iconst X dL_law_248 (v := nI 2) (by decide) ?_
  refine gg_iadd X dL_law_249 (nI_add _ _) ?_
  refine gg_sld X hX hbl dL_law_250 (i + 2) rfl (by omega) (by omega) ?_
  refine gc_iL X (gr_V (q0 := 0) X dL_law_251 hKc (k_copy l D F u (xs (i + 1)) (xs (i + 2))) (cwV 2 X.2.2.2.2.1 (gdV (al 105 rfl) (al 106 rfl) (al 256 rfl) (al 1 rfl) (al 107 rfl)) rfl rfl rfl (by decide +kernel) ⟨Nat.le_of_ble_eq_true rfl, Nat.le_of_ble_eq_true rfl⟩) rfl rfl rfl rfl rfl (Nat.le_of_ble_eq_true rfl) ⟨by show cells + 0 ≤ 600000; omega, by show slots + 0 ≤ 7302250; omega⟩) (fun x u2 hx => ?_)
  refine gg_aload_n X dL_law_254 rfl 1 rfl ?_
  refine gg_aload_n X dL_law_255 rfl 3 rfl ?_
  refine gg_iload_n X dL_law_256 rfl 0 rfl ?_
  refine gg_iconst X dL_law_257 (v := nI 1) (by decide) ?_
  refine gg_iadd X dL_law_258 (nI_add _ _) ?_
  refine gg_sld X hX hbl dL_law_259 (i + 1) rfl (by omega) (by omega) ?_
  refine gg_aload_n X dL_law_260 rfl 3 rfl ?_
  refine gg_iload_n X dL_law_261 rfl 0 rfl ?_
  refine gg_iconst X dL_law_262 (v := nI 2) (by decide) ?_
  refine gg_iadd X dL_law_263 (nI_add _ _) ?_
  refine gg_sld X hX hbl dL_law_264 (i + 2) rfl (by omega) (by omega) ?_
  refine gc_iR X (gr_V (q0 := 0) X dL_law_265 hKd (k_copyd l D G t hk (xs (i + 1)) (xs (i + 2))) (cwV 2 X.2.2.2.2.1 (gdV (al 201 rfl) (al 202 rfl) (al 269 rfl) (al 4 rfl) (al 203 rfl)) rfl rfl rfl (by decide +kernel) ⟨Nat.le_of_ble_eq_true rfl, Nat.le_of_ble_eq_true rfl⟩) rfl rfl rfl rfl rfl (Nat.le_of_ble_eq_true rfl) ⟨by show cells + 0 + 0 ≤ 600000; omega, by show slots + 0 + 0 ≤ 7302250; omega⟩) (fun y t2 hy => ?_)
  have hop := op_copy hI hx hy
  refine gg_icmp_eq (tgt := 507) X dL_law_268 (by decide) (fun cc => ?_) (fun cc => ?_)
  · refine gg_wide (k := cells + 2) (n := slots + 23) (by show cells + 0 + 0 ≤ cells + 2; omega) (by show slots + 0 + 0 ≤ slots + 23; omega) ?_
    exact kk u2 t2 hop.2 (gm_copy hy)
  · exact absurd hop.1 cc
set_option maxHeartbeats 4000000 in
set_option maxRecDepth 100000 in
theorem lc_get {p : Program} {l : Launch} {e : Env} {s : State} {m : MethodId} {below : List Frame} {meth : Method} {c : Code} {D : va_G} {Q : State → Prop} {b L : Nat} {xs : Nat → Int32} {F : CF} {G : DF} (X : gx p s m #[Value.ref b] c code 4 RL wLW D vwCl (cT F ++ dT G) (aLW s)) (hX : va_X b L xs s s.heap) (hbl : b < s.heap.size) (hL : L ≤ 2049) (hCG : dC G = kC F) {u : CS} {t : DS} (hI : Iv F u t) (hM : gM t < 512) {i cells slots : Nat} (hi : i + 4 ≤ L) (hcs : cells + 2 ≤ 600000) (hss : slots + 23 ≤ 7302250)
    (kk : ∀ (u2 : CS) (t2 : DS), Iv F u2 t2 → gM t2 ≤ gM t + 1 → gg p l e room_1 s m #[Value.ref b] below meth c (cells + 2) (slots + 23) Q D vwCl (aLW s) 4 (cW F u2 ++ dW G t2) [(3, .int (nI i)), (2, .ref (dH G)), (1, .ref (kH F)), (0, .ref b)] 507 []) : gg p l e room_1 s m #[Value.ref b] below meth c cells slots Q D vwCl (aLW s) 4 (cW F u ++ dW G t) [(3, .int (nI i)), (2, .ref (dH G)), (1, .ref (kH F)), (0, .ref b)] 273 [] := by
  obtain ⟨rho, hRl, hc, hk⟩ := id hI
  have hC3 : dC G ≤ 3000 := by rw [hCG]; exact hc.2.2.1
  have hKc : va_K D vwCl (cT F) s := X.2.2.2.2.2.1.sub [0, 1] rfl
  have hKd : va_K D vwCl (dT G) s := X.2.2.2.2.2.1.sub [2, 3, 4] rfl
  refine gg_aload_n X dL_law_273 rfl 2 rfl ?_
  refine gg_aload_n X dL_law_274 rfl 3 rfl ?_
  refine gg_iload_n X dL_law_275 rfl 0 rfl ?_
  refine gg_iconst X dL_law_276 (v := nI 1) (by decide) ?_
  refine gg_iadd X dL_law_277 (nI_add _ _) ?_
  refine gg_sld X hX hbl dL_law_278 (i + 1) rfl (by omega) (by omega) ?_
  refine gg_aload_n X dL_law_279 rfl 3 rfl ?_
  refine gg_iload_n X dL_law_280 rfl 0 rfl ?_
  refine gg_iconst X dL_law_281 (v := nI 2) (by decide) ?_
  refine gg_iadd X dL_law_282 (nI_add _ _) ?_
  refine gg_sld X hX hbl dL_law_283 (i + 2) rfl (by omega) (by omega) ?_
  refine gg_aload_n X dL_law_284 rfl 3 rfl ?_
  refine gg_iload_n X dL_law_285 rfl 0 rfl ?_
  refine gg_iconst X dL_law_286 (v := nI 3) (by decide) ?_
  refine gg_iadd X dL_law_287 (nI_add _ _) ?_
  refine gg_sld X hX hbl dL_law_288 (i + 3) rfl (by omega) (by omega) ?_
  refine gc_iL X (gr_V (q0 := 0) X dL_law_289 hKc (k_get l D F u hc (xs (i + 1)) (xs (i + 2)) (xs (i + 3))) (cwV 3 X.2.2.2.2.1 (gdV (al 108 rfl) (al 109 rfl) (al 257 rfl) (al 1 rfl) (al 110 rfl)) rfl rfl rfl (by decide +kernel) ⟨Nat.le_of_ble_eq_true rfl, Nat.le_of_ble_eq_true rfl⟩) rfl rfl rfl rfl rfl (Nat.le_of_ble_eq_true rfl) ⟨by show cells + 0 ≤ 600000; omega, by show slots + 0 ≤ 7302250; omega⟩) (fun x u2 hx => ?_)
  refine gg_aload_n X dL_law_292 rfl 1 rfl ?_
  refine gg_aload_n X dL_law_293 rfl 3 rfl ?_
  refine gg_iload_n X dL_law_294 rfl 0 rfl ?_
  refine gg_iconst X dL_law_295 (v := nI 1) (by decide) ?_
  refine gg_iadd X dL_law_296 (nI_add _ _) ?_
  refine gg_sld X hX hbl dL_law_297 (i + 1) rfl (by omega) (by omega) ?_
  refine gg_aload_n X dL_law_298 rfl 3 rfl ?_
  refine gg_iload_n X dL_law_299 rfl 0 rfl ?_
  refine gg_iconst X dL_law_300 (v := nI 2) (by decide) ?_
  refine gg_iadd X dL_law_301 (nI_add _ _) ?_
  refine gg_sld X hX hbl dL_law_302 (i + 2) rfl (by omega) (by omega) ?_
  refine gg_aload_n X dL_law_303 rfl 3 rfl ?_
  refine gg_iload_n X dL_law_304 rfl 0 rfl ?_
  refine gg_iconst X dL_law_305 (v := nI 3) (by decide) ?_
  refine gg_iadd X dL_law_306 (nI_add _ _) ?_
  refine gg_sld X hX hbl dL_law_307 (i + 3) rfl (by omega) (by omega) ?_
  refine gc_iR X (gr_V (q0 := 0) X dL_law_308 hKd (k_getd l D G t hk (xs (i + 1)) (xs (i + 2)) (xs (i + 3))) (cwV 3 X.2.2.2.2.1 (gdV (al 204 rfl) (al 205 rfl) (al 270 rfl) (al 4 rfl) (al 206 rfl)) rfl rfl rfl (by decide +kernel) ⟨Nat.le_of_ble_eq_true rfl, Nat.le_of_ble_eq_true rfl⟩) rfl rfl rfl rfl rfl (Nat.le_of_ble_eq_true rfl) ⟨by show cells + 0 + 0 ≤ 600000; omega, by show slots + 0 + 0 ≤ 7302250; omega⟩) (fun y t2 hy => ?_)
  have hop := op_get hI hx hy
  refine gg_icmp_eq (tgt := 507) X dL_law_311 (by decide) (fun cc => ?_) (fun cc => ?_)
  · refine gg_wide (k := cells + 2) (n := slots + 23) (by show cells + 0 + 0 ≤ cells + 2; omega) (by show slots + 0 + 0 ≤ slots + 23; omega) ?_
    exact kk u2 t2 hop.2 (gm_get hy)
  · exact absurd hop.1 cc
set_option maxHeartbeats 4000000 in
set_option maxRecDepth 100000 in
theorem lc_set {p : Program} {l : Launch} {e : Env} {s : State} {m : MethodId} {below : List Frame} {meth : Method} {c : Code} {D : va_G} {Q : State → Prop} {b L : Nat} {xs : Nat → Int32} {F : CF} {G : DF} (X : gx p s m #[Value.ref b] c code 4 RL wLW D vwCl (cT F ++ dT G) (aLW s)) (hX : va_X b L xs s s.heap) (hbl : b < s.heap.size) (hL : L ≤ 2049) (hCG : dC G = kC F) {u : CS} {t : DS} (hI : Iv F u t) (hM : gM t < 512) {i cells slots : Nat} (hi : i + 4 ≤ L) (hcs : cells + 2 ≤ 600000) (hss : slots + 23 ≤ 7302250)
    (kk : ∀ (u2 : CS) (t2 : DS), Iv F u2 t2 → gM t2 ≤ gM t + 1 → gg p l e room_1 s m #[Value.ref b] below meth c (cells + 2) (slots + 23) Q D vwCl (aLW s) 4 (cW F u2 ++ dW G t2) [(3, .int (nI i)), (2, .ref (dH G)), (1, .ref (kH F)), (0, .ref b)] 507 []) : gg p l e room_1 s m #[Value.ref b] below meth c cells slots Q D vwCl (aLW s) 4 (cW F u ++ dW G t) [(3, .int (nI i)), (2, .ref (dH G)), (1, .ref (kH F)), (0, .ref b)] 316 [] := by
  obtain ⟨rho, hRl, hc, hk⟩ := id hI
  have hC3 : dC G ≤ 3000 := by rw [hCG]; exact hc.2.2.1
  have hKc : va_K D vwCl (cT F) s := X.2.2.2.2.2.1.sub [0, 1] rfl
  have hKd : va_K D vwCl (dT G) s := X.2.2.2.2.2.1.sub [2, 3, 4] rfl
  refine gg_aload_n X dL_law_316 rfl 2 rfl ?_
  refine gg_aload_n X dL_law_317 rfl 3 rfl ?_
  refine gg_iload_n X dL_law_318 rfl 0 rfl ?_
  refine gg_iconst X dL_law_319 (v := nI 1) (by decide) ?_
  refine gg_iadd X dL_law_320 (nI_add _ _) ?_
  refine gg_sld X hX hbl dL_law_321 (i + 1) rfl (by omega) (by omega) ?_
  refine gg_aload_n X dL_law_322 rfl 3 rfl ?_
  refine gg_iload_n X dL_law_323 rfl 0 rfl ?_
  refine gg_iconst X dL_law_324 (v := nI 2) (by decide) ?_
  refine gg_iadd X dL_law_325 (nI_add _ _) ?_
  refine gg_sld X hX hbl dL_law_326 (i + 2) rfl (by omega) (by omega) ?_
  refine gg_aload_n X dL_law_327 rfl 3 rfl ?_
  refine gg_iload_n X dL_law_328 rfl 0 rfl ?_
  refine gg_iconst X dL_law_329 (v := nI 3) (by decide) ?_
  refine gg_iadd X dL_law_330 (nI_add _ _) ?_
  refine gg_sld X hX hbl dL_law_331 (i + 3) rfl (by omega) (by omega) ?_
  refine gc_iL X (gr_V (q0 := 0) X dL_law_332 hKc (k_set l D F u hc (xs (i + 1)) (xs (i + 2)) (xs (i + 3))) (cwV 3 X.2.2.2.2.1 (gdV (al 113 rfl) (al 114 rfl) (al 258 rfl) (al 1 rfl) (al 115 rfl)) rfl rfl rfl (by decide +kernel) ⟨Nat.le_of_ble_eq_true rfl, Nat.le_of_ble_eq_true rfl⟩) rfl rfl rfl rfl rfl (Nat.le_of_ble_eq_true rfl) ⟨by show cells + 0 ≤ 600000; omega, by show slots + 0 ≤ 7302250; omega⟩) (fun x u2 hx => ?_)
  refine gg_aload_n X dL_law_335 rfl 1 rfl ?_
  refine gg_aload_n X dL_law_336 rfl 3 rfl ?_
  refine gg_iload_n X dL_law_337 rfl 0 rfl ?_
  refine gg_iconst X dL_law_338 (v := nI 1) (by decide) ?_
  refine gg_iadd X dL_law_339 (nI_add _ _) ?_
  refine gg_sld X hX hbl dL_law_340 (i + 1) rfl (by omega) (by omega) ?_
  refine gg_aload_n X dL_law_341 rfl 3 rfl ?_
  refine gg_iload_n X dL_law_342 rfl 0 rfl ?_
  refine gg_iconst X dL_law_343 (v := nI 2) (by decide) ?_
  refine gg_iadd X dL_law_344 (nI_add _ _) ?_
  refine gg_sld X hX hbl dL_law_345 (i + 2) rfl (by omega) (by omega) ?_
  refine gg_aload_n X dL_law_346 rfl 3 rfl ?_
  refine gg_iload_n X dL_law_347 rfl 0 rfl ?_
  refine gg_iconst X dL_law_348 (v := nI 3) (by decide) ?_
  refine gg_iadd X dL_law_349 (nI_add _ _) ?_
  refine gg_sld X hX hbl dL_law_350 (i + 3) rfl (by omega) (by omega) ?_
  refine gc_iR X (gr_V (q0 := 0) X dL_law_351 hKd (k_setd l D G t hk (xs (i + 1)) (xs (i + 2)) (xs (i + 3))) (cwV 3 X.2.2.2.2.1 (gdV (al 210 rfl) (al 211 rfl) (al 271 rfl) (al 4 rfl) (al 212 rfl)) rfl rfl rfl (by decide +kernel) ⟨Nat.le_of_ble_eq_true rfl, Nat.le_of_ble_eq_true rfl⟩) rfl rfl rfl rfl rfl (Nat.le_of_ble_eq_true rfl) ⟨by show cells + 0 + 0 ≤ 600000; omega, by show slots + 0 + 0 ≤ 7302250; omega⟩) (fun y t2 hy => ?_)
  have hop := op_set hI hx hy
  refine gg_icmp_eq (tgt := 507) X dL_law_354 (by decide) (fun cc => ?_) (fun cc => ?_)
  · refine gg_wide (k := cells + 2) (n := slots + 23) (by show cells + 0 + 0 ≤ cells + 2; omega) (by show slots + 0 + 0 ≤ slots + 23; omega) ?_
    exact kk u2 t2 hop.2 (gm_set hy)
  · exact absurd hop.1 cc
set_option maxHeartbeats 4000000 in
set_option maxRecDepth 100000 in
theorem lc_push {p : Program} {l : Launch} {e : Env} {s : State} {m : MethodId} {below : List Frame} {meth : Method} {c : Code} {D : va_G} {Q : State → Prop} {b L : Nat} {xs : Nat → Int32} {F : CF} {G : DF} (X : gx p s m #[Value.ref b] c code 4 RL wLW D vwCl (cT F ++ dT G) (aLW s)) (hX : va_X b L xs s s.heap) (hbl : b < s.heap.size) (hL : L ≤ 2049) (hCG : dC G = kC F) {u : CS} {t : DS} (hI : Iv F u t) (hM : gM t < 512) {i cells slots : Nat} (hi : i + 4 ≤ L) (hcs : cells + 2 ≤ 600000) (hss : slots + 23 ≤ 7302250)
    (kk : ∀ (u2 : CS) (t2 : DS), Iv F u2 t2 → gM t2 ≤ gM t + 1 → gg p l e room_1 s m #[Value.ref b] below meth c (cells + 2) (slots + 23) Q D vwCl (aLW s) 4 (cW F u2 ++ dW G t2) [(3, .int (nI i)), (2, .ref (dH G)), (1, .ref (kH F)), (0, .ref b)] 507 []) : gg p l e room_1 s m #[Value.ref b] below meth c cells slots Q D vwCl (aLW s) 4 (cW F u ++ dW G t) [(3, .int (nI i)), (2, .ref (dH G)), (1, .ref (kH F)), (0, .ref b)] 359 [] := by
  obtain ⟨rho, hRl, hc, hk⟩ := id hI
  have hC3 : dC G ≤ 3000 := by rw [hCG]; exact hc.2.2.1
  have hKc : va_K D vwCl (cT F) s := X.2.2.2.2.2.1.sub [0, 1] rfl
  have hKd : va_K D vwCl (dT G) s := X.2.2.2.2.2.1.sub [2, 3, 4] rfl
  refine gg_aload_n X dL_law_359 rfl 2 rfl ?_
  refine gg_aload_n X dL_law_360 rfl 3 rfl ?_
  refine gg_iload_n X dL_law_361 rfl 0 rfl ?_
  refine gg_iconst X dL_law_362 (v := nI 1) (by decide) ?_
  refine gg_iadd X dL_law_363 (nI_add _ _) ?_
  refine gg_sld X hX hbl dL_law_364 (i + 1) rfl (by omega) (by omega) ?_
  refine gc_iL X (gr_V (q0 := 0) X dL_law_365 hKc (k_push l D F u hc (xs (i + 1))) (cwV 1 X.2.2.2.2.1 (gdV (al 116 rfl) (al 117 rfl) (al 259 rfl) (al 1 rfl) (al 118 rfl)) rfl rfl rfl (by decide +kernel) ⟨Nat.le_of_ble_eq_true rfl, Nat.le_of_ble_eq_true rfl⟩) rfl rfl rfl rfl rfl (Nat.le_of_ble_eq_true rfl) ⟨by show cells + 0 ≤ 600000; omega, by show slots + 0 ≤ 7302250; omega⟩) (fun x u2 hx => ?_)
  refine gg_aload_n X dL_law_368 rfl 1 rfl ?_
  refine gg_aload_n X dL_law_369 rfl 3 rfl ?_
  refine gg_iload_n X dL_law_370 rfl 0 rfl ?_
  refine gg_iconst X dL_law_371 (v := nI 1) (by decide) ?_
  refine gg_iadd X dL_law_372 (nI_add _ _) ?_
  refine gg_sld X hX hbl dL_law_373 (i + 1) rfl (by omega) (by omega) ?_
  refine gc_iR X (gr_V (q0 := 0) X dL_law_374 hKd (k_pushd l D G t hk (xs (i + 1))) (cwV 1 X.2.2.2.2.1 (gdV (al 213 rfl) (al 214 rfl) (al 272 rfl) (al 4 rfl) (al 215 rfl)) rfl rfl rfl (by decide +kernel) ⟨Nat.le_of_ble_eq_true rfl, Nat.le_of_ble_eq_true rfl⟩) rfl rfl rfl rfl rfl (Nat.le_of_ble_eq_true rfl) ⟨by show cells + 0 + 0 ≤ 600000; omega, by show slots + 0 + 0 ≤ 7302250; omega⟩) (fun y t2 hy => ?_)
  have hop := op_push hI hx hy
  refine gg_icmp_eq (tgt := 507) X dL_law_377 (by decide) (fun cc => ?_) (fun cc => ?_)
  · refine gg_wide (k := cells + 2) (n := slots + 23) (by show cells + 0 + 0 ≤ cells + 2; omega) (by show slots + 0 + 0 ≤ slots + 23; omega) ?_
    exact kk u2 t2 hop.2 (gm_push hy)
  · exact absurd hop.1 cc
set_option maxHeartbeats 4000000 in
set_option maxRecDepth 100000 in
theorem lc_pop {p : Program} {l : Launch} {e : Env} {s : State} {m : MethodId} {below : List Frame} {meth : Method} {c : Code} {D : va_G} {Q : State → Prop} {b L : Nat} {xs : Nat → Int32} {F : CF} {G : DF} (X : gx p s m #[Value.ref b] c code 4 RL wLW D vwCl (cT F ++ dT G) (aLW s)) (hX : va_X b L xs s s.heap) (hbl : b < s.heap.size) (hL : L ≤ 2049) (hCG : dC G = kC F) {u : CS} {t : DS} (hI : Iv F u t) (hM : gM t < 512) {i cells slots : Nat} (hi : i + 4 ≤ L) (hcs : cells + 2 ≤ 600000) (hss : slots + 23 ≤ 7302250)
    (kk : ∀ (u2 : CS) (t2 : DS), Iv F u2 t2 → gM t2 ≤ gM t + 1 → gg p l e room_1 s m #[Value.ref b] below meth c (cells + 2) (slots + 23) Q D vwCl (aLW s) 4 (cW F u2 ++ dW G t2) [(3, .int (nI i)), (2, .ref (dH G)), (1, .ref (kH F)), (0, .ref b)] 507 []) : gg p l e room_1 s m #[Value.ref b] below meth c cells slots Q D vwCl (aLW s) 4 (cW F u ++ dW G t) [(3, .int (nI i)), (2, .ref (dH G)), (1, .ref (kH F)), (0, .ref b)] 382 [] := by
  obtain ⟨rho, hRl, hc, hk⟩ := id hI
  have hC3 : dC G ≤ 3000 := by rw [hCG]; exact hc.2.2.1
  have hKc : va_K D vwCl (cT F) s := X.2.2.2.2.2.1.sub [0, 1] rfl
  have hKd : va_K D vwCl (dT G) s := X.2.2.2.2.2.1.sub [2, 3, 4] rfl
  refine gg_aload_n X dL_law_382 rfl 2 rfl ?_
  refine gg_aload_n X dL_law_383 rfl 3 rfl ?_
  refine gg_iload_n X dL_law_384 rfl 0 rfl ?_
  refine gg_iconst X dL_law_385 (v := nI 1) (by decide) ?_
  refine gg_iadd X dL_law_386 (nI_add _ _) ?_
  refine gg_sld X hX hbl dL_law_387 (i + 1) rfl (by omega) (by omega) ?_
  refine gc_iL X (gr_V (q0 := 0) X dL_law_388 hKc (k_pop l D F u hc (xs (i + 1))) (cwV 1 X.2.2.2.2.1 (gdV (al 119 rfl) (al 120 rfl) (al 260 rfl) (al 1 rfl) (al 121 rfl)) rfl rfl rfl (by decide +kernel) ⟨Nat.le_of_ble_eq_true rfl, Nat.le_of_ble_eq_true rfl⟩) rfl rfl rfl rfl rfl (Nat.le_of_ble_eq_true rfl) ⟨by show cells + 0 ≤ 600000; omega, by show slots + 0 ≤ 7302250; omega⟩) (fun x u2 hx => ?_)
  refine gg_aload_n X dL_law_391 rfl 1 rfl ?_
  refine gg_aload_n X dL_law_392 rfl 3 rfl ?_
  refine gg_iload_n X dL_law_393 rfl 0 rfl ?_
  refine gg_iconst X dL_law_394 (v := nI 1) (by decide) ?_
  refine gg_iadd X dL_law_395 (nI_add _ _) ?_
  refine gg_sld X hX hbl dL_law_396 (i + 1) rfl (by omega) (by omega) ?_
  refine gc_iR X (gr_V (q0 := 0) X dL_law_397 hKd (k_popd l D G t hk (xs (i + 1))) (cwV 1 X.2.2.2.2.1 (gdV (al 216 rfl) (al 217 rfl) (al 273 rfl) (al 4 rfl) (al 218 rfl)) rfl rfl rfl (by decide +kernel) ⟨Nat.le_of_ble_eq_true rfl, Nat.le_of_ble_eq_true rfl⟩) rfl rfl rfl rfl rfl (Nat.le_of_ble_eq_true rfl) ⟨by show cells + 0 + 0 ≤ 600000; omega, by show slots + 0 + 0 ≤ 7302250; omega⟩) (fun y t2 hy => ?_)
  have hop := op_pop hI hx hy
  refine gg_icmp_eq (tgt := 507) X dL_law_400 (by decide) (fun cc => ?_) (fun cc => ?_)
  · refine gg_wide (k := cells + 2) (n := slots + 23) (by show cells + 0 + 0 ≤ cells + 2; omega) (by show slots + 0 + 0 ≤ slots + 23; omega) ?_
    exact kk u2 t2 hop.2 (gm_pop hy)
  · exact absurd hop.1 cc
set_option maxHeartbeats 4000000 in
set_option maxRecDepth 100000 in
theorem lc_look {p : Program} {l : Launch} {e : Env} {s : State} {m : MethodId} {below : List Frame} {meth : Method} {c : Code} {D : va_G} {Q : State → Prop} {b L : Nat} {xs : Nat → Int32} {F : CF} {G : DF} (X : gx p s m #[Value.ref b] c code 4 RL wLW D vwCl (cT F ++ dT G) (aLW s)) (hX : va_X b L xs s s.heap) (hbl : b < s.heap.size) (hL : L ≤ 2049) (hCG : dC G = kC F) {u : CS} {t : DS} (hI : Iv F u t) (hM : gM t < 512) {i cells slots : Nat} (hi : i + 4 ≤ L) (hcs : cells + 2 ≤ 600000) (hss : slots + 23 ≤ 7302250)
    (kk : ∀ (u2 : CS) (t2 : DS), Iv F u2 t2 → gM t2 ≤ gM t + 1 → gg p l e room_1 s m #[Value.ref b] below meth c (cells + 2) (slots + 23) Q D vwCl (aLW s) 4 (cW F u2 ++ dW G t2) [(3, .int (nI i)), (2, .ref (dH G)), (1, .ref (kH F)), (0, .ref b)] 507 []) : gg p l e room_1 s m #[Value.ref b] below meth c cells slots Q D vwCl (aLW s) 4 (cW F u ++ dW G t) [(3, .int (nI i)), (2, .ref (dH G)), (1, .ref (kH F)), (0, .ref b)] 405 [] := by
  obtain ⟨rho, hRl, hc, hk⟩ := id hI
  have hC3 : dC G ≤ 3000 := by rw [hCG]; exact hc.2.2.1
  have hKc : va_K D vwCl (cT F) s := X.2.2.2.2.2.1.sub [0, 1] rfl
  have hKd : va_K D vwCl (dT G) s := X.2.2.2.2.2.1.sub [2, 3, 4] rfl
  refine gg_aload_n X dL_law_405 rfl 2 rfl ?_
  refine gg_aload_n X dL_law_406 rfl 3 rfl ?_
  refine gg_iload_n X dL_law_407 rfl 0 rfl ?_
  refine gg_iconst X dL_law_408 (v := nI 1) (by decide) ?_
  refine gg_iadd X dL_law_409 (nI_add _ _) ?_
  refine gg_sld X hX hbl dL_law_410 (i + 1) rfl (by omega) (by omega) ?_
  refine gc_iL X (gr_V (q0 := 0) X dL_law_411 hKc (k_look l D F u hc (xs (i + 1))) (cwV 1 X.2.2.2.2.1 (gdV (al 122 rfl) (al 123 rfl) (al 261 rfl) (al 1 rfl) (al 124 rfl)) rfl rfl rfl (by decide +kernel) ⟨Nat.le_of_ble_eq_true rfl, Nat.le_of_ble_eq_true rfl⟩) rfl rfl rfl rfl rfl (Nat.le_of_ble_eq_true rfl) ⟨by show cells + 0 ≤ 600000; omega, by show slots + 0 ≤ 7302250; omega⟩) (fun x u2 hx => ?_)
  refine gg_aload_n X dL_law_414 rfl 1 rfl ?_
  refine gg_aload_n X dL_law_415 rfl 3 rfl ?_
  refine gg_iload_n X dL_law_416 rfl 0 rfl ?_
  refine gg_iconst X dL_law_417 (v := nI 1) (by decide) ?_
  refine gg_iadd X dL_law_418 (nI_add _ _) ?_
  refine gg_sld X hX hbl dL_law_419 (i + 1) rfl (by omega) (by omega) ?_
  refine gc_iR X (gr_V (q0 := 0) X dL_law_420 hKd (k_lookd l D G t hk (xs (i + 1))) (cwV 1 X.2.2.2.2.1 (gdV (al 219 rfl) (al 220 rfl) (al 274 rfl) (al 4 rfl) (al 221 rfl)) rfl rfl rfl (by decide +kernel) ⟨Nat.le_of_ble_eq_true rfl, Nat.le_of_ble_eq_true rfl⟩) rfl rfl rfl rfl rfl (Nat.le_of_ble_eq_true rfl) ⟨by show cells + 0 + 0 ≤ 600000; omega, by show slots + 0 + 0 ≤ 7302250; omega⟩) (fun y t2 hy => ?_)
  have hop := op_look hI hx hy
  refine gg_icmp_eq (tgt := 507) X dL_law_423 (by decide) (fun cc => ?_) (fun cc => ?_)
  · refine gg_wide (k := cells + 2) (n := slots + 23) (by show cells + 0 + 0 ≤ cells + 2; omega) (by show slots + 0 + 0 ≤ slots + 23; omega) ?_
    exact kk u2 t2 hop.2 (gm_look hy)
  · exact absurd hop.1 cc
set_option maxHeartbeats 4000000 in
set_option maxRecDepth 100000 in
theorem lc_numberIn {p : Program} {l : Launch} {e : Env} {s : State} {m : MethodId} {below : List Frame} {meth : Method} {c : Code} {D : va_G} {Q : State → Prop} {b L : Nat} {xs : Nat → Int32} {F : CF} {G : DF} (X : gx p s m #[Value.ref b] c code 4 RL wLW D vwCl (cT F ++ dT G) (aLW s)) (hX : va_X b L xs s s.heap) (hbl : b < s.heap.size) (hL : L ≤ 2049) (hCG : dC G = kC F) {u : CS} {t : DS} (hI : Iv F u t) (hM : gM t < 512) {i cells slots : Nat} (hi : i + 4 ≤ L) (hcs : cells + 2 ≤ 600000) (hss : slots + 23 ≤ 7302250)
    (kk : ∀ (u2 : CS) (t2 : DS), Iv F u2 t2 → gM t2 ≤ gM t + 1 → gg p l e room_1 s m #[Value.ref b] below meth c (cells + 2) (slots + 23) Q D vwCl (aLW s) 4 (cW F u2 ++ dW G t2) [(3, .int (nI i)), (2, .ref (dH G)), (1, .ref (kH F)), (0, .ref b)] 507 []) : gg p l e room_1 s m #[Value.ref b] below meth c cells slots Q D vwCl (aLW s) 4 (cW F u ++ dW G t) [(3, .int (nI i)), (2, .ref (dH G)), (1, .ref (kH F)), (0, .ref b)] 428 [] := by
  obtain ⟨rho, hRl, hc, hk⟩ := id hI
  have hC3 : dC G ≤ 3000 := by rw [hCG]; exact hc.2.2.1
  have hKc : va_K D vwCl (cT F) s := X.2.2.2.2.2.1.sub [0, 1] rfl
  have hKd : va_K D vwCl (dT G) s := X.2.2.2.2.2.1.sub [2, 3, 4] rfl
  refine gg_aload_n X dL_law_428 rfl 2 rfl ?_
  refine gg_aload_n X dL_law_429 rfl 3 rfl ?_
  refine gg_iload_n X dL_law_430 rfl 0 rfl ?_
  refine gg_iconst X dL_law_431 (v := nI 1) (by decide) ?_
  refine gg_iadd X dL_law_432 (nI_add _ _) ?_
  refine gg_sld X hX hbl dL_law_433 (i + 1) rfl (by omega) (by omega) ?_
  refine gc_iL X (gr_V (q0 := 0) X dL_law_434 hKc (k_numberIn l D F u (xs (i + 1))) (cwV 1 X.2.2.2.2.1 (gdV (al 125 rfl) (al 126 rfl) (al 262 rfl) (al 1 rfl) (al 127 rfl)) rfl rfl rfl (by decide +kernel) ⟨Nat.le_of_ble_eq_true rfl, Nat.le_of_ble_eq_true rfl⟩) rfl rfl rfl rfl rfl (Nat.le_of_ble_eq_true rfl) ⟨by show cells + 0 ≤ 600000; omega, by show slots + 0 ≤ 7302250; omega⟩) (fun x u2 hx => ?_)
  refine gg_aload_n X dL_law_437 rfl 1 rfl ?_
  refine gg_aload_n X dL_law_438 rfl 3 rfl ?_
  refine gg_iload_n X dL_law_439 rfl 0 rfl ?_
  refine gg_iconst X dL_law_440 (v := nI 1) (by decide) ?_
  refine gg_iadd X dL_law_441 (nI_add _ _) ?_
  refine gg_sld X hX hbl dL_law_442 (i + 1) rfl (by omega) (by omega) ?_
  refine gc_iR X (gr_V (q0 := 0) X dL_law_443 hKd (k_numberInd l D G t (xs (i + 1))) (cwV 1 X.2.2.2.2.1 (gdV (al 222 rfl) (al 223 rfl) (al 275 rfl) (al 4 rfl) (al 224 rfl)) rfl rfl rfl (by decide +kernel) ⟨Nat.le_of_ble_eq_true rfl, Nat.le_of_ble_eq_true rfl⟩) rfl rfl rfl rfl rfl (Nat.le_of_ble_eq_true rfl) ⟨by show cells + 0 + 0 ≤ 600000; omega, by show slots + 0 + 0 ≤ 7302250; omega⟩) (fun y t2 hy => ?_)
  have hop := op_numIn hI hx hy
  refine gg_icmp_eq (tgt := 507) X dL_law_446 (by decide) (fun cc => ?_) (fun cc => ?_)
  · refine gg_wide (k := cells + 2) (n := slots + 23) (by show cells + 0 + 0 ≤ cells + 2; omega) (by show slots + 0 + 0 ≤ slots + 23; omega) ?_
    exact kk u2 t2 hop.2 (gm_numIn hy)
  · exact absurd hop.1 cc
set_option maxHeartbeats 4000000 in
set_option maxRecDepth 100000 in
theorem lc_same {p : Program} {l : Launch} {e : Env} {s : State} {m : MethodId} {below : List Frame} {meth : Method} {c : Code} {D : va_G} {Q : State → Prop} {b L : Nat} {xs : Nat → Int32} {F : CF} {G : DF} (X : gx p s m #[Value.ref b] c code 4 RL wLW D vwCl (cT F ++ dT G) (aLW s)) (hX : va_X b L xs s s.heap) (hbl : b < s.heap.size) (hL : L ≤ 2049) (hCG : dC G = kC F) {u : CS} {t : DS} (hI : Iv F u t) (hM : gM t < 512) {i cells slots : Nat} (hi : i + 4 ≤ L) (hcs : cells + 2 ≤ 600000) (hss : slots + 23 ≤ 7302250)
    (kk : ∀ (u2 : CS) (t2 : DS), Iv F u2 t2 → gM t2 ≤ gM t + 1 → gg p l e room_1 s m #[Value.ref b] below meth c (cells + 2) (slots + 23) Q D vwCl (aLW s) 4 (cW F u2 ++ dW G t2) [(3, .int (nI i)), (2, .ref (dH G)), (1, .ref (kH F)), (0, .ref b)] 507 []) : gg p l e room_1 s m #[Value.ref b] below meth c cells slots Q D vwCl (aLW s) 4 (cW F u ++ dW G t) [(3, .int (nI i)), (2, .ref (dH G)), (1, .ref (kH F)), (0, .ref b)] 451 [] := by
  obtain ⟨rho, hRl, hc, hk⟩ := id hI
  have hC3 : dC G ≤ 3000 := by rw [hCG]; exact hc.2.2.1
  have hKc : va_K D vwCl (cT F) s := X.2.2.2.2.2.1.sub [0, 1] rfl
  have hKd : va_K D vwCl (dT G) s := X.2.2.2.2.2.1.sub [2, 3, 4] rfl
  refine gg_aload_n X dL_law_451 rfl 2 rfl ?_
  refine gg_aload_n X dL_law_452 rfl 3 rfl ?_
  refine gg_iload_n X dL_law_453 rfl 0 rfl ?_
  refine gg_iconst X dL_law_454 (v := nI 1) (by decide) ?_
  refine gg_iadd X dL_law_455 (nI_add _ _) ?_
  refine gg_sld X hX hbl dL_law_456 (i + 1) rfl (by omega) (by omega) ?_
  refine gg_aload_n X dL_law_457 rfl 3 rfl ?_
  refine gg_iload_n X dL_law_458 rfl 0 rfl ?_
  refine gg_iconst X dL_law_459 (v := nI 2) (by decide) ?_
  refine gg_iadd X dL_law_460 (nI_add _ _) ?_
  refine gg_sld X hX hbl dL_law_461 (i + 2) rfl (by omega) (by omega) ?_
  refine gc_iL X (gr_V (q0 := 0) X dL_law_462 hKc (k_same l D F u (xs (i + 1)) (xs (i + 2))) (cwV 2 X.2.2.2.2.1 (gdV (al 128 rfl) (al 129 rfl) (al 263 rfl) (al 1 rfl) (al 130 rfl)) rfl rfl rfl (by decide +kernel) ⟨Nat.le_of_ble_eq_true rfl, Nat.le_of_ble_eq_true rfl⟩) rfl rfl rfl rfl rfl (Nat.le_of_ble_eq_true rfl) ⟨by show cells + 0 ≤ 600000; omega, by show slots + 0 ≤ 7302250; omega⟩) (fun x u2 hx => ?_)
  refine gg_aload_n X dL_law_465 rfl 1 rfl ?_
  refine gg_aload_n X dL_law_466 rfl 3 rfl ?_
  refine gg_iload_n X dL_law_467 rfl 0 rfl ?_
  refine gg_iconst X dL_law_468 (v := nI 1) (by decide) ?_
  refine gg_iadd X dL_law_469 (nI_add _ _) ?_
  refine gg_sld X hX hbl dL_law_470 (i + 1) rfl (by omega) (by omega) ?_
  refine gg_aload_n X dL_law_471 rfl 3 rfl ?_
  refine gg_iload_n X dL_law_472 rfl 0 rfl ?_
  refine gg_iconst X dL_law_473 (v := nI 2) (by decide) ?_
  refine gg_iadd X dL_law_474 (nI_add _ _) ?_
  refine gg_sld X hX hbl dL_law_475 (i + 2) rfl (by omega) (by omega) ?_
  refine gc_iR X (gr_V (q0 := 0) X dL_law_476 hKd (k_samed l D G t (xs (i + 1)) (xs (i + 2))) (cwV 2 X.2.2.2.2.1 (gdV (al 225 rfl) (al 226 rfl) (al 276 rfl) (al 4 rfl) (al 227 rfl)) rfl rfl rfl (by decide +kernel) ⟨Nat.le_of_ble_eq_true rfl, Nat.le_of_ble_eq_true rfl⟩) rfl rfl rfl rfl rfl (Nat.le_of_ble_eq_true rfl) ⟨by show cells + 0 + 0 ≤ 600000; omega, by show slots + 0 + 0 ≤ 7302250; omega⟩) (fun y t2 hy => ?_)
  have hop := op_same hI hx hy
  refine gg_icmp_eq (tgt := 507) X dL_law_479 (by decide) (fun cc => ?_) (fun cc => ?_)
  · refine gg_wide (k := cells + 2) (n := slots + 23) (by show cells + 0 + 0 ≤ cells + 2; omega) (by show slots + 0 + 0 ≤ slots + 23; omega) ?_
    exact kk u2 t2 hop.2 (gm_same hy)
  · exact absurd hop.1 cc
set_option maxHeartbeats 4000000 in
set_option maxRecDepth 100000 in
theorem lc_count {p : Program} {l : Launch} {e : Env} {s : State} {m : MethodId} {below : List Frame} {meth : Method} {c : Code} {D : va_G} {Q : State → Prop} {b L : Nat} {xs : Nat → Int32} {F : CF} {G : DF} (X : gx p s m #[Value.ref b] c code 4 RL wLW D vwCl (cT F ++ dT G) (aLW s)) (hX : va_X b L xs s s.heap) (hbl : b < s.heap.size) (hL : L ≤ 2049) (hCG : dC G = kC F) {u : CS} {t : DS} (hI : Iv F u t) (hM : gM t < 512) {i cells slots : Nat} (hi : i + 4 ≤ L) (hcs : cells + 2 ≤ 600000) (hss : slots + 23 ≤ 7302250)
    (kk : ∀ (u2 : CS) (t2 : DS), Iv F u2 t2 → gM t2 ≤ gM t + 1 → gg p l e room_1 s m #[Value.ref b] below meth c (cells + 2) (slots + 23) Q D vwCl (aLW s) 4 (cW F u2 ++ dW G t2) [(3, .int (nI i)), (2, .ref (dH G)), (1, .ref (kH F)), (0, .ref b)] 507 []) : gg p l e room_1 s m #[Value.ref b] below meth c cells slots Q D vwCl (aLW s) 4 (cW F u ++ dW G t) [(3, .int (nI i)), (2, .ref (dH G)), (1, .ref (kH F)), (0, .ref b)] 484 [] := by
  obtain ⟨rho, hRl, hc, hk⟩ := id hI
  have hC3 : dC G ≤ 3000 := by rw [hCG]; exact hc.2.2.1
  have hKc : va_K D vwCl (cT F) s := X.2.2.2.2.2.1.sub [0, 1] rfl
  have hKd : va_K D vwCl (dT G) s := X.2.2.2.2.2.1.sub [2, 3, 4] rfl
  refine gg_aload_n X dL_law_484 rfl 2 rfl ?_
  refine gg_aload_n X dL_law_485 rfl 3 rfl ?_
  refine gg_iload_n X dL_law_486 rfl 0 rfl ?_
  refine gg_iconst X dL_law_487 (v := nI 1) (by decide) ?_
  refine gg_iadd X dL_law_488 (nI_add _ _) ?_
  refine gg_sld X hX hbl dL_law_489 (i + 1) rfl (by omega) (by omega) ?_
  refine gc_iL X (gr_V (q0 := 0) X dL_law_490 hKc (k_count l D F u hc (xs (i + 1))) (cwV 1 X.2.2.2.2.1 (gdV (al 131 rfl) (al 132 rfl) (al 264 rfl) (al 1 rfl) (al 133 rfl)) rfl rfl rfl (by decide +kernel) ⟨Nat.le_of_ble_eq_true rfl, Nat.le_of_ble_eq_true rfl⟩) rfl rfl rfl rfl rfl (Nat.le_of_ble_eq_true rfl) ⟨by show cells + 0 ≤ 600000; omega, by show slots + 0 ≤ 7302250; omega⟩) (fun x u2 hx => ?_)
  refine gg_aload_n X dL_law_493 rfl 1 rfl ?_
  refine gg_aload_n X dL_law_494 rfl 3 rfl ?_
  refine gg_iload_n X dL_law_495 rfl 0 rfl ?_
  refine gg_iconst X dL_law_496 (v := nI 1) (by decide) ?_
  refine gg_iadd X dL_law_497 (nI_add _ _) ?_
  refine gg_sld X hX hbl dL_law_498 (i + 1) rfl (by omega) (by omega) ?_
  refine gc_iR X (gr_V (q0 := 0) X dL_law_499 hKd (k_countd l D G t hk (xs (i + 1))) (cwV 1 X.2.2.2.2.1 (gdV (al 228 rfl) (al 229 rfl) (al 277 rfl) (al 4 rfl) (al 230 rfl)) rfl rfl rfl (by decide +kernel) ⟨Nat.le_of_ble_eq_true rfl, Nat.le_of_ble_eq_true rfl⟩) rfl rfl rfl rfl rfl (Nat.le_of_ble_eq_true rfl) ⟨by show cells + 0 + 0 ≤ 600000; omega, by show slots + 0 + 0 ≤ 7302250; omega⟩) (fun y t2 hy => ?_)
  have hop := op_count hI hx hy
  refine gg_icmp_eq (tgt := 507) X dL_law_502 (by decide) (fun cc => ?_) (fun cc => ?_)
  · refine gg_wide (k := cells + 2) (n := slots + 23) (by show cells + 0 + 0 ≤ cells + 2; omega) (by show slots + 0 + 0 ≤ slots + 23; omega) ?_
    exact kk u2 t2 hop.2 (gm_count hy)
  · exact absurd hop.1 cc
end
section
set_option maxHeartbeats 4000000 in
set_option maxRecDepth 100000 in
/-- THE LAW'S LOOP -/
theorem law_loop {p : Program} {l : Launch} {e : Env} {s : State} {m : MethodId} {below : List Frame} {meth : Method} {c : Code} {D : va_G} {b L : Nat} {xs : Nat → Int32} {F : CF} {G : DF} (X : gx p s m #[Value.ref b] c code 4 RL wLW D vwCl (cT F ++ dT G) (aLW s)) (hX : va_X b L xs s s.heap) (hbl : b < s.heap.size) (hL : L ≤ 2049) (hCG : dC G = kC F) (hr : meth.sig.returnType = ret) (hlocks : meth.locks = false) {u : CS} {t : DS} (hI : Iv F u t) (hM0 : gM t = 0) : gg p l e room_1 s m #[Value.ref b] below meth c 11 25039 (lw_Z below #[Value.ref b] s) D vwCl (aLW s) 4 (cW F u ++ dW G t) [(3, .int (nI 1)), (2, .ref (dH G)), (1, .ref (kH F)), (0, .ref b)] 28 [] := by
  refine gg_loopC (ι := Nat × CS × DS) (fun a => 4 * a.1 ≤ L + 3 ∧ Iv F a.2.1 a.2.2 ∧ gM a.2.2 ≤ a.1) (fun a => L + 4 - 4 * a.1) (fun a => 11 + 2 * a.1) (fun a => 25039 + 23 * a.1) (fun a => cW F a.2.1 ++ dW G a.2.2) (fun a => [(3, .int (nI (1 + 4 * a.1))), (2, .ref (dH G)), (1, .ref (kH F)), (0, .ref b)]) ?_ (0, u, t) ⟨by show 4 * 0 ≤ L + 3; omega, hI, by show gM t ≤ 0; omega⟩
  intro a ha ih
  obtain ⟨q, u, t⟩ := a
  obtain ⟨h1, h2, h3⟩ := ha
  have h1 : 4 * q ≤ L + 3 := h1
  have h2 : Iv F u t := h2
  have h3 : gM t ≤ q := h3
  refine gg_iload_n X dL_law_28 rfl 0 rfl ?_
  refine gg_aload_n X dL_law_29 rfl 3 rfl ?_
  refine gg_slen X hX hbl dL_law_30 ?_
  refine gg_iconst X dL_law_31 (v := nI 4) (by decide) ?_
  refine gg_isub X dL_law_32 (v := nI L - nI 4) rfl ?_
  refine gg_icmp_gt (tgt := 513) X dL_law_33 (by decide) (fun c_33 => ?_) (fun c_33 => ?_)
  · refine gg_iconst X dL_law_513 (v := 1) (by decide) ?_
    intro H locs ls hP hD hS hl
    refine va_forget (fun x hx => hS.2.2 x hx) ?_
    refine W.widen (k := 600000) (n := 7302250) (by show 11 + 2 * q ≤ 600000; omega) (by show 25039 + 23 * q ≤ 7302250; omega) ?_
    exact lw_ret X.1 X.2.1 hr hlocks dL_law_514
  · have hle : 1 + 4 * q + 4 ≤ L := by
      have e1 : (nI L - nI 4).toInt = (L : Int) - 4 := pk_sub_toInt (by omega) (by omega)
      rw [Int32.lt_iff_toInt_lt, e1] at c_33
      have e2 : (nI (1 + 4 * (q, u, t).1)).toInt = ((1 + 4 * q : Nat) : Int) := nI_int (by show 1 + 4 * q < _; omega)
      rw [e2] at c_33
      omega
    have hM : gM t < 512 := by omega
    have back : ∀ (u2 : CS) (t2 : DS), Iv F u2 t2 → gM t2 ≤ gM t + 1 → gg p l e room_1 s m #[Value.ref b] below meth c (11 + 2 * q + 2) (25039 + 23 * q + 23) (lw_Z below #[Value.ref b] s) D vwCl (aLW s) 4 (cW F u2 ++ dW G t2) [(3, .int (nI (1 + 4 * q))), (2, .ref (dH G)), (1, .ref (kH F)), (0, .ref b)] 507 [] := by
      intro u2 t2 g1 g2
      refine gg_iinc X dL_law_507 0 rfl (v := nI (1 + 4 * (q + 1))) (by show nI (1 + 4 * q) + nI 4 = _; rw [nI_add]; congr 1) (by decide) rfl ?_
      refine gg_goto (tgt := 28) X dL_law_510 (by decide) ?_
      exact ih (q + 1, u2, t2) ⟨by show 4 * (q + 1) ≤ L + 3; omega, g1, by show gM t2 ≤ q + 1; omega⟩ (by show L + 4 - 4 * (q + 1) < L + 4 - 4 * q; omega)
    refine gg_aload_n X dL_law_36 rfl 3 rfl ?_
    refine gg_iload_n X dL_law_37 rfl 0 rfl ?_
    refine gg_sld X hX hbl dL_law_38 (1 + 4 * q) rfl (by omega) (by omega) ?_
    refine gg_bipush X dL_law_39 (v := 15) (by decide) ?_
    obtain ⟨k, hk16, ek⟩ := op_of (xs (1 + 4 * q))
    refine gg_iand X dL_law_41 ek ?_
    by_cases n0 : k = 0
    · subst n0
      refine gg_tableIn (tgt := 108) X dL_law_42 (by decide) (by decide) (by rfl) (by decide) ?_
      exact lc_make X hX hbl hL hCG h2 hM (by omega) (by omega) (by omega) back
    by_cases n1 : k = 1
    · subst n1
      refine gg_tableIn (tgt := 151) X dL_law_42 (by decide) (by decide) (by rfl) (by decide) ?_
      exact lc_grow X hX hbl hL hCG h2 hM (by omega) (by omega) (by omega) back
    by_cases n2 : k = 2
    · subst n2
      refine gg_tableIn (tgt := 184) X dL_law_42 (by decide) (by decide) (by rfl) (by decide) ?_
      exact lc_shrink X hX hbl hL hCG h2 hM (by omega) (by omega) (by omega) back
    by_cases n3 : k = 3
    · subst n3
      refine gg_tableIn (tgt := 207) X dL_law_42 (by decide) (by decide) (by rfl) (by decide) ?_
      exact lc_number X hX hbl hL hCG h2 hM (by omega) (by omega) (by omega) back
    by_cases n4 : k = 4
    · subst n4
      refine gg_tableIn (tgt := 240) X dL_law_42 (by decide) (by decide) (by rfl) (by decide) ?_
      exact lc_copy X hX hbl hL hCG h2 hM (by omega) (by omega) (by omega) back
    by_cases n5 : k = 5
    · subst n5
      refine gg_tableIn (tgt := 273) X dL_law_42 (by decide) (by decide) (by rfl) (by decide) ?_
      exact lc_get X hX hbl hL hCG h2 hM (by omega) (by omega) (by omega) back
    by_cases n6 : k = 6
    · subst n6
      refine gg_tableIn (tgt := 316) X dL_law_42 (by decide) (by decide) (by rfl) (by decide) ?_
      exact lc_set X hX hbl hL hCG h2 hM (by omega) (by omega) (by omega) back
    by_cases n7 : k = 7
    · subst n7
      refine gg_tableIn (tgt := 359) X dL_law_42 (by decide) (by decide) (by rfl) (by decide) ?_
      exact lc_push X hX hbl hL hCG h2 hM (by omega) (by omega) (by omega) back
    by_cases n8 : k = 8
    · subst n8
      refine gg_tableIn (tgt := 382) X dL_law_42 (by decide) (by decide) (by rfl) (by decide) ?_
      exact lc_pop X hX hbl hL hCG h2 hM (by omega) (by omega) (by omega) back
    by_cases n9 : k = 9
    · subst n9
      refine gg_tableIn (tgt := 405) X dL_law_42 (by decide) (by decide) (by rfl) (by decide) ?_
      exact lc_look X hX hbl hL hCG h2 hM (by omega) (by omega) (by omega) back
    by_cases n10 : k = 10
    · subst n10
      refine gg_tableIn (tgt := 428) X dL_law_42 (by decide) (by decide) (by rfl) (by decide) ?_
      exact lc_numberIn X hX hbl hL hCG h2 hM (by omega) (by omega) (by omega) back
    by_cases n11 : k = 11
    · subst n11
      refine gg_tableIn (tgt := 451) X dL_law_42 (by decide) (by decide) (by rfl) (by decide) ?_
      exact lc_same X hX hbl hL hCG h2 hM (by omega) (by omega) (by omega) back
    by_cases n12 : k = 12
    · subst n12
      refine gg_tableIn (tgt := 484) X dL_law_42 (by decide) (by decide) (by rfl) (by decide) ?_
      exact lc_count X hX hbl hL hCG h2 hM (by omega) (by omega) (by omega) back
    refine gg_tableOut (tgt := 507) X dL_law_42 (Or.inr (by rw [nI_int (by omega)]; omega)) (by decide) ?_
    refine gg_wide (k := 11 + 2 * q + 2) (n := 25039 + 23 * q + 23) (by show 11 + 2 * q ≤ _; omega) (by show 25039 + 23 * q ≤ _; omega) ?_
    exact back u t h2 (by omega)
end
section
set_option maxHeartbeats 4000000 in
set_option maxRecDepth 100000 in
/-- THE LAW, from its entry -/
theorem whole_start {p : Program} {e : Env} {s : State} {m : MethodId} {below : List Frame} {meth : Method} {c : Code} (l : Launch) {b L : Nat} {xs : Nat → Int32} (hL : L ≤ 2049) (C0 : lw_At p s m meth c b L xs) : W p l e room_1 s m #[Value.ref b] below meth c s.heap [] 0 0 (lw_Z below #[Value.ref b] s) (entryFrame m ([Value.ref b] : List Value).toArray 4) := by
  obtain ⟨hx, hb, hr, hml, hown, hts0, hX, hbl, hlocks, hgv⟩ := id C0
  have hts : ∀ w ∈ wLW, w.before #[Value.ref b] s = true := fun w hw => by
    rcases List.mem_cons.mp hw with h | h
    · rw [h]; exact hts0 _ (al_in _ (al 0 rfl))
    · exact hts0 w (al_in w h)
  obtain ⟨c0, iS0, hKn0⟩ := u_known (C := RX0) (T := TX0) (N := 4) (n := 4) hts imX0 (hts (.instantiable RX0 4) (am 19 rfl))
  obtain ⟨c1, iS1, hKn1⟩ := u_known (C := RX1) (T := TX1) (N := 3) (n := 3) hts imX1 (hts (.instantiable RX1 3) (am 79 rfl))
  obtain ⟨c2, iS2, hKn2⟩ := u_known (C := RX2) (T := TX2) (N := 7) (n := 7) hts imX2 (hts (.instantiable RX2 7) (am 7 rfl))
  obtain ⟨c3, iS3, hKn3⟩ := u_known (C := RX3) (T := TX3) (N := 8) (n := 8) hts imX3 (hts (.instantiable RX3 8) (am 138 rfl))
  obtain ⟨eC, eI, hKc⟩ : ∃ (eC : Nat → ClassId) (eI : Nat → Nat → Nat), ∀ (k : Nat) (q : vw_C), vwCl[k]? = some q → u_Kn s q.1 q.2.1 q.2.2 (eC k) (eI k) := by
    refine ⟨fun k => if k = 0 then c0 else if k = 1 then c1 else if k = 2 then c2 else c3, fun k => if k = 0 then iS0 else if k = 1 then iS1 else if k = 2 then iS2 else iS3, ?_⟩
    intro k q hq
    match k, hq with
    | 0, hq => cases hq; exact hKn0
    | 1, hq => cases hq; exact hKn1
    | 2, hq => cases hq; exact hKn2
    | 3, hq => cases hq; exact hKn3
    | k + 4, hq => simp [vwCl] at hq
  have hNF : NF s := ⟨fun w hw => va_Nw.of (nw_on w hw) (hts0 w (nw_in w hw)), va_AO.of (hts0 _ ao_in)⟩
  obtain ⟨J, hJ⟩ := arr_at (hts (.arrayClass .long) (am 32 rfl)) (fun C h => by cases h)
  obtain ⟨B, hB⟩ := arr_at (hts (.arrayClass .byte) (am 159 rfl)) (fun C h => by cases h)
  obtain ⟨I, hI⟩ := arr_at (hts (.arrayClass .int) (am 160 rfl)) (fun C h => by cases h)
  obtain ⟨Z, hZ⟩ := arr_at (hts (.arrayClass .boolean) (am 161 rfl)) (fun C h => by cases h)
  obtain ⟨T, hT⟩ := arr_ob hNF.2
  have hK : va_K (eC, eI) vwCl ([(J, .long), (T, .object "SliceHeap$Thing")] ++ [(B, .byte), (I, .int), (Z, .boolean)]) s := by
    refine ⟨hKc, fun k q h => ?_⟩
    match k, h with
    | 0, h => cases h; exact hJ
    | 1, h => cases h; exact hT
    | 2, h => cases h; exact hB
    | 3, h => cases h; exact hI
    | 4, h => cases h; exact hZ
    | k + 5, h => simp at h
  have X : gx p s m #[Value.ref b] c code 4 RL wLW (eC, eI) vwCl ([(J, .long), (T, .object "SliceHeap$Thing")] ++ [(B, .byte), (I, .int), (Z, .boolean)]) (aLW s) := ⟨hx, hb, hml, hown, hts, hK, fun q h => h, hNF⟩
  have hK1 : va_K (eC, eI) vwCl [(J, .long), (T, .object "SliceHeap$Thing")] s := hK.sub [0, 1] rfl
  have hK2 : va_K (eC, eI) vwCl [(B, .byte), (I, .int), (Z, .boolean)] s := hK.sub [2, 3, 4] rfl
  have key : gg p l e room_1 s m #[Value.ref b] below meth c 0 0 (lw_Z below #[Value.ref b] s) (eC, eI) vwCl (aLW s) 4 [] [(0, .ref b)] 0 [] := by
    refine gg_new (C := RX2) (T := TX2) (N' := 7) (ci := 2) X dL_law_0 imX2 tyX2 tyX2_ok (am 6 rfl) (am 7 rfl) (am 1 rfl) rfl (fs := [.int 0, .null, .null, .null, .int 0, .int 0, .int 0]) (fun j hj => by rcases (show j = 0 ∨ j = 1 ∨ j = 2 ∨ j = 3 ∨ j = 4 ∨ j = 5 ∨ j = 6 by omega) with rfl | rfl | rfl | rfl | rfl | rfl | rfl <;> rfl) (Nat.le_of_ble_eq_true rfl) (Nat.le_of_ble_eq_true rfl) (fun h => ?_)
    refine gg_ws (ws' := [(h, .inr (2, [.int 0, .null, .null, .null, .int 0, .int 0, .int 0]))]) rfl ?_
    refine gg_dup X dL_law_3 rfl ?_
    refine gg_aload_n X dL_law_4 rfl 0 rfl ?_
    refine gg_iconst X dL_law_5 (v := 0) (by decide) ?_
    refine gg_cell X hX hbl (by omega) dL_law_6 (Nat.le_of_ble_eq_true rfl) ⟨Nat.le_of_ble_eq_true rfl, Nat.le_of_ble_eq_true rfl⟩ ?_
    obtain ⟨cv, ecv⟩ : ∃ cv : Int32, (if L = 0 then (0 : Int32) else xs 0) = cv := ⟨_, rfl⟩
    rw [ecv]
    refine gc_v X (gr_I X dL_law_9 hK1 (k_heapInit l (eC, eI) J T h cv) (cwI 1 hts (gd0 (al 10 rfl)) rfl rfl rfl (hts _ (am 1 rfl)) (hts _ (am 8 rfl)) (hts _ (am 9 rfl)) rfl (by decide +kernel) ⟨Nat.le_of_ble_eq_true rfl, Nat.le_of_ble_eq_true rfl⟩) rfl rfl (Nat.le_of_ble_eq_true rfl) ⟨Nat.le_of_ble_eq_true rfl, Nat.le_of_ble_eq_true rfl⟩) (fun w hw => ?_)
    obtain ⟨F, u⟩ := w
    have hw : pNew F u h J T (capC cv) := hw
    obtain ⟨e1, e2, e3, e4, -⟩ := id hw
    subst e1
    subst e2
    subst e3
    refine gg_ws (ws' := cW F u) rfl ?_
    refine gg_astore_n X dL_law_12 rfl (by decide) rfl ?_
    refine gg_new (C := RX3) (T := TX3) (N' := 8) (ci := 3) X dL_law_13 imX3 tyX3 tyX3_ok (am 137 rfl) (am 138 rfl) (am 4 rfl) rfl (fs := [.int 0, .null, .null, .int 0, .int 0, .null, .null, .int 0]) (fun j hj => by rcases (show j = 0 ∨ j = 1 ∨ j = 2 ∨ j = 3 ∨ j = 4 ∨ j = 5 ∨ j = 6 ∨ j = 7 by omega) with rfl | rfl | rfl | rfl | rfl | rfl | rfl | rfl <;> rfl) (Nat.le_of_ble_eq_true rfl) (Nat.le_of_ble_eq_true rfl) (fun g => ?_)
    refine gg_dup X dL_law_16 rfl ?_
    refine gg_aload_n X dL_law_17 rfl 1 rfl ?_
    refine gg_iconst X dL_law_18 (v := 0) (by decide) ?_
    refine gg_cell X hX hbl (by omega) dL_law_19 (Nat.le_of_ble_eq_true rfl) ⟨Nat.le_of_ble_eq_true rfl, Nat.le_of_ble_eq_true rfl⟩ ?_
    rw [ecv]
    refine gc_vR X (gr_I X dL_law_22 hK2 (k_modelInit l (eC, eI) B I Z g cv) (cwI 1 hts (gd0 (al 141 rfl)) rfl rfl rfl (hts _ (am 4 rfl)) (hts _ (am 139 rfl)) (hts _ (am 140 rfl)) rfl (by decide +kernel) ⟨Nat.le_of_ble_eq_true rfl, Nat.le_of_ble_eq_true rfl⟩) rfl rfl (Nat.le_of_ble_eq_true rfl) ⟨Nat.le_of_ble_eq_true rfl, Nat.le_of_ble_eq_true rfl⟩) (fun w hd => ?_)
    obtain ⟨G, t⟩ := w
    have hd : dNew G t g B I Z (capC cv) := hd
    obtain ⟨f1, f2, f3, f4, f5, -, -, f6, -⟩ := id hd
    subst f1
    subst f2
    subst f3
    subst f4
    refine gg_ws (ws' := cW F u ++ dW G t) rfl ?_
    refine gg_astore_n X dL_law_25 rfl (by decide) rfl ?_
    refine gg_iconst X dL_law_26 (v := nI 1) (by decide) ?_
    refine gg_istore_n X dL_law_27 rfl (by decide) rfl ?_
    refine gg_wide (k := 11) (n := 25039) (Nat.le_of_ble_eq_true rfl) (Nat.le_of_ble_eq_true rfl) ?_
    exact law_loop X hX hbl hL (f5.trans e4.symm) hr hlocks (Iv.start hw hd) f6
  have hl := lv_entry ([.ref b]) (n := 4) (Nat.le_of_ble_eq_true rfl)
  rw [lg_entry_eq]
  exact key s.heap [] _ (fun k q h => by simp at h) ⟨fun i j x y h => by simp at h, fun k q h => by simp at h⟩ va_S.rf hl
end
section
set_option maxHeartbeats 4000000 in
theorem lw_walk (l : Launch) (b : Addr) (xs : List Int32) : MetFree l x (headSpec (Jvm.Cond.code x code maxLocals ret :: tables_1) room_1) (lw_P b xs) (fun _ _ _ _ _ => True) lw_Q := by
  refine MetFree.of_bodyS (code := code) (maxLocals := maxLocals) (ret := ret) (by decide) ?_ ?_
  · intro args s m h hn
    obtain ⟨meth, c, h1, h2, h3, h4, h5, h6, -, -⟩ := Cond.code_spec hn (atoms_spec (ws := Jvm.Cond.code x code maxLocals ret :: tables_1) h _ List.mem_cons_self)
    exact ⟨meth, c, h1, h2, h3, h4, h5, h6⟩
  · intro p e s m args below meth c s₁ B hml0 hP _
    obtain ⟨rfl, hx, hbd, hgv⟩ := hP
    obtain ⟨scr, harrAt, hlist, hof, hsmall⟩ := hx
    obtain ⟨hcb, hkn, -, -⟩ := State.arrayAt?_spec harrAt
    have hown : s.vm.findClass R_law = some m.cls := findClass_of_methodNamed B.named
    have hts0 : ∀ c ∈ (Jvm.Cond.code x code maxLocals ret :: tables_1), c.before #[Value.ref b] s = true := atoms_spec (ws := Jvm.Cond.code x code maxLocals ret :: tables_1) B.pre
    have hts : ∀ w ∈ lw_tbl, w.before #[Value.ref b] s = true := k2_hts_sels lw_privs (fun w hw => hts0 w (List.mem_cons_of_mem _ hw)) lw_privs_ok
    have hml : c.maxLocals = 4 := B.maxLocals_eq (hts0 _ List.mem_cons_self)
    have X₀ : Stand p l e room_1 s m #[Value.ref b] below meth c s₁ [] 0 0 := Stand.of_body B
    have hh0 : s₁.heap = s.heap := by rw [B.state]; rfl
    have hsz : scr.slots.size = xs.length := by rw [← Array.length_toList, hlist, List.length_map]
    have hval : ∀ j : Nat, j < xs.length → scr.slots[j]? = some (.int (xs.getD j 0)) := fun j hj => by
      rw [← Array.getElem?_toList, hlist]
      simp [hj]
    have hbl : b < s.heap.size := (Array.getElem?_eq_some_iff.mp hcb).1
    have hX : va_X b xs.length (fun j => xs.getD j 0) s s.heap := ⟨scr, hcb, hof, hkn, hsz, hval⟩
    have K : W p l e room_1 s m #[Value.ref b] below meth c s₁.heap [] 0 0 (lw_Z below #[Value.ref b] s) (entryFrame m ([Value.ref b] : List Value).toArray 4) := by
      rw [hh0]
      exact whole_start l hbd ⟨B.exec, B.bytes, B.returns, hml, hown, hts, hX, hbl, B.notSynchronized, hgv⟩
    obtain ⟨t, a1, o, b1, b2, b3⟩ := K s₁ rfl X₀
    exact ⟨t, o, a1, b1, b2, b3⟩
theorem lw_pre_spec {args : Array Value} {s : State} (h : (Jvm.Cond.and given_1 narrow_1).before args s = true) (hr : rest_1_c.before args s = true) : ∃ (b : Addr) (xs : List Int32), lw_P b xs args s := by
  have hs := flat_of_before _ h
  have hq := flat_of_before _ hr
  have hc : (Cond.count 1).before args s = true := hs _ (by decide +kernel)
  have harr : (Cond.arrayOf (.arg 0) .int).before args s = true := hs _ (by decide +kernel)
  have hle : (Cond.le (.length (.arg 0)) (.int 2049)).before args s = true := hs _ (by decide +kernel)
  have hlen : (Cond.isInt (.length (.arg 0))).before args s = true := hq _ (by decide +kernel)
  have hall : (Cond.all (.arg 0) (.isInt (.elem (.arg 0) (.index 0)))).before args s = true := hq _ (by decide +kernel)
  obtain ⟨b, xs, hb, hx⟩ := State.ints_of_pre rfl harr hlen hall
  have hsm : xs.length < 2 ^ 31 := hx.choose_spec.2.2.2
  have hev : (Term.length (.arg 0)).eval args s none [] s = some (.int xs.length.toInt32) := hx.length_eval hb
  have hv := Cond.le_ints hev (show (Term.int 2049).eval args s none [] s = some (.int 2049) from rfl)
  have hd : xs.length.toInt32 ≤ 2049 := by
    simpa [Cond.before, Cond.holds, hv] using hle
  have hN : xs.length ≤ 2049 := (Int32.ofNat_le_ofNat hsm (by decide)).mp (show Int32.ofNat xs.length ≤ Int32.ofNat 2049 from hd)
  exact ⟨b, xs, Cond.one_arg hc (show args[0]? = some (.ref b) from hb), hx, hN, h⟩
theorem lw_comes (l : Launch) : Comes l x (Jvm.Cond.code x code maxLocals ret :: tables_1) room_1 (fun tb e args s => Calls_1 tb e args s ∧ rest_1 tb e args s ∧ Pre_1 tb e args s)
    (fun _ _ args s o t => lw_Q args s o t) := by
  intro p e ha hc hk s m args below hf hfit hheap happ hpre
  obtain ⟨b, xs, hP⟩ := lw_pre_spec hpre.2.2 hpre.2.1
  obtain ⟨k, o, h1, h2, h3, hQ⟩ := lw_walk l b xs p e ha hc hk s m args below hf ((Spec.applies_iff_loose hf).mp happ).1 hP trivial
  exact ⟨k, o, h1, h2, h3, hQ⟩
theorem lw_frame {s t : State} {o : Outcome} {args : Array Value} (h : Framed s o t [] 600000 7302250) :
    Framed s o t (fieldLocs frame_1_writes args s ++ arrayLocs frame_1_arrays args s ++ staticLocs frame_1_statics s) 600000 7302250 := h
theorem lw_limb (L : Cond) (hL : ∀ (args : Array Value) (s t : State), L.after args s (.returned (some (.int 1))) t = true) :
    ArmFor flags0 classFile x code maxLocals ret World_1 tables_1 room_1 Calls_1 rest_1 Pre_1
      (fun tb e a s o t => postC L tb e a s o t ∧ Framed s o t (fieldLocs frame_1_writes a s ++ arrayLocs frame_1_arrays a s ++ staticLocs frame_1_statics s) 600000 7302250) := by
  intro l _ _ _ p e ha hc hk s m args below hf hfit hheap happ hpre
  obtain ⟨k, o, h1, h2, h3, rfl, hF⟩ := lw_comes l p e ha hc hk s m args below hf hfit hheap happ hpre
  exact ⟨k, _, h1, h2, h3, hL args s _, lw_frame hF⟩
theorem i_vc : Claimed_1_1 ∧ Claimed_1_2 := ⟨lw_limb limb_1_1 (fun args s t => by simp [limb_1_1, Cond.after, Cond.holds, Cond.value]), lw_limb limb_1_2 (fun args s t => Cond.after_iff.mpr (by
  first | (rw [show limb_1_2 = Cond.eq .result (.int 1) from rfl, Cond.eq_ints (x := 1) (y := 1) rfl rfl]; simp; done) | (simp [limb_1_2, Cond.value, Term.eval]; done)))⟩
end
