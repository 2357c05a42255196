section
/-- a private method of a class that the tables say can be made, by its rows of tables_1 -/
def lw_okq (q : MethodName × Nat) : Prop := (q.1.cls ≠ "java/lang/invoke/MethodHandle" ∧ q.1.cls ≠ "java/lang/invoke/VarHandle") ∧ Cond.instantiable q.1.cls q.2 ∈ tables_1 ∧ Cond.privateMethod q.1 ∈ tables_1 ∧ Cond.instanceMethod q.1 ∈ tables_1
theorem lw_p0 : lw_okq (⟨"SliceHeap", "hasRoomFor", "(I)Z"⟩, 7) := ⟨⟨by decide +kernel, by decide +kernel⟩, List.mem_of_getElem? (i := 7) (by decide +kernel), List.mem_of_getElem? (i := 72) (by decide +kernel), List.mem_of_getElem? (i := 73) (by decide +kernel)⟩
theorem lw_p1 : lw_okq (⟨"SliceHeap", "walk", "()V"⟩, 7) := ⟨⟨by decide +kernel, by decide +kernel⟩, List.mem_of_getElem? (i := 7) (by decide +kernel), List.mem_of_getElem? (i := 76) (by decide +kernel), List.mem_of_getElem? (i := 77) (by decide +kernel)⟩
theorem lw_p2 : lw_okq (⟨"SliceHeap$Memory", "forgetWalk", "()V"⟩, 4) := ⟨⟨by decide +kernel, by decide +kernel⟩, List.mem_of_getElem? (i := 19) (by decide +kernel), List.mem_of_getElem? (i := 80) (by decide +kernel), List.mem_of_getElem? (i := 81) (by decide +kernel)⟩
theorem lw_p3 : lw_okq (⟨"SliceHeap$Memory", "reachAll", "([JI)V"⟩, 4) := ⟨⟨by decide +kernel, by decide +kernel⟩, List.mem_of_getElem? (i := 19) (by decide +kernel), List.mem_of_getElem? (i := 84) (by decide +kernel), List.mem_of_getElem? (i := 85) (by decide +kernel)⟩
theorem lw_p4 : lw_okq (⟨"SliceHeap$Memory", "thingOf", "(J)LSliceHeap$Thing;"⟩, 4) := ⟨⟨by decide +kernel, by decide +kernel⟩, List.mem_of_getElem? (i := 19) (by decide +kernel), List.mem_of_getElem? (i := 88) (by decide +kernel), List.mem_of_getElem? (i := 89) (by decide +kernel)⟩
theorem lw_p5 : lw_okq (⟨"SliceHeap$Memory", "reach", "(LSliceHeap$Thing;)V"⟩, 4) := ⟨⟨by decide +kernel, by decide +kernel⟩, List.mem_of_getElem? (i := 19) (by decide +kernel), List.mem_of_getElem? (i := 93) (by decide +kernel), List.mem_of_getElem? (i := 94) (by decide +kernel)⟩
theorem lw_p6 : lw_okq (⟨"SliceHeap$Memory", "followReached", "()V"⟩, 4) := ⟨⟨by decide +kernel, by decide +kernel⟩, List.mem_of_getElem? (i := 19) (by decide +kernel), List.mem_of_getElem? (i := 97) (by decide +kernel), List.mem_of_getElem? (i := 98) (by decide +kernel)⟩
theorem lw_p7 : lw_okq (⟨"SliceHeap$Memory", "place", "(IJ)J"⟩, 4) := ⟨⟨by decide +kernel, by decide +kernel⟩, List.mem_of_getElem? (i := 19) (by decide +kernel), List.mem_of_getElem? (i := 102) (by decide +kernel), List.mem_of_getElem? (i := 103) (by decide +kernel)⟩
theorem lw_p8 : lw_okq (⟨"SliceHeap$Memory", "firstUnreached", "()I"⟩, 4) := ⟨⟨by decide +kernel, by decide +kernel⟩, List.mem_of_getElem? (i := 19) (by decide +kernel), List.mem_of_getElem? (i := 106) (by decide +kernel), List.mem_of_getElem? (i := 107) (by decide +kernel)⟩
theorem lw_p9 : lw_okq (⟨"SliceHeap$Thing", "fill", "(IJ)V"⟩, 3) := ⟨⟨by decide +kernel, by decide +kernel⟩, List.mem_of_getElem? (i := 110) (by decide +kernel), List.mem_of_getElem? (i := 130) (by decide +kernel), List.mem_of_getElem? (i := 131) (by decide +kernel)⟩
theorem lw_p10 : lw_okq (⟨"SliceHeap", "tellFull", "()I"⟩, 7) := ⟨⟨by decide +kernel, by decide +kernel⟩, List.mem_of_getElem? (i := 7) (by decide +kernel), List.mem_of_getElem? (i := 134) (by decide +kernel), List.mem_of_getElem? (i := 135) (by decide +kernel)⟩
theorem lw_p11 : lw_okq (⟨"SliceHeap", "thingIn", "(I)LSliceHeap$Thing;"⟩, 7) := ⟨⟨by decide +kernel, by decide +kernel⟩, List.mem_of_getElem? (i := 7) (by decide +kernel), List.mem_of_getElem? (i := 142) (by decide +kernel), List.mem_of_getElem? (i := 143) (by decide +kernel)⟩
theorem lw_p12 : lw_okq (⟨"SliceHeap$Thing", "hasValue", "(I)Z"⟩, 3) := ⟨⟨by decide +kernel, by decide +kernel⟩, List.mem_of_getElem? (i := 110) (by decide +kernel), List.mem_of_getElem? (i := 163) (by decide +kernel), List.mem_of_getElem? (i := 164) (by decide +kernel)⟩
theorem lw_p13 : lw_okq (⟨"SliceHeapModel", "hasRoom", "(I)Z"⟩, 8) := ⟨⟨by decide +kernel, by decide +kernel⟩, List.mem_of_getElem? (i := 198) (by decide +kernel), List.mem_of_getElem? (i := 239) (by decide +kernel), List.mem_of_getElem? (i := 240) (by decide +kernel)⟩
theorem lw_p14 : lw_okq (⟨"SliceHeapModel", "reachable", "()I"⟩, 8) := ⟨⟨by decide +kernel, by decide +kernel⟩, List.mem_of_getElem? (i := 198) (by decide +kernel), List.mem_of_getElem? (i := 243) (by decide +kernel), List.mem_of_getElem? (i := 244) (by decide +kernel)⟩
theorem lw_p15 : lw_okq (⟨"SliceHeapModel", "goOver", "()V"⟩, 8) := ⟨⟨by decide +kernel, by decide +kernel⟩, List.mem_of_getElem? (i := 198) (by decide +kernel), List.mem_of_getElem? (i := 247) (by decide +kernel), List.mem_of_getElem? (i := 248) (by decide +kernel)⟩
def lw_privs_1 : List (MethodName × Nat) := [(⟨"SliceHeap", "hasRoomFor", "(I)Z"⟩, 7), (⟨"SliceHeap", "walk", "()V"⟩, 7), (⟨"SliceHeap$Memory", "forgetWalk", "()V"⟩, 4), (⟨"SliceHeap$Memory", "reachAll", "([JI)V"⟩, 4), (⟨"SliceHeap$Memory", "thingOf", "(J)LSliceHeap$Thing;"⟩, 4), (⟨"SliceHeap$Memory", "reach", "(LSliceHeap$Thing;)V"⟩, 4), (⟨"SliceHeap$Memory", "followReached", "()V"⟩, 4), (⟨"SliceHeap$Memory", "place", "(IJ)J"⟩, 4), (⟨"SliceHeap$Memory", "firstUnreached", "()I"⟩, 4), (⟨"SliceHeap$Thing", "fill", "(IJ)V"⟩, 3), (⟨"SliceHeap", "tellFull", "()I"⟩, 7), (⟨"SliceHeap", "thingIn", "(I)LSliceHeap$Thing;"⟩, 7), (⟨"SliceHeap$Thing", "hasValue", "(I)Z"⟩, 3), (⟨"SliceHeapModel", "hasRoom", "(I)Z"⟩, 8), (⟨"SliceHeapModel", "reachable", "()I"⟩, 8), (⟨"SliceHeapModel", "goOver", "()V"⟩, 8)]
theorem lw_r1 : ∀ q ∈ lw_privs_1, lw_okq q := List.forall_mem_cons.mpr ⟨lw_p0, List.forall_mem_cons.mpr ⟨lw_p1, List.forall_mem_cons.mpr ⟨lw_p2, List.forall_mem_cons.mpr ⟨lw_p3, List.forall_mem_cons.mpr ⟨lw_p4, List.forall_mem_cons.mpr ⟨lw_p5, List.forall_mem_cons.mpr ⟨lw_p6, List.forall_mem_cons.mpr ⟨lw_p7, List.forall_mem_cons.mpr ⟨lw_p8, List.forall_mem_cons.mpr ⟨lw_p9, List.forall_mem_cons.mpr ⟨lw_p10, List.forall_mem_cons.mpr ⟨lw_p11, List.forall_mem_cons.mpr ⟨lw_p12, List.forall_mem_cons.mpr ⟨lw_p13, List.forall_mem_cons.mpr ⟨lw_p14, List.forall_mem_cons.mpr ⟨lw_p15, fun _ h => absurd h List.not_mem_nil⟩⟩⟩⟩⟩⟩⟩⟩⟩⟩⟩⟩⟩⟩⟩⟩
theorem lw_p16 : lw_okq (⟨"SliceHeapModel", "reach", "(I)Z"⟩, 8) := ⟨⟨by decide +kernel, by decide +kernel⟩, List.mem_of_getElem? (i := 198) (by decide +kernel), List.mem_of_getElem? (i := 251) (by decide +kernel), List.mem_of_getElem? (i := 252) (by decide +kernel)⟩
theorem lw_p17 : lw_okq (⟨"SliceHeapModel", "move", "(II)V"⟩, 8) := ⟨⟨by decide +kernel, by decide +kernel⟩, List.mem_of_getElem? (i := 198) (by decide +kernel), List.mem_of_getElem? (i := 258) (by decide +kernel), List.mem_of_getElem? (i := 259) (by decide +kernel)⟩
theorem lw_p18 : lw_okq (⟨"SliceHeapModel", "hasObject", "(I)Z"⟩, 8) := ⟨⟨by decide +kernel, by decide +kernel⟩, List.mem_of_getElem? (i := 198) (by decide +kernel), List.mem_of_getElem? (i := 266) (by decide +kernel), List.mem_of_getElem? (i := 267) (by decide +kernel)⟩
theorem lw_p19 : lw_okq (⟨"SliceHeapModel", "empty", "(I)V"⟩, 8) := ⟨⟨by decide +kernel, by decide +kernel⟩, List.mem_of_getElem? (i := 198) (by decide +kernel), List.mem_of_getElem? (i := 274) (by decide +kernel), List.mem_of_getElem? (i := 275) (by decide +kernel)⟩
theorem lw_p20 : lw_okq (⟨"SliceHeapModel", "hasValue", "(II)Z"⟩, 8) := ⟨⟨by decide +kernel, by decide +kernel⟩, List.mem_of_getElem? (i := 198) (by decide +kernel), List.mem_of_getElem? (i := 290) (by decide +kernel), List.mem_of_getElem? (i := 291) (by decide +kernel)⟩
def lw_privs_2 : List (MethodName × Nat) := [(⟨"SliceHeapModel", "reach", "(I)Z"⟩, 8), (⟨"SliceHeapModel", "move", "(II)V"⟩, 8), (⟨"SliceHeapModel", "hasObject", "(I)Z"⟩, 8), (⟨"SliceHeapModel", "empty", "(I)V"⟩, 8), (⟨"SliceHeapModel", "hasValue", "(II)Z"⟩, 8)]
theorem lw_r2 : ∀ q ∈ lw_privs_2, lw_okq q := List.forall_mem_cons.mpr ⟨lw_p16, List.forall_mem_cons.mpr ⟨lw_p17, List.forall_mem_cons.mpr ⟨lw_p18, List.forall_mem_cons.mpr ⟨lw_p19, List.forall_mem_cons.mpr ⟨lw_p20, fun _ h => absurd h List.not_mem_nil⟩⟩⟩⟩⟩
def lw_privs : List (MethodName × Nat) := lw_privs_1 ++ (lw_privs_2)
def lw_tbl : List Cond := k2_sels lw_privs ++ tables_1
theorem lw_privs_ok : ∀ q ∈ lw_privs, lw_okq q := by
  show ∀ q ∈ lw_privs_1 ++ (lw_privs_2), lw_okq q
  exact List.forall_mem_append.mpr ⟨lw_r1, lw_r2⟩
end
section
def RX0 : String := "SliceHeap$Memory"
def TX0 : u_T := fun k => match k with
  | 0 => ("SliceHeap$Memory", "rows", "[LSliceHeap$Thing;", true)
  | 1 => ("SliceHeap$Memory", "reached", "[LSliceHeap$Thing;", true)
  | 2 => ("SliceHeap$Memory", "reachedObjects", "I", false)
  | _ => ("SliceHeap$Memory", "reachedCells", "I", false)
def tyX0 : Nat → FieldType := fun k => match k with
  | 0 => .array (.object "SliceHeap$Thing")
  | 1 => .array (.object "SliceHeap$Thing")
  | 2 => .int
  | _ => .int
abbrev wsX00 : List Cond := u_ws RX0 TX0 4
theorem nmX0 : ∀ a, a < 4 → ∀ b, b < 4 → a ≠ b → (TX0 a).2.1 ≠ (TX0 b).2.1 := by decide +kernel
theorem tyX0_ok : ∀ k, k < 4 → parseFieldDescriptor (TX0 k).2.2.1 = some (tyX0 k) := by decide +kernel
def RX1 : String := "SliceHeap$Thing"
def TX1 : u_T := fun k => match k with
  | 0 => ("SliceHeap$Thing", "values", "[J", true)
  | 1 => ("SliceHeap$Thing", "size", "I", false)
  | _ => ("SliceHeap$Thing", "reached", "Z", false)
def tyX1 : Nat → FieldType := fun k => match k with
  | 0 => .array .long
  | 1 => .int
  | _ => .boolean
abbrev wsX10 : List Cond := u_ws RX1 TX1 3
theorem nmX1 : ∀ a, a < 3 → ∀ b, b < 3 → a ≠ b → (TX1 a).2.1 ≠ (TX1 b).2.1 := by decide +kernel
theorem tyX1_ok : ∀ k, k < 3 → parseFieldDescriptor (TX1 k).2.2.1 = some (tyX1 k) := by decide +kernel
def RX2 : String := "SliceHeap"
def TX2 : u_T := fun k => match k with
  | 0 => ("SliceHeap", "cells", "I", true)
  | 1 => ("SliceHeap", "registers", "[J", true)
  | 2 => ("SliceHeap", "stack", "[J", true)
  | 3 => ("SliceHeap", "memory", "LSliceHeap$Memory;", true)
  | 4 => ("SliceHeap", "stacked", "I", false)
  | 5 => ("SliceHeap", "madeInAll", "I", false)
  | _ => ("SliceHeap", "timesFull", "I", false)
def tyX2 : Nat → FieldType := fun k => match k with
  | 0 => .int
  | 1 => .array .long
  | 2 => .array .long
  | 3 => .object "SliceHeap$Memory"
  | 4 => .int
  | 5 => .int
  | _ => .int
abbrev wsX20 : List Cond := u_ws RX2 TX2 7
theorem nmX2 : ∀ a, a < 7 → ∀ b, b < 7 → a ≠ b → (TX2 a).2.1 ≠ (TX2 b).2.1 := by decide +kernel
theorem tyX2_ok : ∀ k, k < 7 → parseFieldDescriptor (TX2 k).2.2.1 = some (tyX2 k) := by decide +kernel
def RX3 : String := "SliceHeapModel"
def TX3 : u_T := fun k => match k with
  | 0 => ("SliceHeapModel", "cells", "I", true)
  | 1 => ("SliceHeapModel", "kinds", "[B", true)
  | 2 => ("SliceHeapModel", "values", "[I", true)
  | 3 => ("SliceHeapModel", "stacked", "I", false)
  | 4 => ("SliceHeapModel", "made", "I", false)
  | 5 => ("SliceHeapModel", "sizes", "[I", true)
  | 6 => ("SliceHeapModel", "reached", "[Z", true)
  | _ => ("SliceHeapModel", "full", "I", false)
def tyX3 : Nat → FieldType := fun k => match k with
  | 0 => .int
  | 1 => .array .byte
  | 2 => .array .int
  | 3 => .int
  | 4 => .int
  | 5 => .array .int
  | 6 => .array .boolean
  | _ => .int
abbrev wsX30 : List Cond := u_ws RX3 TX3 8
theorem nmX3 : ∀ a, a < 8 → ∀ b, b < 8 → a ≠ b → (TX3 a).2.1 ≠ (TX3 b).2.1 := by decide +kernel
theorem tyX3_ok : ∀ k, k < 8 → parseFieldDescriptor (TX3 k).2.2.1 = some (tyX3 k) := by decide +kernel
def RL : String := "SliceHeapLaw"
def RJ : String := "java/util/Arrays"
abbrev cX2_init : ByteArray := prog_1_method_1_code
def yX2_init : MethodName := ⟨RX2, "<init>", "(I)V"⟩
abbrev cJ_fill : ByteArray := prog_6_method_101_code
def yJ_fill : MethodName := ⟨RJ, "fill", "([JJ)V"⟩
abbrev cX0_init : ByteArray := prog_2_method_1_code
def yX0_init : MethodName := ⟨RX0, "<init>", "(I)V"⟩
abbrev cX2_make : ByteArray := prog_1_method_2_code
def yX2_make : MethodName := ⟨RX2, "make", "(III)I"⟩
abbrev cX2_isRegister : ByteArray := prog_1_method_15_code
def yX2_isRegister : MethodName := ⟨RX2, "isRegister", "(I)Z"⟩
abbrev cX2_hasRoomFor : ByteArray := prog_1_method_18_code
def yX2_hasRoomFor : MethodName := ⟨RX2, "hasRoomFor", "(I)Z"⟩
abbrev cX2_walk : ByteArray := prog_1_method_19_code
def yX2_walk : MethodName := ⟨RX2, "walk", "()V"⟩
abbrev cX0_forgetWalk : ByteArray := prog_2_method_5_code
def yX0_forgetWalk : MethodName := ⟨RX0, "forgetWalk", "()V"⟩
abbrev cX0_reachAll : ByteArray := prog_2_method_6_code
def yX0_reachAll : MethodName := ⟨RX0, "reachAll", "([JI)V"⟩
abbrev cX0_thingOf : ByteArray := prog_2_method_2_code
def yX0_thingOf : MethodName := ⟨RX0, "thingOf", "(J)LSliceHeap$Thing;"⟩
abbrev cX0_reach : ByteArray := prog_2_method_7_code
def yX0_reach : MethodName := ⟨RX0, "reach", "(LSliceHeap$Thing;)V"⟩
abbrev cX0_followReached : ByteArray := prog_2_method_8_code
def yX0_followReached : MethodName := ⟨RX0, "followReached", "()V"⟩
abbrev cX0_place : ByteArray := prog_2_method_3_code
def yX0_place : MethodName := ⟨RX0, "place", "(IJ)J"⟩
abbrev cX0_firstUnreached : ByteArray := prog_2_method_4_code
def yX0_firstUnreached : MethodName := ⟨RX0, "firstUnreached", "()I"⟩
abbrev cX1_init : ByteArray := prog_3_method_1_code
def yX1_init : MethodName := ⟨RX1, "<init>", "()V"⟩
abbrev cX1_fill : ByteArray := prog_3_method_3_code
def yX1_fill : MethodName := ⟨RX1, "fill", "(IJ)V"⟩
abbrev cX2_tellFull : ByteArray := prog_1_method_17_code
def yX2_tellFull : MethodName := ⟨RX2, "tellFull", "()I"⟩
abbrev cX2_grow : ByteArray := prog_1_method_3_code
def yX2_grow : MethodName := ⟨RX2, "grow", "(II)I"⟩
abbrev cX2_thingIn : ByteArray := prog_1_method_16_code
def yX2_thingIn : MethodName := ⟨RX2, "thingIn", "(I)LSliceHeap$Thing;"⟩
abbrev cX2_shrink : ByteArray := prog_1_method_4_code
def yX2_shrink : MethodName := ⟨RX2, "shrink", "(I)I"⟩
abbrev cX2_number : ByteArray := prog_1_method_5_code
def yX2_number : MethodName := ⟨RX2, "number", "(II)Z"⟩
abbrev cX2_copy : ByteArray := prog_1_method_6_code
def yX2_copy : MethodName := ⟨RX2, "copy", "(II)Z"⟩
abbrev cX2_get : ByteArray := prog_1_method_7_code
def yX2_get : MethodName := ⟨RX2, "get", "(III)Z"⟩
abbrev cX1_hasValue : ByteArray := prog_3_method_2_code
def yX1_hasValue : MethodName := ⟨RX1, "hasValue", "(I)Z"⟩
abbrev cX2_set : ByteArray := prog_1_method_8_code
def yX2_set : MethodName := ⟨RX2, "set", "(III)Z"⟩
abbrev cX2_push : ByteArray := prog_1_method_9_code
def yX2_push : MethodName := ⟨RX2, "push", "(I)I"⟩
abbrev cX2_pop : ByteArray := prog_1_method_10_code
def yX2_pop : MethodName := ⟨RX2, "pop", "(I)I"⟩
abbrev cX2_look : ByteArray := prog_1_method_11_code
def yX2_look : MethodName := ⟨RX2, "look", "(I)I"⟩
abbrev cX2_numberIn : ByteArray := prog_1_method_12_code
def yX2_numberIn : MethodName := ⟨RX2, "numberIn", "(I)I"⟩
abbrev cX2_same : ByteArray := prog_1_method_13_code
def yX2_same : MethodName := ⟨RX2, "same", "(II)I"⟩
abbrev cX2_count : ByteArray := prog_1_method_14_code
def yX2_count : MethodName := ⟨RX2, "count", "(I)I"⟩
abbrev cL_cell : ByteArray := method_2_code
def yL_cell : MethodName := ⟨RL, "cell", "([II)I"⟩
abbrev cX3_init : ByteArray := prog_5_method_1_code
def yX3_init : MethodName := ⟨RX3, "<init>", "(I)V"⟩
abbrev cX3_make : ByteArray := prog_5_method_11_code
def yX3_make : MethodName := ⟨RX3, "make", "(III)I"⟩
abbrev cX3_isRegister : ByteArray := prog_5_method_2_code
def yX3_isRegister : MethodName := ⟨RX3, "isRegister", "(I)Z"⟩
abbrev cX3_hasRoom : ByteArray := prog_5_method_10_code
def yX3_hasRoom : MethodName := ⟨RX3, "hasRoom", "(I)Z"⟩
abbrev cX3_reachable : ByteArray := prog_5_method_9_code
def yX3_reachable : MethodName := ⟨RX3, "reachable", "()I"⟩
abbrev cX3_goOver : ByteArray := prog_5_method_8_code
def yX3_goOver : MethodName := ⟨RX3, "goOver", "()V"⟩
abbrev cX3_reach : ByteArray := prog_5_method_7_code
def yX3_reach : MethodName := ⟨RX3, "reach", "(I)Z"⟩
abbrev cX3_placeOf : ByteArray := prog_5_method_4_code
def yX3_placeOf : MethodName := ⟨RX3, "placeOf", "(II)I"⟩
abbrev cX3_move : ByteArray := prog_5_method_5_code
def yX3_move : MethodName := ⟨RX3, "move", "(II)V"⟩
abbrev cX3_grow : ByteArray := prog_5_method_12_code
def yX3_grow : MethodName := ⟨RX3, "grow", "(II)I"⟩
abbrev cX3_hasObject : ByteArray := prog_5_method_3_code
def yX3_hasObject : MethodName := ⟨RX3, "hasObject", "(I)Z"⟩
abbrev cX3_shrink : ByteArray := prog_5_method_13_code
def yX3_shrink : MethodName := ⟨RX3, "shrink", "(I)I"⟩
abbrev cX3_empty : ByteArray := prog_5_method_6_code
def yX3_empty : MethodName := ⟨RX3, "empty", "(I)V"⟩
abbrev cX3_number : ByteArray := prog_5_method_14_code
def yX3_number : MethodName := ⟨RX3, "number", "(II)Z"⟩
abbrev cX3_copy : ByteArray := prog_5_method_15_code
def yX3_copy : MethodName := ⟨RX3, "copy", "(II)Z"⟩
abbrev cX3_get : ByteArray := prog_5_method_17_code
def yX3_get : MethodName := ⟨RX3, "get", "(III)Z"⟩
abbrev cX3_hasValue : ByteArray := prog_5_method_16_code
def yX3_hasValue : MethodName := ⟨RX3, "hasValue", "(II)Z"⟩
abbrev cX3_set : ByteArray := prog_5_method_18_code
def yX3_set : MethodName := ⟨RX3, "set", "(III)Z"⟩
abbrev cX3_push : ByteArray := prog_5_method_19_code
def yX3_push : MethodName := ⟨RX3, "push", "(I)I"⟩
abbrev cX3_pop : ByteArray := prog_5_method_20_code
def yX3_pop : MethodName := ⟨RX3, "pop", "(I)I"⟩
abbrev cX3_look : ByteArray := prog_5_method_21_code
def yX3_look : MethodName := ⟨RX3, "look", "(I)I"⟩
abbrev cX3_numberIn : ByteArray := prog_5_method_22_code
def yX3_numberIn : MethodName := ⟨RX3, "numberIn", "(I)I"⟩
abbrev cX3_same : ByteArray := prog_5_method_23_code
def yX3_same : MethodName := ⟨RX3, "same", "(II)I"⟩
abbrev cX3_count : ByteArray := prog_5_method_24_code
def yX3_count : MethodName := ⟨RX3, "count", "(I)I"⟩
abbrev vwCl : List vw_C := [(RX0, TX0, 4), (RX1, TX1, 3), (RX2, TX2, 7), (RX3, TX3, 8)]
/-- the words of all methods -/
def AL : List Cond := [.initialized "SliceHeapLaw",
  .initialized "SliceHeap",
  .initialized "java/util/Arrays",
  .initialized "SliceHeap$Memory",
  .initialized "SliceHeapModel",
  .initialized "SliceHeap$Thing",
  .classLink "SliceHeapLaw" 7 "SliceHeap",
  .instantiable "SliceHeap" 7,
  .methodLink "SliceHeapLaw" 15 yX2_init,
  .instanceMethod yX2_init,
  .code yX2_init prog_1_method_1_code 2 (Option.none : Option Jvm.ClassFile.FieldType),
  .methodLink "SliceHeap" 3 objectInit,
  .instanceMethod objectInit,
  .code objectInit object_method_1_code 1 (Option.none : Option Jvm.ClassFile.FieldType),
  .constantLong "SliceHeap" 17 4294967296,
  .methodLink "SliceHeap" 19 yJ_fill,
  .static yJ_fill,
  .code yJ_fill prog_6_method_101_code 5 (Option.none : Option Jvm.ClassFile.FieldType),
  .classLink "SliceHeap" 28 "SliceHeap$Memory",
  .instantiable "SliceHeap$Memory" 4,
  .instanceMethod yX0_init,
  .code yX0_init prog_2_method_1_code 2 (Option.none : Option Jvm.ClassFile.FieldType),
  .methodLink "SliceHeap$Memory" 3 objectInit,
  .classLink "SliceHeap$Memory" 9 "SliceHeap$Thing",
  .fieldLink "SliceHeap$Memory" 11 "SliceHeap$Memory" "rows" "[LSliceHeap$Thing;",
  .fieldLink "SliceHeap$Memory" 17 "SliceHeap$Memory" "reached" "[LSliceHeap$Thing;",
  .fieldLink "SliceHeap$Memory" 36 "SliceHeap$Memory" "reachedObjects" "I",
  .fieldLink "SliceHeap$Memory" 40 "SliceHeap$Memory" "reachedCells" "I",
  .laysFinal "SliceHeap$Memory" "SliceHeap$Memory" "rows" "[LSliceHeap$Thing;",
  .laysFinal "SliceHeap$Memory" "SliceHeap$Memory" "reached" "[LSliceHeap$Thing;",
  .lays "SliceHeap$Memory" "SliceHeap$Memory" "reachedObjects" "I",
  .lays "SliceHeap$Memory" "SliceHeap$Memory" "reachedCells" "I",
  .arrayClass .long,
  .fieldLink "SliceHeap" 9 "SliceHeap" "cells" "I",
  .fieldLink "SliceHeap" 13 "SliceHeap" "registers" "[J",
  .fieldLink "SliceHeap" 25 "SliceHeap" "stack" "[J",
  .fieldLink "SliceHeap" 33 "SliceHeap" "memory" "LSliceHeap$Memory;",
  .fieldLink "SliceHeap" 70 "SliceHeap" "stacked" "I",
  .fieldLink "SliceHeap" 52 "SliceHeap" "madeInAll" "I",
  .fieldLink "SliceHeap" 82 "SliceHeap" "timesFull" "I",
  .laysFinal "SliceHeap" "SliceHeap" "cells" "I",
  .laysFinal "SliceHeap" "SliceHeap" "registers" "[J",
  .laysFinal "SliceHeap" "SliceHeap" "stack" "[J",
  .laysFinal "SliceHeap" "SliceHeap" "memory" "LSliceHeap$Memory;",
  .lays "SliceHeap" "SliceHeap" "stacked" "I",
  .lays "SliceHeap" "SliceHeap" "madeInAll" "I",
  .lays "SliceHeap" "SliceHeap" "timesFull" "I",
  .methodLink "SliceHeapLaw" 21 yX2_make,
  .instanceMethod yX2_make,
  .code yX2_make prog_1_method_2_code 6 (Option.some .int),
  .methodLink "SliceHeap" 37 yX2_isRegister,
  .static yX2_isRegister,
  .code yX2_isRegister prog_1_method_15_code 1 (Option.some .boolean),
  .methodLink "SliceHeap" 41 yX2_hasRoomFor,
  .instanceMethod yX2_hasRoomFor,
  .code yX2_hasRoomFor prog_1_method_18_code 2 (Option.some .boolean),
  .methodLink "SliceHeap" 73 yX2_walk,
  .instanceMethod yX2_walk,
  .code yX2_walk prog_1_method_19_code 1 (Option.none : Option Jvm.ClassFile.FieldType),
  .instanceMethod yX0_forgetWalk,
  .code yX0_forgetWalk prog_2_method_5_code 2 (Option.none : Option Jvm.ClassFile.FieldType),
  .instanceMethod yX0_reachAll,
  .code yX0_reachAll prog_2_method_6_code 4 (Option.none : Option Jvm.ClassFile.FieldType),
  .methodLink "SliceHeap$Memory" 43 yX0_thingOf,
  .instanceMethod yX0_thingOf,
  .code yX0_thingOf prog_2_method_2_code 5 (Option.some (.object "SliceHeap$Thing")),
  .constantLong "SliceHeap$Memory" 20 4294967297,
  .methodLink "SliceHeap$Memory" 47 yX0_reach,
  .instanceMethod yX0_reach,
  .code yX0_reach prog_2_method_7_code 2 (Option.none : Option Jvm.ClassFile.FieldType),
  .instanceMethod yX0_followReached,
  .code yX0_followReached prog_2_method_8_code 2 (Option.none : Option Jvm.ClassFile.FieldType),
  .methodLink "SliceHeap$Memory" 58 yX0_reachAll,
  .instanceMethod yX0_place,
  .code yX0_place prog_2_method_3_code 5 (Option.some .long),
  .methodLink "SliceHeap$Memory" 22 yX0_firstUnreached,
  .instanceMethod yX0_firstUnreached,
  .code yX0_firstUnreached prog_2_method_4_code 2 (Option.some .int),
  .constantLong "SliceHeap$Memory" 26 4294967296,
  .instantiable "SliceHeap$Thing" 3,
  .instanceMethod yX1_init,
  .code yX1_init prog_3_method_1_code 1 (Option.none : Option Jvm.ClassFile.FieldType),
  .methodLink "SliceHeap$Thing" 3 objectInit,
  .fieldLink "SliceHeap$Thing" 9 "SliceHeap$Thing" "values" "[J",
  .fieldLink "SliceHeap$Thing" 15 "SliceHeap$Thing" "size" "I",
  .laysFinal "SliceHeap$Thing" "SliceHeap$Thing" "values" "[J",
  .lays "SliceHeap$Thing" "SliceHeap$Thing" "size" "I",
  .lays "SliceHeap$Thing" "SliceHeap$Thing" "reached" "Z",
  .instanceMethod yX1_fill,
  .code yX1_fill prog_3_method_3_code 5 (Option.none : Option Jvm.ClassFile.FieldType),
  .methodLink "SliceHeap" 48 yX2_tellFull,
  .instanceMethod yX2_tellFull,
  .code yX2_tellFull prog_1_method_17_code 1 (Option.some .int),
  .methodLink "SliceHeapLaw" 26 yX2_grow,
  .instanceMethod yX2_grow,
  .code yX2_grow prog_1_method_3_code 4 (Option.some .int),
  .methodLink "SliceHeap" 55 yX2_thingIn,
  .instanceMethod yX2_thingIn,
  .code yX2_thingIn prog_1_method_16_code 2 (Option.some (.object "SliceHeap$Thing")),
  .methodLink "SliceHeapLaw" 31 yX2_shrink,
  .instanceMethod yX2_shrink,
  .code yX2_shrink prog_1_method_4_code 3 (Option.some .int),
  .methodLink "SliceHeapLaw" 36 yX2_number,
  .instanceMethod yX2_number,
  .code yX2_number prog_1_method_5_code 3 (Option.some .boolean),
  .methodLink "SliceHeapLaw" 41 yX2_copy,
  .instanceMethod yX2_copy,
  .code yX2_copy prog_1_method_6_code 3 (Option.some .boolean),
  .methodLink "SliceHeapLaw" 45 yX2_get,
  .instanceMethod yX2_get,
  .code yX2_get prog_1_method_7_code 5 (Option.some .boolean),
  .instanceMethod yX1_hasValue,
  .code yX1_hasValue prog_3_method_2_code 2 (Option.some .boolean),
  .methodLink "SliceHeapLaw" 50 yX2_set,
  .instanceMethod yX2_set,
  .code yX2_set prog_1_method_8_code 5 (Option.some .boolean),
  .methodLink "SliceHeapLaw" 54 yX2_push,
  .instanceMethod yX2_push,
  .code yX2_push prog_1_method_9_code 2 (Option.some .int),
  .methodLink "SliceHeapLaw" 58 yX2_pop,
  .instanceMethod yX2_pop,
  .code yX2_pop prog_1_method_10_code 2 (Option.some .int),
  .methodLink "SliceHeapLaw" 62 yX2_look,
  .instanceMethod yX2_look,
  .code yX2_look prog_1_method_11_code 3 (Option.some .int),
  .methodLink "SliceHeapLaw" 66 yX2_numberIn,
  .instanceMethod yX2_numberIn,
  .code yX2_numberIn prog_1_method_12_code 2 (Option.some .int),
  .methodLink "SliceHeapLaw" 70 yX2_same,
  .instanceMethod yX2_same,
  .code yX2_same prog_1_method_13_code 3 (Option.some .int),
  .methodLink "SliceHeapLaw" 74 yX2_count,
  .instanceMethod yX2_count,
  .code yX2_count prog_1_method_14_code 2 (Option.some .int),
  .methodLink "SliceHeapLaw" 9 yL_cell,
  .static yL_cell,
  .code yL_cell method_2_code 2 (Option.some .int),
  .classLink "SliceHeapLaw" 18 "SliceHeapModel",
  .instantiable "SliceHeapModel" 8,
  .methodLink "SliceHeapLaw" 20 yX3_init,
  .instanceMethod yX3_init,
  .code yX3_init prog_5_method_1_code 2 (Option.none : Option Jvm.ClassFile.FieldType),
  .methodLink "SliceHeapModel" 1 objectInit,
  .fieldLink "SliceHeapModel" 24 "SliceHeapModel" "cells" "I",
  .fieldLink "SliceHeapModel" 7 "SliceHeapModel" "kinds" "[B",
  .fieldLink "SliceHeapModel" 13 "SliceHeapModel" "values" "[I",
  .fieldLink "SliceHeapModel" 35 "SliceHeapModel" "stacked" "I",
  .fieldLink "SliceHeapModel" 32 "SliceHeapModel" "made" "I",
  .fieldLink "SliceHeapModel" 17 "SliceHeapModel" "sizes" "[I",
  .fieldLink "SliceHeapModel" 20 "SliceHeapModel" "reached" "[Z",
  .fieldLink "SliceHeapModel" 52 "SliceHeapModel" "full" "I",
  .laysFinal "SliceHeapModel" "SliceHeapModel" "cells" "I",
  .laysFinal "SliceHeapModel" "SliceHeapModel" "kinds" "[B",
  .laysFinal "SliceHeapModel" "SliceHeapModel" "values" "[I",
  .lays "SliceHeapModel" "SliceHeapModel" "stacked" "I",
  .lays "SliceHeapModel" "SliceHeapModel" "made" "I",
  .laysFinal "SliceHeapModel" "SliceHeapModel" "sizes" "[I",
  .laysFinal "SliceHeapModel" "SliceHeapModel" "reached" "[Z",
  .lays "SliceHeapModel" "SliceHeapModel" "full" "I",
  .arrayClass .byte,
  .arrayClass .int,
  .arrayClass .boolean,
  .methodLink "SliceHeapLaw" 25 yX3_make,
  .instanceMethod yX3_make,
  .code yX3_make prog_5_method_11_code 5 (Option.some .int),
  .methodLink "SliceHeapModel" 28 yX3_isRegister,
  .static yX3_isRegister,
  .code yX3_isRegister prog_5_method_2_code 1 (Option.some .boolean),
  .methodLink "SliceHeapModel" 55 yX3_hasRoom,
  .instanceMethod yX3_hasRoom,
  .code yX3_hasRoom prog_5_method_10_code 3 (Option.some .boolean),
  .methodLink "SliceHeapModel" 48 yX3_reachable,
  .instanceMethod yX3_reachable,
  .code yX3_reachable prog_5_method_9_code 3 (Option.some .int),
  .methodLink "SliceHeapModel" 45 yX3_goOver,
  .instanceMethod yX3_goOver,
  .code yX3_goOver prog_5_method_8_code 4 (Option.none : Option Jvm.ClassFile.FieldType),
  .methodLink "SliceHeapModel" 38 yX3_reach,
  .instanceMethod yX3_reach,
  .code yX3_reach prog_5_method_7_code 2 (Option.some .boolean),
  .methodLink "SliceHeapModel" 41 yX3_placeOf,
  .static yX3_placeOf,
  .code yX3_placeOf prog_5_method_4_code 2 (Option.some .int),
  .methodLink "SliceHeapModel" 58 yX3_move,
  .instanceMethod yX3_move,
  .code yX3_move prog_5_method_5_code 3 (Option.none : Option Jvm.ClassFile.FieldType),
  .methodLink "SliceHeapLaw" 30 yX3_grow,
  .instanceMethod yX3_grow,
  .code yX3_grow prog_5_method_12_code 4 (Option.some .int),
  .methodLink "SliceHeapModel" 62 yX3_hasObject,
  .instanceMethod yX3_hasObject,
  .code yX3_hasObject prog_5_method_3_code 2 (Option.some .boolean),
  .methodLink "SliceHeapLaw" 35 yX3_shrink,
  .instanceMethod yX3_shrink,
  .code yX3_shrink prog_5_method_13_code 3 (Option.some .int),
  .methodLink "SliceHeapModel" 65 yX3_empty,
  .instanceMethod yX3_empty,
  .code yX3_empty prog_5_method_6_code 2 (Option.none : Option Jvm.ClassFile.FieldType),
  .methodLink "SliceHeapLaw" 40 yX3_number,
  .instanceMethod yX3_number,
  .code yX3_number prog_5_method_14_code 3 (Option.some .boolean),
  .methodLink "SliceHeapLaw" 44 yX3_copy,
  .instanceMethod yX3_copy,
  .code yX3_copy prog_5_method_15_code 3 (Option.some .boolean),
  .methodLink "SliceHeapLaw" 49 yX3_get,
  .instanceMethod yX3_get,
  .code yX3_get prog_5_method_17_code 4 (Option.some .boolean),
  .methodLink "SliceHeapModel" 69 yX3_hasValue,
  .instanceMethod yX3_hasValue,
  .code yX3_hasValue prog_5_method_16_code 3 (Option.some .boolean),
  .methodLink "SliceHeapLaw" 53 yX3_set,
  .instanceMethod yX3_set,
  .code yX3_set prog_5_method_18_code 4 (Option.some .boolean),
  .methodLink "SliceHeapLaw" 57 yX3_push,
  .instanceMethod yX3_push,
  .code yX3_push prog_5_method_19_code 2 (Option.some .int),
  .methodLink "SliceHeapLaw" 61 yX3_pop,
  .instanceMethod yX3_pop,
  .code yX3_pop prog_5_method_20_code 2 (Option.some .int),
  .methodLink "SliceHeapLaw" 65 yX3_look,
  .instanceMethod yX3_look,
  .code yX3_look prog_5_method_21_code 2 (Option.some .int),
  .methodLink "SliceHeapLaw" 69 yX3_numberIn,
  .instanceMethod yX3_numberIn,
  .code yX3_numberIn prog_5_method_22_code 2 (Option.some .int),
  .methodLink "SliceHeapLaw" 73 yX3_same,
  .instanceMethod yX3_same,
  .code yX3_same prog_5_method_23_code 3 (Option.some .int),
  .methodLink "SliceHeapLaw" 77 yX3_count,
  .instanceMethod yX3_count,
  .code yX3_count prog_5_method_24_code 5 (Option.some .int),
  .selects "SliceHeap" yX2_hasRoomFor yX2_hasRoomFor,
  .selects "SliceHeap" yX2_walk yX2_walk,
  .selects "SliceHeap$Memory" yX0_forgetWalk yX0_forgetWalk,
  .selects "SliceHeap$Memory" yX0_reachAll yX0_reachAll,
  .selects "SliceHeap$Memory" yX0_thingOf yX0_thingOf,
  .selects "SliceHeap$Memory" yX0_reach yX0_reach,
  .selects "SliceHeap$Memory" yX0_followReached yX0_followReached,
  .selects "SliceHeap$Memory" yX0_place yX0_place,
  .selects "SliceHeap$Memory" yX0_firstUnreached yX0_firstUnreached,
  .selects "SliceHeap$Thing" yX1_fill yX1_fill,
  .selects "SliceHeap" yX2_tellFull yX2_tellFull,
  .selects "SliceHeap" yX2_thingIn yX2_thingIn,
  .selects "SliceHeap$Thing" yX1_hasValue yX1_hasValue,
  .selects "SliceHeapModel" yX3_hasRoom yX3_hasRoom,
  .selects "SliceHeapModel" yX3_reachable yX3_reachable,
  .selects "SliceHeapModel" yX3_goOver yX3_goOver,
  .selects "SliceHeapModel" yX3_reach yX3_reach,
  .selects "SliceHeapModel" yX3_move yX3_move,
  .selects "SliceHeapModel" yX3_hasObject yX3_hasObject,
  .selects "SliceHeapModel" yX3_empty yX3_empty,
  .selects "SliceHeapModel" yX3_hasValue yX3_hasValue,
  .selects "SliceHeap" yX2_make yX2_make,
  .selects "SliceHeap" yX2_grow yX2_grow,
  .selects "SliceHeap" yX2_shrink yX2_shrink,
  .selects "SliceHeap" yX2_number yX2_number,
  .selects "SliceHeap" yX2_copy yX2_copy,
  .selects "SliceHeap" yX2_get yX2_get,
  .selects "SliceHeap" yX2_set yX2_set,
  .selects "SliceHeap" yX2_push yX2_push,
  .selects "SliceHeap" yX2_pop yX2_pop,
  .selects "SliceHeap" yX2_look yX2_look,
  .selects "SliceHeap" yX2_numberIn yX2_numberIn,
  .selects "SliceHeap" yX2_same yX2_same,
  .selects "SliceHeap" yX2_count yX2_count,
  .selects "SliceHeapModel" yX3_make yX3_make,
  .selects "SliceHeapModel" yX3_grow yX3_grow,
  .selects "SliceHeapModel" yX3_shrink yX3_shrink,
  .selects "SliceHeapModel" yX3_number yX3_number,
  .selects "SliceHeapModel" yX3_copy yX3_copy,
  .selects "SliceHeapModel" yX3_get yX3_get,
  .selects "SliceHeapModel" yX3_set yX3_set,
  .selects "SliceHeapModel" yX3_push yX3_push,
  .selects "SliceHeapModel" yX3_pop yX3_pop,
  .selects "SliceHeapModel" yX3_look yX3_look,
  .selects "SliceHeapModel" yX3_numberIn yX3_numberIn,
  .selects "SliceHeapModel" yX3_same yX3_same,
  .selects "SliceHeapModel" yX3_count yX3_count]
def NW : List Cond := [.methodLinkNest "SliceHeap" 30 yX0_init "SliceHeap",
  .fieldLinkNest "SliceHeap" 79 "SliceHeap$Memory" "reachedObjects" "I" "SliceHeap",
  .fieldLinkNest "SliceHeap" 76 "SliceHeap$Memory" "reachedCells" "I" "SliceHeap",
  .methodLinkNest "SliceHeap" 89 yX0_forgetWalk "SliceHeap",
  .methodLinkNest "SliceHeap" 92 yX0_reachAll "SliceHeap",
  .methodLinkNest "SliceHeap" 96 yX0_followReached "SliceHeap",
  .methodLinkNest "SliceHeap" 44 yX0_place "SliceHeap",
  .methodLinkNest "SliceHeap$Memory" 28 yX1_init "SliceHeap",
  .fieldLinkNest "SliceHeap" 64 "SliceHeap$Thing" "values" "[J" "SliceHeap",
  .fieldLinkNest "SliceHeap$Memory" 54 "SliceHeap$Thing" "values" "[J" "SliceHeap",
  .fieldLinkNest "SliceHeap" 59 "SliceHeap$Thing" "size" "I" "SliceHeap",
  .fieldLinkNest "SliceHeap$Memory" 51 "SliceHeap$Thing" "size" "I" "SliceHeap",
  .fieldLinkNest "SliceHeap$Memory" 33 "SliceHeap$Thing" "reached" "Z" "SliceHeap",
  .methodLinkNest "SliceHeap$Memory" 29 yX1_fill "SliceHeap",
  .methodLinkNest "SliceHeap" 85 yX0_thingOf "SliceHeap",
  .methodLinkNest "SliceHeap" 67 yX1_hasValue "SliceHeap"]
set_option maxRecDepth 100000 in
theorem al_eq : AL = ([21, 22, 23, 24, 25, 26, 27, 28, 29, 30, 31, 32, 33, 34, 35, 36, 37, 38, 39, 40, 42, 43, 44, 45, 47, 48, 49, 51, 53, 55, 57, 59, 62, 63, 64, 65, 66, 67, 68, 69, 70, 72, 74, 76, 78, 80, 82, 85, 86, 88, 89, 90, 91, 92, 94, 95, 96, 98, 99, 102, 103, 106, 107, 108, 110, 111, 112, 113, 115, 116, 119, 120, 121, 124, 125, 126, 128, 129, 130, 131, 133, 134, 135, 136, 139, 143, 145, 147, 152, 153, 154, 156, 157, 158, 159, 161, 162, 164, 165, 167, 168, 170, 171, 172, 174, 175, 176, 178, 179, 180, 182, 185, 186, 187, 188, 190, 191, 192, 194, 195, 196, 198, 199, 200, 202, 203, 204, 206, 207, 208, 210, 211, 212, 214, 215, 216, 217, 218, 219, 220, 221, 222, 223, 224, 225, 226, 227, 228, 229, 230, 231, 232, 234, 236, 238, 240, 242, 244, 246, 249, 250, 251, 252, 253, 255, 256, 257, 258, 259, 261, 262, 263, 265, 266, 267, 269, 270, 271, 273, 274, 275, 276, 277, 278, 280, 281, 282, 283, 285, 286, 288, 289, 290, 291, 293, 294, 296, 297, 298, 299, 301, 302, 303, 305, 306, 307, 309, 310, 312, 313, 314, 315, 317, 318, 319, 321, 322, 323, 325, 326, 327, 329, 330, 331, 333, 334, 335, 337, 338, 339, 341, 0, 1, 2, 3, 4, 5, 6, 7, 8, 9, 10, 11, 12, 13, 14, 15, 16, 17, 18, 19, 20, 87, 160, 169, 173, 177, 181, 189, 193, 197, 201, 205, 209, 213, 254, 284, 292, 300, 304, 308, 316, 320, 324, 328, 332, 336, 340] : List Nat).filterMap (fun i => lw_tbl[i]?) := by decide +kernel
theorem al_in : ∀ w ∈ AL, w ∈ lw_tbl := by
  intro w hw
  rw [al_eq] at hw
  obtain ⟨i, -, hi⟩ := List.mem_filterMap.mp hw
  exact List.mem_of_getElem? hi
set_option maxRecDepth 100000 in
theorem nw_eq : NW = ([41, 50, 52, 100, 104, 117, 122, 132, 137, 138, 140, 141, 142, 150, 166, 183] : List Nat).filterMap (fun i => lw_tbl[i]?) := by decide +kernel
theorem nw_in : ∀ w ∈ NW, w ∈ lw_tbl := by
  intro w hw
  rw [nw_eq] at hw
  obtain ⟨i, -, hi⟩ := List.mem_filterMap.mp hw
  exact List.mem_of_getElem? hi
set_option maxRecDepth 100000 in
theorem al_all : AL.all goodWord = true := by decide +kernel
theorem al_good : ∀ w ∈ AL, (w.onTables && w.keeps) = true ∨ ∃ ty, w = .arrayClass ty := fun w h => good_of_word (List.all_eq_true.mp al_all w h)
theorem al {w : Cond} (i : Nat) (h : AL[i]? = some w) : w ∈ AL := List.mem_of_getElem? h
theorem am {a w : Cond} (i : Nat) (h : AL[i]? = some w) : w ∈ a :: AL := List.mem_cons_of_mem _ (List.mem_of_getElem? h)
theorem nw {w : Cond} (i : Nat) (h : NW[i]? = some w) : w ∈ NW := List.mem_of_getElem? h
theorem gd0 {a c : Cond} (hc : c ∈ AL) : GoodIn (a :: AL) (c :: AL) := fun w hw => by
  have h : w ∈ AL := by
    rcases List.mem_cons.mp hw with h | h
    · rw [h]; exact hc
    · exact h
  exact ⟨List.mem_cons_of_mem _ h, al_good w h⟩
theorem gdL {a : Cond} {l ws : List Cond} (hl : ∀ w ∈ l, w ∈ AL) (h : GoodIn (a :: AL) ws) : GoodIn (a :: AL) (l ++ ws) := fun w hw => by
  rcases List.mem_append.mp hw with q | q
  · exact ⟨List.mem_cons_of_mem _ (hl w q), al_good w (hl w q)⟩
  · exact h w q
theorem gdV {a c : Cond} {own C : String} {idx : Nat} {y : MethodName} (h1 : .methodLink own idx y ∈ AL) (h2 : .instanceMethod y ∈ AL) (h3 : .selects C y y ∈ AL) (h4 : .initialized C ∈ AL) (hc : c ∈ AL) : GoodIn (a :: AL) (wsV own idx C y (c :: AL)) :=
  gdL (fun w hw => by
    simp only [List.mem_cons, List.not_mem_nil, or_false] at hw
    rcases hw with rfl | rfl | rfl | rfl
    · exact h1
    · exact h2
    · exact h3
    · exact h4) (gd0 hc)
theorem gdS {a c : Cond} {own : String} {idx : Nat} {y : MethodName} (h1 : .methodLink own idx y ∈ AL) (h2 : .static y ∈ AL) (h4 : .initialized own ∈ AL) (hc : c ∈ AL) : GoodIn (a :: AL) (wsS own idx y (c :: AL)) :=
  gdL (fun w hw => by
    simp only [List.mem_cons, List.not_mem_nil, or_false] at hw
    rcases hw with rfl | rfl | rfl
    · exact h1
    · exact h2
    · exact h4) (gd0 hc)
theorem gdO {a c : Cond} {own : String} {idx : Nat} {y : MethodName} (h1 : .methodLink own idx y ∈ AL) (h2 : .static y ∈ AL) (h4 : .initialized y.cls ∈ AL) (hc : c ∈ AL) : GoodIn (a :: AL) (va_wsS own idx y (c :: AL)) :=
  gdL (fun w hw => by
    simp only [List.mem_cons, List.not_mem_nil, or_false] at hw
    rcases hw with rfl | rfl | rfl
    · exact h1
    · exact h2
    · exact h4) (gd0 hc)
/-- the words of a nest, and the kind of the rows' array -/
def NF (U : State) : Prop := (∀ w ∈ NW, va_Nw w U) ∧ va_AO "SliceHeap$Thing" U
def isN : Cond → Bool
  | .fieldLinkNest .. => true
  | .methodLinkNest .. => true
  | _ => false
theorem nw_n : ∀ w ∈ NW, isN w = true := by decide +kernel
theorem va_Nw.sameN {w : Cond} (h : isN w = true) {u U : State} (hv : u.vm = U.vm) (hZ : va_Nw w u) : va_Nw w U := by
  cases w <;> first | (simp [isN] at h; done) | exact va_Nw.same rfl hv hZ
theorem va_Nw.warmN {w : Cond} (h : isN w = true) {s U : State} (hW : s.WarmedH U.vm) (hZ : va_Nw w s) : va_Nw w U := by
  cases w <;> first | (simp [isN] at h; done) | exact va_Nw.warmF hW hZ | exact va_Nw.warmM hW hZ
theorem NF.same {u U : State} (hv : u.vm = U.vm) (h : NF u) : NF U := ⟨fun w hw => va_Nw.sameN (nw_n w hw) hv (h.1 w hw), va_AO.moved (by rw [hv]; exact Vm.Alike.refl _) h.2⟩
theorem NF.warm {s U : State} (hW : s.WarmedH U.vm) (h : NF s) : NF U := ⟨fun w hw => va_Nw.warmN (nw_n w hw) hW (h.1 w hw), va_AO.moved hW.alike h.2⟩
theorem inX0 : ∀ w ∈ u_ws RX0 TX0 4, w ∈ AL := by decide +kernel
theorem imX0 {a : Cond} : ∀ w ∈ u_ws RX0 TX0 4, w ∈ a :: AL := fun w h => List.mem_cons_of_mem _ (inX0 w h)
theorem inX1 : ∀ w ∈ u_ws RX1 TX1 3, w ∈ AL := by decide +kernel
theorem imX1 {a : Cond} : ∀ w ∈ u_ws RX1 TX1 3, w ∈ a :: AL := fun w h => List.mem_cons_of_mem _ (inX1 w h)
theorem inX2 : ∀ w ∈ u_ws RX2 TX2 7, w ∈ AL := by decide +kernel
theorem imX2 {a : Cond} : ∀ w ∈ u_ws RX2 TX2 7, w ∈ a :: AL := fun w h => List.mem_cons_of_mem _ (inX2 w h)
theorem inX3 : ∀ w ∈ u_ws RX3 TX3 8, w ∈ AL := by decide +kernel
theorem imX3 {a : Cond} : ∀ w ∈ u_ws RX3 TX3 8, w ∈ a :: AL := fun w h => List.mem_cons_of_mem _ (inX3 w h)
abbrev wX2_init : List Cond := .code yX2_init cX2_init 2 none :: AL
abbrev wJ_fill : List Cond := .code yJ_fill cJ_fill 5 none :: AL
abbrev wX0_init : List Cond := .code yX0_init cX0_init 2 none :: AL
abbrev wX2_make : List Cond := .code yX2_make cX2_make 6 (some .int) :: AL
abbrev wX2_isRegister : List Cond := .code yX2_isRegister cX2_isRegister 1 (some .boolean) :: AL
abbrev wX2_hasRoomFor : List Cond := .code yX2_hasRoomFor cX2_hasRoomFor 2 (some .boolean) :: AL
abbrev wX2_walk : List Cond := .code yX2_walk cX2_walk 1 none :: AL
abbrev wX0_forgetWalk : List Cond := .code yX0_forgetWalk cX0_forgetWalk 2 none :: AL
abbrev wX0_reachAll : List Cond := .code yX0_reachAll cX0_reachAll 4 none :: AL
abbrev wX0_thingOf : List Cond := .code yX0_thingOf cX0_thingOf 5 (some (.object "SliceHeap$Thing")) :: AL
abbrev wX0_reach : List Cond := .code yX0_reach cX0_reach 2 none :: AL
abbrev wX0_followReached : List Cond := .code yX0_followReached cX0_followReached 2 none :: AL
abbrev wX0_place : List Cond := .code yX0_place cX0_place 5 (some .long) :: AL
abbrev wX0_firstUnreached : List Cond := .code yX0_firstUnreached cX0_firstUnreached 2 (some .int) :: AL
abbrev wX1_init : List Cond := .code yX1_init cX1_init 1 none :: AL
abbrev wX1_fill : List Cond := .code yX1_fill cX1_fill 5 none :: AL
abbrev wX2_tellFull : List Cond := .code yX2_tellFull cX2_tellFull 1 (some .int) :: AL
abbrev wX2_grow : List Cond := .code yX2_grow cX2_grow 4 (some .int) :: AL
abbrev wX2_thingIn : List Cond := .code yX2_thingIn cX2_thingIn 2 (some (.object "SliceHeap$Thing")) :: AL
abbrev wX2_shrink : List Cond := .code yX2_shrink cX2_shrink 3 (some .int) :: AL
abbrev wX2_number : List Cond := .code yX2_number cX2_number 3 (some .boolean) :: AL
abbrev wX2_copy : List Cond := .code yX2_copy cX2_copy 3 (some .boolean) :: AL
abbrev wX2_get : List Cond := .code yX2_get cX2_get 5 (some .boolean) :: AL
abbrev wX1_hasValue : List Cond := .code yX1_hasValue cX1_hasValue 2 (some .boolean) :: AL
abbrev wX2_set : List Cond := .code yX2_set cX2_set 5 (some .boolean) :: AL
abbrev wX2_push : List Cond := .code yX2_push cX2_push 2 (some .int) :: AL
abbrev wX2_pop : List Cond := .code yX2_pop cX2_pop 2 (some .int) :: AL
abbrev wX2_look : List Cond := .code yX2_look cX2_look 3 (some .int) :: AL
abbrev wX2_numberIn : List Cond := .code yX2_numberIn cX2_numberIn 2 (some .int) :: AL
abbrev wX2_same : List Cond := .code yX2_same cX2_same 3 (some .int) :: AL
abbrev wX2_count : List Cond := .code yX2_count cX2_count 2 (some .int) :: AL
abbrev wL_cell : List Cond := .code yL_cell cL_cell 2 (some .int) :: AL
abbrev wX3_init : List Cond := .code yX3_init cX3_init 2 none :: AL
abbrev wX3_make : List Cond := .code yX3_make cX3_make 5 (some .int) :: AL
abbrev wX3_isRegister : List Cond := .code yX3_isRegister cX3_isRegister 1 (some .boolean) :: AL
abbrev wX3_hasRoom : List Cond := .code yX3_hasRoom cX3_hasRoom 3 (some .boolean) :: AL
abbrev wX3_reachable : List Cond := .code yX3_reachable cX3_reachable 3 (some .int) :: AL
abbrev wX3_goOver : List Cond := .code yX3_goOver cX3_goOver 4 none :: AL
abbrev wX3_reach : List Cond := .code yX3_reach cX3_reach 2 (some .boolean) :: AL
abbrev wX3_placeOf : List Cond := .code yX3_placeOf cX3_placeOf 2 (some .int) :: AL
abbrev wX3_move : List Cond := .code yX3_move cX3_move 3 none :: AL
abbrev wX3_grow : List Cond := .code yX3_grow cX3_grow 4 (some .int) :: AL
abbrev wX3_hasObject : List Cond := .code yX3_hasObject cX3_hasObject 2 (some .boolean) :: AL
abbrev wX3_shrink : List Cond := .code yX3_shrink cX3_shrink 3 (some .int) :: AL
abbrev wX3_empty : List Cond := .code yX3_empty cX3_empty 2 none :: AL
abbrev wX3_number : List Cond := .code yX3_number cX3_number 3 (some .boolean) :: AL
abbrev wX3_copy : List Cond := .code yX3_copy cX3_copy 3 (some .boolean) :: AL
abbrev wX3_get : List Cond := .code yX3_get cX3_get 4 (some .boolean) :: AL
abbrev wX3_hasValue : List Cond := .code yX3_hasValue cX3_hasValue 3 (some .boolean) :: AL
abbrev wX3_set : List Cond := .code yX3_set cX3_set 4 (some .boolean) :: AL
abbrev wX3_push : List Cond := .code yX3_push cX3_push 2 (some .int) :: AL
abbrev wX3_pop : List Cond := .code yX3_pop cX3_pop 2 (some .int) :: AL
abbrev wX3_look : List Cond := .code yX3_look cX3_look 2 (some .int) :: AL
abbrev wX3_numberIn : List Cond := .code yX3_numberIn cX3_numberIn 2 (some .int) :: AL
abbrev wX3_same : List Cond := .code yX3_same cX3_same 3 (some .int) :: AL
abbrev wX3_count : List Cond := .code yX3_count cX3_count 5 (some .int) :: AL
end
section
theorem dX2_init_0 : decode cX2_init 0 = .ok (.aload_n 0, 1) := by decide +kernel
theorem dX2_init_1 : decode cX2_init 1 = .ok (.invokespecial 3, 3) := by decide +kernel
theorem dX2_init_4 : decode cX2_init 4 = .ok (.aload_n 0, 1) := by decide +kernel
theorem dX2_init_5 : decode cX2_init 5 = .ok (.iload_n 1, 1) := by decide +kernel
theorem dX2_init_6 : decode cX2_init 6 = .ok (.bipush 20, 2) := by decide +kernel
theorem dX2_init_8 : decode cX2_init 8 = .ok (.if_icmp .lt 14, 3) := by decide +kernel
theorem dX2_init_11 : decode cX2_init 11 = .ok (.iload_n 1, 1) := by decide +kernel
theorem dX2_init_12 : decode cX2_init 12 = .ok (.sipush 3000, 3) := by decide +kernel
theorem dX2_init_15 : decode cX2_init 15 = .ok (.if_icmp .gt 7, 3) := by decide +kernel
theorem dX2_init_18 : decode cX2_init 18 = .ok (.iload_n 1, 1) := by decide +kernel
theorem dX2_init_19 : decode cX2_init 19 = .ok (.goto 6, 3) := by decide +kernel
theorem dX2_init_22 : decode cX2_init 22 = .ok (.sipush 300, 3) := by decide +kernel
theorem dX2_init_25 : decode cX2_init 25 = .ok (.putfield 9, 3) := by decide +kernel
theorem dX2_init_28 : decode cX2_init 28 = .ok (.aload_n 0, 1) := by decide +kernel
theorem dX2_init_29 : decode cX2_init 29 = .ok (.bipush 10, 2) := by decide +kernel
theorem dX2_init_31 : decode cX2_init 31 = .ok (.newarray .long, 2) := by decide +kernel
theorem dX2_init_33 : decode cX2_init 33 = .ok (.putfield 13, 3) := by decide +kernel
theorem dX2_init_36 : decode cX2_init 36 = .ok (.aload_n 0, 1) := by decide +kernel
theorem dX2_init_37 : decode cX2_init 37 = .ok (.getfield 13, 3) := by decide +kernel
theorem dX2_init_40 : decode cX2_init 40 = .ok (.ldc2_w 17, 3) := by decide +kernel
theorem dX2_init_43 : decode cX2_init 43 = .ok (.invokestatic 19, 3) := by decide +kernel
theorem dX2_init_46 : decode cX2_init 46 = .ok (.aload_n 0, 1) := by decide +kernel
theorem dX2_init_47 : decode cX2_init 47 = .ok (.bipush 50, 2) := by decide +kernel
theorem dX2_init_49 : decode cX2_init 49 = .ok (.newarray .long, 2) := by decide +kernel
theorem dX2_init_51 : decode cX2_init 51 = .ok (.putfield 25, 3) := by decide +kernel
theorem dX2_init_54 : decode cX2_init 54 = .ok (.aload_n 0, 1) := by decide +kernel
theorem dX2_init_55 : decode cX2_init 55 = .ok (.new 28, 3) := by decide +kernel
theorem dX2_init_58 : decode cX2_init 58 = .ok (.dup, 1) := by decide +kernel
theorem dX2_init_59 : decode cX2_init 59 = .ok (.aload_n 0, 1) := by decide +kernel
theorem dX2_init_60 : decode cX2_init 60 = .ok (.getfield 9, 3) := by decide +kernel
theorem dX2_init_63 : decode cX2_init 63 = .ok (.iconst 2, 1) := by decide +kernel
theorem dX2_init_64 : decode cX2_init 64 = .ok (.idiv, 1) := by decide +kernel
theorem dX2_init_65 : decode cX2_init 65 = .ok (.invokespecial 30, 3) := by decide +kernel
theorem dX2_init_68 : decode cX2_init 68 = .ok (.putfield 33, 3) := by decide +kernel
theorem dX2_init_71 : decode cX2_init 71 = .ok (.return_, 1) := by decide +kernel
theorem dJ_fill_0 : decode cJ_fill 0 = .ok (.iconst 0, 1) := by decide +kernel
theorem dJ_fill_1 : decode cJ_fill 1 = .ok (.istore_n 3, 1) := by decide +kernel
theorem dJ_fill_2 : decode cJ_fill 2 = .ok (.aload_n 0, 1) := by decide +kernel
theorem dJ_fill_3 : decode cJ_fill 3 = .ok (.arraylength, 1) := by decide +kernel
theorem dJ_fill_4 : decode cJ_fill 4 = .ok (.istore 4, 2) := by decide +kernel
theorem dJ_fill_6 : decode cJ_fill 6 = .ok (.iload_n 3, 1) := by decide +kernel
theorem dJ_fill_7 : decode cJ_fill 7 = .ok (.iload 4, 2) := by decide +kernel
theorem dJ_fill_9 : decode cJ_fill 9 = .ok (.if_icmp .ge 13, 3) := by decide +kernel
theorem dJ_fill_12 : decode cJ_fill 12 = .ok (.aload_n 0, 1) := by decide +kernel
theorem dJ_fill_13 : decode cJ_fill 13 = .ok (.iload_n 3, 1) := by decide +kernel
theorem dJ_fill_14 : decode cJ_fill 14 = .ok (.lload_n 1, 1) := by decide +kernel
theorem dJ_fill_15 : decode cJ_fill 15 = .ok (.lastore, 1) := by decide +kernel
theorem dJ_fill_16 : decode cJ_fill 16 = .ok (.iinc 3 1, 3) := by decide +kernel
theorem dJ_fill_19 : decode cJ_fill 19 = .ok (.goto (-13), 3) := by decide +kernel
theorem dJ_fill_22 : decode cJ_fill 22 = .ok (.return_, 1) := by decide +kernel
theorem dX0_init_0 : decode cX0_init 0 = .ok (.aload_n 0, 1) := by decide +kernel
theorem dX0_init_1 : decode cX0_init 1 = .ok (.invokespecial 3, 3) := by decide +kernel
theorem dX0_init_4 : decode cX0_init 4 = .ok (.aload_n 0, 1) := by decide +kernel
theorem dX0_init_5 : decode cX0_init 5 = .ok (.iload_n 1, 1) := by decide +kernel
theorem dX0_init_6 : decode cX0_init 6 = .ok (.anewarray 9, 3) := by decide +kernel
theorem dX0_init_9 : decode cX0_init 9 = .ok (.putfield 11, 3) := by decide +kernel
theorem dX0_init_12 : decode cX0_init 12 = .ok (.aload_n 0, 1) := by decide +kernel
theorem dX0_init_13 : decode cX0_init 13 = .ok (.iload_n 1, 1) := by decide +kernel
theorem dX0_init_14 : decode cX0_init 14 = .ok (.anewarray 9, 3) := by decide +kernel
theorem dX0_init_17 : decode cX0_init 17 = .ok (.putfield 17, 3) := by decide +kernel
theorem dX0_init_20 : decode cX0_init 20 = .ok (.return_, 1) := by decide +kernel
theorem dX2_make_0 : decode cX2_make 0 = .ok (.iload_n 1, 1) := by decide +kernel
theorem dX2_make_1 : decode cX2_make 1 = .ok (.invokestatic 37, 3) := by decide +kernel
theorem dX2_make_4 : decode cX2_make 4 = .ok (.ifCond .eq 20, 3) := by decide +kernel
theorem dX2_make_7 : decode cX2_make 7 = .ok (.iload_n 3, 1) := by decide +kernel
theorem dX2_make_8 : decode cX2_make 8 = .ok (.invokestatic 37, 3) := by decide +kernel
theorem dX2_make_11 : decode cX2_make 11 = .ok (.ifCond .eq 13, 3) := by decide +kernel
theorem dX2_make_14 : decode cX2_make 14 = .ok (.iload_n 2, 1) := by decide +kernel
theorem dX2_make_15 : decode cX2_make 15 = .ok (.ifCond .lt 9, 3) := by decide +kernel
theorem dX2_make_18 : decode cX2_make 18 = .ok (.iload_n 2, 1) := by decide +kernel
theorem dX2_make_19 : decode cX2_make 19 = .ok (.bipush 20, 2) := by decide +kernel
theorem dX2_make_21 : decode cX2_make 21 = .ok (.if_icmp .le 5, 3) := by decide +kernel
theorem dX2_make_24 : decode cX2_make 24 = .ok (.iconst (-1), 1) := by decide +kernel
theorem dX2_make_25 : decode cX2_make 25 = .ok (.ireturn, 1) := by decide +kernel
theorem dX2_make_26 : decode cX2_make 26 = .ok (.aload_n 0, 1) := by decide +kernel
theorem dX2_make_27 : decode cX2_make 27 = .ok (.iconst 2, 1) := by decide +kernel
theorem dX2_make_28 : decode cX2_make 28 = .ok (.iload_n 2, 1) := by decide +kernel
theorem dX2_make_29 : decode cX2_make 29 = .ok (.iadd, 1) := by decide +kernel
theorem dX2_make_30 : decode cX2_make 30 = .ok (.invokevirtual 41, 3) := by decide +kernel
theorem dX2_make_33 : decode cX2_make 33 = .ok (.ifCond .eq 20, 3) := by decide +kernel
theorem dX2_make_36 : decode cX2_make 36 = .ok (.aload_n 0, 1) := by decide +kernel
theorem dX2_make_37 : decode cX2_make 37 = .ok (.getfield 33, 3) := by decide +kernel
theorem dX2_make_40 : decode cX2_make 40 = .ok (.iload_n 2, 1) := by decide +kernel
theorem dX2_make_41 : decode cX2_make 41 = .ok (.aload_n 0, 1) := by decide +kernel
theorem dX2_make_42 : decode cX2_make 42 = .ok (.getfield 13, 3) := by decide +kernel
theorem dX2_make_45 : decode cX2_make 45 = .ok (.iload_n 3, 1) := by decide +kernel
theorem dX2_make_46 : decode cX2_make 46 = .ok (.laload, 1) := by decide +kernel
theorem dX2_make_47 : decode cX2_make 47 = .ok (.invokevirtual 44, 3) := by decide +kernel
theorem dX2_make_50 : decode cX2_make 50 = .ok (.goto 6, 3) := by decide +kernel
theorem dX2_make_53 : decode cX2_make 53 = .ok (.ldc2_w 17, 3) := by decide +kernel
theorem dX2_make_56 : decode cX2_make 56 = .ok (.lstore 4, 2) := by decide +kernel
theorem dX2_make_58 : decode cX2_make 58 = .ok (.lload 4, 2) := by decide +kernel
theorem dX2_make_60 : decode cX2_make 60 = .ok (.ldc2_w 17, 3) := by decide +kernel
theorem dX2_make_63 : decode cX2_make 63 = .ok (.lcmp, 1) := by decide +kernel
theorem dX2_make_64 : decode cX2_make 64 = .ok (.ifCond .ne 8, 3) := by decide +kernel
theorem dX2_make_67 : decode cX2_make 67 = .ok (.aload_n 0, 1) := by decide +kernel
theorem dX2_make_68 : decode cX2_make 68 = .ok (.invokevirtual 48, 3) := by decide +kernel
theorem dX2_make_71 : decode cX2_make 71 = .ok (.ireturn, 1) := by decide +kernel
theorem dX2_make_72 : decode cX2_make 72 = .ok (.aload_n 0, 1) := by decide +kernel
theorem dX2_make_73 : decode cX2_make 73 = .ok (.getfield 13, 3) := by decide +kernel
theorem dX2_make_76 : decode cX2_make 76 = .ok (.iload_n 1, 1) := by decide +kernel
theorem dX2_make_77 : decode cX2_make 77 = .ok (.lload 4, 2) := by decide +kernel
theorem dX2_make_79 : decode cX2_make 79 = .ok (.lastore, 1) := by decide +kernel
theorem dX2_make_80 : decode cX2_make 80 = .ok (.aload_n 0, 1) := by decide +kernel
theorem dX2_make_81 : decode cX2_make 81 = .ok (.dup, 1) := by decide +kernel
theorem dX2_make_82 : decode cX2_make 82 = .ok (.getfield 52, 3) := by decide +kernel
theorem dX2_make_85 : decode cX2_make 85 = .ok (.iconst 1, 1) := by decide +kernel
theorem dX2_make_86 : decode cX2_make 86 = .ok (.iadd, 1) := by decide +kernel
theorem dX2_make_87 : decode cX2_make 87 = .ok (.putfield 52, 3) := by decide +kernel
theorem dX2_make_90 : decode cX2_make 90 = .ok (.iconst 1, 1) := by decide +kernel
theorem dX2_make_91 : decode cX2_make 91 = .ok (.ireturn, 1) := by decide +kernel
theorem dX2_isRegister_0 : decode cX2_isRegister 0 = .ok (.iload_n 0, 1) := by decide +kernel
theorem dX2_isRegister_1 : decode cX2_isRegister 1 = .ok (.ifCond .lt 13, 3) := by decide +kernel
theorem dX2_isRegister_4 : decode cX2_isRegister 4 = .ok (.iload_n 0, 1) := by decide +kernel
theorem dX2_isRegister_5 : decode cX2_isRegister 5 = .ok (.bipush 10, 2) := by decide +kernel
theorem dX2_isRegister_7 : decode cX2_isRegister 7 = .ok (.if_icmp .ge 7, 3) := by decide +kernel
theorem dX2_isRegister_10 : decode cX2_isRegister 10 = .ok (.iconst 1, 1) := by decide +kernel
theorem dX2_isRegister_11 : decode cX2_isRegister 11 = .ok (.goto 4, 3) := by decide +kernel
theorem dX2_isRegister_14 : decode cX2_isRegister 14 = .ok (.iconst 0, 1) := by decide +kernel
theorem dX2_isRegister_15 : decode cX2_isRegister 15 = .ok (.ireturn, 1) := by decide +kernel
theorem dX2_hasRoomFor_0 : decode cX2_hasRoomFor 0 = .ok (.aload_n 0, 1) := by decide +kernel
theorem dX2_hasRoomFor_1 : decode cX2_hasRoomFor 1 = .ok (.invokevirtual 73, 3) := by decide +kernel
theorem dX2_hasRoomFor_4 : decode cX2_hasRoomFor 4 = .ok (.aload_n 0, 1) := by decide +kernel
theorem dX2_hasRoomFor_5 : decode cX2_hasRoomFor 5 = .ok (.getfield 33, 3) := by decide +kernel
theorem dX2_hasRoomFor_8 : decode cX2_hasRoomFor 8 = .ok (.getfield 76, 3) := by decide +kernel
theorem dX2_hasRoomFor_11 : decode cX2_hasRoomFor 11 = .ok (.iload_n 1, 1) := by decide +kernel
theorem dX2_hasRoomFor_12 : decode cX2_hasRoomFor 12 = .ok (.iadd, 1) := by decide +kernel
theorem dX2_hasRoomFor_13 : decode cX2_hasRoomFor 13 = .ok (.aload_n 0, 1) := by decide +kernel
theorem dX2_hasRoomFor_14 : decode cX2_hasRoomFor 14 = .ok (.getfield 9, 3) := by decide +kernel
theorem dX2_hasRoomFor_17 : decode cX2_hasRoomFor 17 = .ok (.if_icmp .gt 7, 3) := by decide +kernel
theorem dX2_hasRoomFor_20 : decode cX2_hasRoomFor 20 = .ok (.iconst 1, 1) := by decide +kernel
theorem dX2_hasRoomFor_21 : decode cX2_hasRoomFor 21 = .ok (.goto 4, 3) := by decide +kernel
theorem dX2_hasRoomFor_24 : decode cX2_hasRoomFor 24 = .ok (.iconst 0, 1) := by decide +kernel
theorem dX2_hasRoomFor_25 : decode cX2_hasRoomFor 25 = .ok (.ireturn, 1) := by decide +kernel
theorem dX2_walk_0 : decode cX2_walk 0 = .ok (.aload_n 0, 1) := by decide +kernel
theorem dX2_walk_1 : decode cX2_walk 1 = .ok (.getfield 33, 3) := by decide +kernel
theorem dX2_walk_4 : decode cX2_walk 4 = .ok (.invokevirtual 89, 3) := by decide +kernel
theorem dX2_walk_7 : decode cX2_walk 7 = .ok (.aload_n 0, 1) := by decide +kernel
theorem dX2_walk_8 : decode cX2_walk 8 = .ok (.getfield 33, 3) := by decide +kernel
theorem dX2_walk_11 : decode cX2_walk 11 = .ok (.aload_n 0, 1) := by decide +kernel
theorem dX2_walk_12 : decode cX2_walk 12 = .ok (.getfield 13, 3) := by decide +kernel
theorem dX2_walk_15 : decode cX2_walk 15 = .ok (.bipush 10, 2) := by decide +kernel
theorem dX2_walk_17 : decode cX2_walk 17 = .ok (.invokevirtual 92, 3) := by decide +kernel
theorem dX2_walk_20 : decode cX2_walk 20 = .ok (.aload_n 0, 1) := by decide +kernel
theorem dX2_walk_21 : decode cX2_walk 21 = .ok (.getfield 33, 3) := by decide +kernel
theorem dX2_walk_24 : decode cX2_walk 24 = .ok (.aload_n 0, 1) := by decide +kernel
theorem dX2_walk_25 : decode cX2_walk 25 = .ok (.getfield 25, 3) := by decide +kernel
theorem dX2_walk_28 : decode cX2_walk 28 = .ok (.aload_n 0, 1) := by decide +kernel
theorem dX2_walk_29 : decode cX2_walk 29 = .ok (.getfield 70, 3) := by decide +kernel
theorem dX2_walk_32 : decode cX2_walk 32 = .ok (.invokevirtual 92, 3) := by decide +kernel
theorem dX2_walk_35 : decode cX2_walk 35 = .ok (.aload_n 0, 1) := by decide +kernel
theorem dX2_walk_36 : decode cX2_walk 36 = .ok (.getfield 33, 3) := by decide +kernel
theorem dX2_walk_39 : decode cX2_walk 39 = .ok (.invokevirtual 96, 3) := by decide +kernel
theorem dX2_walk_42 : decode cX2_walk 42 = .ok (.return_, 1) := by decide +kernel
theorem dX0_forgetWalk_0 : decode cX0_forgetWalk 0 = .ok (.iconst 0, 1) := by decide +kernel
theorem dX0_forgetWalk_1 : decode cX0_forgetWalk 1 = .ok (.istore_n 1, 1) := by decide +kernel
theorem dX0_forgetWalk_2 : decode cX0_forgetWalk 2 = .ok (.iload_n 1, 1) := by decide +kernel
theorem dX0_forgetWalk_3 : decode cX0_forgetWalk 3 = .ok (.aload_n 0, 1) := by decide +kernel
theorem dX0_forgetWalk_4 : decode cX0_forgetWalk 4 = .ok (.getfield 11, 3) := by decide +kernel
theorem dX0_forgetWalk_7 : decode cX0_forgetWalk 7 = .ok (.arraylength, 1) := by decide +kernel
theorem dX0_forgetWalk_8 : decode cX0_forgetWalk 8 = .ok (.if_icmp .ge 28, 3) := by decide +kernel
theorem dX0_forgetWalk_11 : decode cX0_forgetWalk 11 = .ok (.aload_n 0, 1) := by decide +kernel
theorem dX0_forgetWalk_12 : decode cX0_forgetWalk 12 = .ok (.getfield 11, 3) := by decide +kernel
theorem dX0_forgetWalk_15 : decode cX0_forgetWalk 15 = .ok (.iload_n 1, 1) := by decide +kernel
theorem dX0_forgetWalk_16 : decode cX0_forgetWalk 16 = .ok (.aaload, 1) := by decide +kernel
theorem dX0_forgetWalk_17 : decode cX0_forgetWalk 17 = .ok (.ifnull 19, 3) := by decide +kernel
theorem dX0_forgetWalk_20 : decode cX0_forgetWalk 20 = .ok (.aload_n 0, 1) := by decide +kernel
theorem dX0_forgetWalk_21 : decode cX0_forgetWalk 21 = .ok (.getfield 11, 3) := by decide +kernel
theorem dX0_forgetWalk_24 : decode cX0_forgetWalk 24 = .ok (.iload_n 1, 1) := by decide +kernel
theorem dX0_forgetWalk_25 : decode cX0_forgetWalk 25 = .ok (.aaload, 1) := by decide +kernel
theorem dX0_forgetWalk_26 : decode cX0_forgetWalk 26 = .ok (.iconst 0, 1) := by decide +kernel
theorem dX0_forgetWalk_27 : decode cX0_forgetWalk 27 = .ok (.putfield 33, 3) := by decide +kernel
theorem dX0_forgetWalk_30 : decode cX0_forgetWalk 30 = .ok (.iinc 1 1, 3) := by decide +kernel
theorem dX0_forgetWalk_33 : decode cX0_forgetWalk 33 = .ok (.goto (-31), 3) := by decide +kernel
theorem dX0_forgetWalk_36 : decode cX0_forgetWalk 36 = .ok (.aload_n 0, 1) := by decide +kernel
theorem dX0_forgetWalk_37 : decode cX0_forgetWalk 37 = .ok (.iconst 0, 1) := by decide +kernel
theorem dX0_forgetWalk_38 : decode cX0_forgetWalk 38 = .ok (.putfield 36, 3) := by decide +kernel
theorem dX0_forgetWalk_41 : decode cX0_forgetWalk 41 = .ok (.aload_n 0, 1) := by decide +kernel
theorem dX0_forgetWalk_42 : decode cX0_forgetWalk 42 = .ok (.iconst 0, 1) := by decide +kernel
theorem dX0_forgetWalk_43 : decode cX0_forgetWalk 43 = .ok (.putfield 40, 3) := by decide +kernel
theorem dX0_forgetWalk_46 : decode cX0_forgetWalk 46 = .ok (.return_, 1) := by decide +kernel
theorem dX0_reachAll_0 : decode cX0_reachAll 0 = .ok (.iconst 0, 1) := by decide +kernel
theorem dX0_reachAll_1 : decode cX0_reachAll 1 = .ok (.istore_n 3, 1) := by decide +kernel
theorem dX0_reachAll_2 : decode cX0_reachAll 2 = .ok (.iload_n 3, 1) := by decide +kernel
theorem dX0_reachAll_3 : decode cX0_reachAll 3 = .ok (.iload_n 2, 1) := by decide +kernel
theorem dX0_reachAll_4 : decode cX0_reachAll 4 = .ok (.if_icmp .ge 26, 3) := by decide +kernel
theorem dX0_reachAll_7 : decode cX0_reachAll 7 = .ok (.iload_n 3, 1) := by decide +kernel
theorem dX0_reachAll_8 : decode cX0_reachAll 8 = .ok (.aload_n 1, 1) := by decide +kernel
theorem dX0_reachAll_9 : decode cX0_reachAll 9 = .ok (.arraylength, 1) := by decide +kernel
theorem dX0_reachAll_10 : decode cX0_reachAll 10 = .ok (.if_icmp .ge 20, 3) := by decide +kernel
theorem dX0_reachAll_13 : decode cX0_reachAll 13 = .ok (.aload_n 0, 1) := by decide +kernel
theorem dX0_reachAll_14 : decode cX0_reachAll 14 = .ok (.aload_n 0, 1) := by decide +kernel
theorem dX0_reachAll_15 : decode cX0_reachAll 15 = .ok (.aload_n 1, 1) := by decide +kernel
theorem dX0_reachAll_16 : decode cX0_reachAll 16 = .ok (.iload_n 3, 1) := by decide +kernel
theorem dX0_reachAll_17 : decode cX0_reachAll 17 = .ok (.laload, 1) := by decide +kernel
theorem dX0_reachAll_18 : decode cX0_reachAll 18 = .ok (.invokevirtual 43, 3) := by decide +kernel
theorem dX0_reachAll_21 : decode cX0_reachAll 21 = .ok (.invokevirtual 47, 3) := by decide +kernel
theorem dX0_reachAll_24 : decode cX0_reachAll 24 = .ok (.iinc 3 1, 3) := by decide +kernel
theorem dX0_reachAll_27 : decode cX0_reachAll 27 = .ok (.goto (-25), 3) := by decide +kernel
theorem dX0_reachAll_30 : decode cX0_reachAll 30 = .ok (.return_, 1) := by decide +kernel
theorem dX0_thingOf_0 : decode cX0_thingOf 0 = .ok (.lload_n 1, 1) := by decide +kernel
theorem dX0_thingOf_1 : decode cX0_thingOf 1 = .ok (.ldc2_w 20, 3) := by decide +kernel
theorem dX0_thingOf_4 : decode cX0_thingOf 4 = .ok (.lsub, 1) := by decide +kernel
theorem dX0_thingOf_5 : decode cX0_thingOf 5 = .ok (.lstore_n 3, 1) := by decide +kernel
theorem dX0_thingOf_6 : decode cX0_thingOf 6 = .ok (.lload_n 3, 1) := by decide +kernel
theorem dX0_thingOf_7 : decode cX0_thingOf 7 = .ok (.lconst 0, 1) := by decide +kernel
theorem dX0_thingOf_8 : decode cX0_thingOf 8 = .ok (.lcmp, 1) := by decide +kernel
theorem dX0_thingOf_9 : decode cX0_thingOf 9 = .ok (.ifCond .lt 24, 3) := by decide +kernel
theorem dX0_thingOf_12 : decode cX0_thingOf 12 = .ok (.lload_n 3, 1) := by decide +kernel
theorem dX0_thingOf_13 : decode cX0_thingOf 13 = .ok (.aload_n 0, 1) := by decide +kernel
theorem dX0_thingOf_14 : decode cX0_thingOf 14 = .ok (.getfield 11, 3) := by decide +kernel
theorem dX0_thingOf_17 : decode cX0_thingOf 17 = .ok (.arraylength, 1) := by decide +kernel
theorem dX0_thingOf_18 : decode cX0_thingOf 18 = .ok (.i2l, 1) := by decide +kernel
theorem dX0_thingOf_19 : decode cX0_thingOf 19 = .ok (.lcmp, 1) := by decide +kernel
theorem dX0_thingOf_20 : decode cX0_thingOf 20 = .ok (.ifCond .ge 13, 3) := by decide +kernel
theorem dX0_thingOf_23 : decode cX0_thingOf 23 = .ok (.aload_n 0, 1) := by decide +kernel
theorem dX0_thingOf_24 : decode cX0_thingOf 24 = .ok (.getfield 11, 3) := by decide +kernel
theorem dX0_thingOf_27 : decode cX0_thingOf 27 = .ok (.lload_n 3, 1) := by decide +kernel
theorem dX0_thingOf_28 : decode cX0_thingOf 28 = .ok (.l2i, 1) := by decide +kernel
theorem dX0_thingOf_29 : decode cX0_thingOf 29 = .ok (.aaload, 1) := by decide +kernel
theorem dX0_thingOf_30 : decode cX0_thingOf 30 = .ok (.goto 4, 3) := by decide +kernel
theorem dX0_thingOf_33 : decode cX0_thingOf 33 = .ok (.aconst_null, 1) := by decide +kernel
theorem dX0_thingOf_34 : decode cX0_thingOf 34 = .ok (.areturn, 1) := by decide +kernel
theorem dX0_reach_0 : decode cX0_reach 0 = .ok (.aload_n 1, 1) := by decide +kernel
theorem dX0_reach_1 : decode cX0_reach 1 = .ok (.ifnull 22, 3) := by decide +kernel
theorem dX0_reach_4 : decode cX0_reach 4 = .ok (.aload_n 1, 1) := by decide +kernel
theorem dX0_reach_5 : decode cX0_reach 5 = .ok (.getfield 33, 3) := by decide +kernel
theorem dX0_reach_8 : decode cX0_reach 8 = .ok (.ifCond .ne 15, 3) := by decide +kernel
theorem dX0_reach_11 : decode cX0_reach 11 = .ok (.aload_n 0, 1) := by decide +kernel
theorem dX0_reach_12 : decode cX0_reach 12 = .ok (.getfield 36, 3) := by decide +kernel
theorem dX0_reach_15 : decode cX0_reach 15 = .ok (.aload_n 0, 1) := by decide +kernel
theorem dX0_reach_16 : decode cX0_reach 16 = .ok (.getfield 17, 3) := by decide +kernel
theorem dX0_reach_19 : decode cX0_reach 19 = .ok (.arraylength, 1) := by decide +kernel
theorem dX0_reach_20 : decode cX0_reach 20 = .ok (.if_icmp .lt 4, 3) := by decide +kernel
theorem dX0_reach_23 : decode cX0_reach 23 = .ok (.return_, 1) := by decide +kernel
theorem dX0_reach_24 : decode cX0_reach 24 = .ok (.aload_n 1, 1) := by decide +kernel
theorem dX0_reach_25 : decode cX0_reach 25 = .ok (.iconst 1, 1) := by decide +kernel
theorem dX0_reach_26 : decode cX0_reach 26 = .ok (.putfield 33, 3) := by decide +kernel
theorem dX0_reach_29 : decode cX0_reach 29 = .ok (.aload_n 0, 1) := by decide +kernel
theorem dX0_reach_30 : decode cX0_reach 30 = .ok (.getfield 17, 3) := by decide +kernel
theorem dX0_reach_33 : decode cX0_reach 33 = .ok (.aload_n 0, 1) := by decide +kernel
theorem dX0_reach_34 : decode cX0_reach 34 = .ok (.getfield 36, 3) := by decide +kernel
theorem dX0_reach_37 : decode cX0_reach 37 = .ok (.aload_n 1, 1) := by decide +kernel
theorem dX0_reach_38 : decode cX0_reach 38 = .ok (.aastore, 1) := by decide +kernel
theorem dX0_reach_39 : decode cX0_reach 39 = .ok (.aload_n 0, 1) := by decide +kernel
theorem dX0_reach_40 : decode cX0_reach 40 = .ok (.dup, 1) := by decide +kernel
theorem dX0_reach_41 : decode cX0_reach 41 = .ok (.getfield 36, 3) := by decide +kernel
theorem dX0_reach_44 : decode cX0_reach 44 = .ok (.iconst 1, 1) := by decide +kernel
theorem dX0_reach_45 : decode cX0_reach 45 = .ok (.iadd, 1) := by decide +kernel
theorem dX0_reach_46 : decode cX0_reach 46 = .ok (.putfield 36, 3) := by decide +kernel
theorem dX0_reach_49 : decode cX0_reach 49 = .ok (.aload_n 0, 1) := by decide +kernel
theorem dX0_reach_50 : decode cX0_reach 50 = .ok (.dup, 1) := by decide +kernel
theorem dX0_reach_51 : decode cX0_reach 51 = .ok (.getfield 40, 3) := by decide +kernel
theorem dX0_reach_54 : decode cX0_reach 54 = .ok (.iconst 2, 1) := by decide +kernel
theorem dX0_reach_55 : decode cX0_reach 55 = .ok (.aload_n 1, 1) := by decide +kernel
theorem dX0_reach_56 : decode cX0_reach 56 = .ok (.getfield 51, 3) := by decide +kernel
theorem dX0_reach_59 : decode cX0_reach 59 = .ok (.iadd, 1) := by decide +kernel
theorem dX0_reach_60 : decode cX0_reach 60 = .ok (.iadd, 1) := by decide +kernel
theorem dX0_reach_61 : decode cX0_reach 61 = .ok (.putfield 40, 3) := by decide +kernel
theorem dX0_reach_64 : decode cX0_reach 64 = .ok (.return_, 1) := by decide +kernel
theorem dX0_followReached_0 : decode cX0_followReached 0 = .ok (.iconst 0, 1) := by decide +kernel
theorem dX0_followReached_1 : decode cX0_followReached 1 = .ok (.istore_n 1, 1) := by decide +kernel
theorem dX0_followReached_2 : decode cX0_followReached 2 = .ok (.iload_n 1, 1) := by decide +kernel
theorem dX0_followReached_3 : decode cX0_followReached 3 = .ok (.aload_n 0, 1) := by decide +kernel
theorem dX0_followReached_4 : decode cX0_followReached 4 = .ok (.getfield 36, 3) := by decide +kernel
theorem dX0_followReached_7 : decode cX0_followReached 7 = .ok (.if_icmp .ge 40, 3) := by decide +kernel
theorem dX0_followReached_10 : decode cX0_followReached 10 = .ok (.iload_n 1, 1) := by decide +kernel
theorem dX0_followReached_11 : decode cX0_followReached 11 = .ok (.aload_n 0, 1) := by decide +kernel
theorem dX0_followReached_12 : decode cX0_followReached 12 = .ok (.getfield 17, 3) := by decide +kernel
theorem dX0_followReached_15 : decode cX0_followReached 15 = .ok (.arraylength, 1) := by decide +kernel
theorem dX0_followReached_16 : decode cX0_followReached 16 = .ok (.if_icmp .ge 31, 3) := by decide +kernel
theorem dX0_followReached_19 : decode cX0_followReached 19 = .ok (.aload_n 0, 1) := by decide +kernel
theorem dX0_followReached_20 : decode cX0_followReached 20 = .ok (.aload_n 0, 1) := by decide +kernel
theorem dX0_followReached_21 : decode cX0_followReached 21 = .ok (.getfield 17, 3) := by decide +kernel
theorem dX0_followReached_24 : decode cX0_followReached 24 = .ok (.iload_n 1, 1) := by decide +kernel
theorem dX0_followReached_25 : decode cX0_followReached 25 = .ok (.aaload, 1) := by decide +kernel
theorem dX0_followReached_26 : decode cX0_followReached 26 = .ok (.getfield 54, 3) := by decide +kernel
theorem dX0_followReached_29 : decode cX0_followReached 29 = .ok (.aload_n 0, 1) := by decide +kernel
theorem dX0_followReached_30 : decode cX0_followReached 30 = .ok (.getfield 17, 3) := by decide +kernel
theorem dX0_followReached_33 : decode cX0_followReached 33 = .ok (.iload_n 1, 1) := by decide +kernel
theorem dX0_followReached_34 : decode cX0_followReached 34 = .ok (.aaload, 1) := by decide +kernel
theorem dX0_followReached_35 : decode cX0_followReached 35 = .ok (.getfield 51, 3) := by decide +kernel
theorem dX0_followReached_38 : decode cX0_followReached 38 = .ok (.invokevirtual 58, 3) := by decide +kernel
theorem dX0_followReached_41 : decode cX0_followReached 41 = .ok (.iinc 1 1, 3) := by decide +kernel
theorem dX0_followReached_44 : decode cX0_followReached 44 = .ok (.goto (-42), 3) := by decide +kernel
theorem dX0_followReached_47 : decode cX0_followReached 47 = .ok (.return_, 1) := by decide +kernel
theorem dX0_place_0 : decode cX0_place 0 = .ok (.aload_n 0, 1) := by decide +kernel
theorem dX0_place_1 : decode cX0_place 1 = .ok (.invokevirtual 22, 3) := by decide +kernel
theorem dX0_place_4 : decode cX0_place 4 = .ok (.istore 4, 2) := by decide +kernel
theorem dX0_place_6 : decode cX0_place 6 = .ok (.iload 4, 2) := by decide +kernel
theorem dX0_place_8 : decode cX0_place 8 = .ok (.aload_n 0, 1) := by decide +kernel
theorem dX0_place_9 : decode cX0_place 9 = .ok (.getfield 11, 3) := by decide +kernel
theorem dX0_place_12 : decode cX0_place 12 = .ok (.arraylength, 1) := by decide +kernel
theorem dX0_place_13 : decode cX0_place 13 = .ok (.if_icmp .lt 7, 3) := by decide +kernel
theorem dX0_place_16 : decode cX0_place 16 = .ok (.ldc2_w 26, 3) := by decide +kernel
theorem dX0_place_19 : decode cX0_place 19 = .ok (.lreturn, 1) := by decide +kernel
theorem dX0_place_20 : decode cX0_place 20 = .ok (.aload_n 0, 1) := by decide +kernel
theorem dX0_place_21 : decode cX0_place 21 = .ok (.getfield 11, 3) := by decide +kernel
theorem dX0_place_24 : decode cX0_place 24 = .ok (.iload 4, 2) := by decide +kernel
theorem dX0_place_26 : decode cX0_place 26 = .ok (.aaload, 1) := by decide +kernel
end
section
theorem dX0_place_27 : decode cX0_place 27 = .ok (.ifnonnull 17, 3) := by decide +kernel
theorem dX0_place_30 : decode cX0_place 30 = .ok (.aload_n 0, 1) := by decide +kernel
theorem dX0_place_31 : decode cX0_place 31 = .ok (.getfield 11, 3) := by decide +kernel
theorem dX0_place_34 : decode cX0_place 34 = .ok (.iload 4, 2) := by decide +kernel
theorem dX0_place_36 : decode cX0_place 36 = .ok (.new 9, 3) := by decide +kernel
theorem dX0_place_39 : decode cX0_place 39 = .ok (.dup, 1) := by decide +kernel
theorem dX0_place_40 : decode cX0_place 40 = .ok (.invokespecial 28, 3) := by decide +kernel
theorem dX0_place_43 : decode cX0_place 43 = .ok (.aastore, 1) := by decide +kernel
theorem dX0_place_44 : decode cX0_place 44 = .ok (.aload_n 0, 1) := by decide +kernel
theorem dX0_place_45 : decode cX0_place 45 = .ok (.getfield 11, 3) := by decide +kernel
theorem dX0_place_48 : decode cX0_place 48 = .ok (.iload 4, 2) := by decide +kernel
theorem dX0_place_50 : decode cX0_place 50 = .ok (.aaload, 1) := by decide +kernel
theorem dX0_place_51 : decode cX0_place 51 = .ok (.iload_n 1, 1) := by decide +kernel
theorem dX0_place_52 : decode cX0_place 52 = .ok (.lload_n 2, 1) := by decide +kernel
theorem dX0_place_53 : decode cX0_place 53 = .ok (.invokevirtual 29, 3) := by decide +kernel
theorem dX0_place_56 : decode cX0_place 56 = .ok (.ldc2_w 20, 3) := by decide +kernel
theorem dX0_place_59 : decode cX0_place 59 = .ok (.iload 4, 2) := by decide +kernel
theorem dX0_place_61 : decode cX0_place 61 = .ok (.i2l, 1) := by decide +kernel
theorem dX0_place_62 : decode cX0_place 62 = .ok (.ladd, 1) := by decide +kernel
theorem dX0_place_63 : decode cX0_place 63 = .ok (.lreturn, 1) := by decide +kernel
theorem dX0_firstUnreached_0 : decode cX0_firstUnreached 0 = .ok (.iconst 0, 1) := by decide +kernel
theorem dX0_firstUnreached_1 : decode cX0_firstUnreached 1 = .ok (.istore_n 1, 1) := by decide +kernel
theorem dX0_firstUnreached_2 : decode cX0_firstUnreached 2 = .ok (.iload_n 1, 1) := by decide +kernel
theorem dX0_firstUnreached_3 : decode cX0_firstUnreached 3 = .ok (.aload_n 0, 1) := by decide +kernel
theorem dX0_firstUnreached_4 : decode cX0_firstUnreached 4 = .ok (.getfield 11, 3) := by decide +kernel
theorem dX0_firstUnreached_7 : decode cX0_firstUnreached 7 = .ok (.arraylength, 1) := by decide +kernel
theorem dX0_firstUnreached_8 : decode cX0_firstUnreached 8 = .ok (.if_icmp .ge 30, 3) := by decide +kernel
theorem dX0_firstUnreached_11 : decode cX0_firstUnreached 11 = .ok (.aload_n 0, 1) := by decide +kernel
theorem dX0_firstUnreached_12 : decode cX0_firstUnreached 12 = .ok (.getfield 11, 3) := by decide +kernel
theorem dX0_firstUnreached_15 : decode cX0_firstUnreached 15 = .ok (.iload_n 1, 1) := by decide +kernel
theorem dX0_firstUnreached_16 : decode cX0_firstUnreached 16 = .ok (.aaload, 1) := by decide +kernel
theorem dX0_firstUnreached_17 : decode cX0_firstUnreached 17 = .ok (.ifnull 21, 3) := by decide +kernel
theorem dX0_firstUnreached_20 : decode cX0_firstUnreached 20 = .ok (.aload_n 0, 1) := by decide +kernel
theorem dX0_firstUnreached_21 : decode cX0_firstUnreached 21 = .ok (.getfield 11, 3) := by decide +kernel
theorem dX0_firstUnreached_24 : decode cX0_firstUnreached 24 = .ok (.iload_n 1, 1) := by decide +kernel
theorem dX0_firstUnreached_25 : decode cX0_firstUnreached 25 = .ok (.aaload, 1) := by decide +kernel
theorem dX0_firstUnreached_26 : decode cX0_firstUnreached 26 = .ok (.getfield 33, 3) := by decide +kernel
theorem dX0_firstUnreached_29 : decode cX0_firstUnreached 29 = .ok (.ifCond .eq 9, 3) := by decide +kernel
theorem dX0_firstUnreached_32 : decode cX0_firstUnreached 32 = .ok (.iinc 1 1, 3) := by decide +kernel
theorem dX0_firstUnreached_35 : decode cX0_firstUnreached 35 = .ok (.goto (-33), 3) := by decide +kernel
theorem dX0_firstUnreached_38 : decode cX0_firstUnreached 38 = .ok (.iload_n 1, 1) := by decide +kernel
theorem dX0_firstUnreached_39 : decode cX0_firstUnreached 39 = .ok (.ireturn, 1) := by decide +kernel
theorem dX1_init_0 : decode cX1_init 0 = .ok (.aload_n 0, 1) := by decide +kernel
theorem dX1_init_1 : decode cX1_init 1 = .ok (.invokespecial 3, 3) := by decide +kernel
theorem dX1_init_4 : decode cX1_init 4 = .ok (.aload_n 0, 1) := by decide +kernel
theorem dX1_init_5 : decode cX1_init 5 = .ok (.bipush 20, 2) := by decide +kernel
theorem dX1_init_7 : decode cX1_init 7 = .ok (.newarray .long, 2) := by decide +kernel
theorem dX1_init_9 : decode cX1_init 9 = .ok (.putfield 9, 3) := by decide +kernel
theorem dX1_init_12 : decode cX1_init 12 = .ok (.return_, 1) := by decide +kernel
theorem dX1_fill_0 : decode cX1_fill 0 = .ok (.aload_n 0, 1) := by decide +kernel
theorem dX1_fill_1 : decode cX1_fill 1 = .ok (.iload_n 1, 1) := by decide +kernel
theorem dX1_fill_2 : decode cX1_fill 2 = .ok (.putfield 15, 3) := by decide +kernel
theorem dX1_fill_5 : decode cX1_fill 5 = .ok (.iconst 0, 1) := by decide +kernel
theorem dX1_fill_6 : decode cX1_fill 6 = .ok (.istore 4, 2) := by decide +kernel
theorem dX1_fill_8 : decode cX1_fill 8 = .ok (.iload 4, 2) := by decide +kernel
theorem dX1_fill_10 : decode cX1_fill 10 = .ok (.iload_n 1, 1) := by decide +kernel
theorem dX1_fill_11 : decode cX1_fill 11 = .ok (.if_icmp .ge 27, 3) := by decide +kernel
theorem dX1_fill_14 : decode cX1_fill 14 = .ok (.iload 4, 2) := by decide +kernel
theorem dX1_fill_16 : decode cX1_fill 16 = .ok (.aload_n 0, 1) := by decide +kernel
theorem dX1_fill_17 : decode cX1_fill 17 = .ok (.getfield 9, 3) := by decide +kernel
theorem dX1_fill_20 : decode cX1_fill 20 = .ok (.arraylength, 1) := by decide +kernel
theorem dX1_fill_21 : decode cX1_fill 21 = .ok (.if_icmp .ge 17, 3) := by decide +kernel
theorem dX1_fill_24 : decode cX1_fill 24 = .ok (.aload_n 0, 1) := by decide +kernel
theorem dX1_fill_25 : decode cX1_fill 25 = .ok (.getfield 9, 3) := by decide +kernel
theorem dX1_fill_28 : decode cX1_fill 28 = .ok (.iload 4, 2) := by decide +kernel
theorem dX1_fill_30 : decode cX1_fill 30 = .ok (.lload_n 2, 1) := by decide +kernel
theorem dX1_fill_31 : decode cX1_fill 31 = .ok (.lastore, 1) := by decide +kernel
theorem dX1_fill_32 : decode cX1_fill 32 = .ok (.iinc 4 1, 3) := by decide +kernel
theorem dX1_fill_35 : decode cX1_fill 35 = .ok (.goto (-27), 3) := by decide +kernel
theorem dX1_fill_38 : decode cX1_fill 38 = .ok (.return_, 1) := by decide +kernel
theorem dX2_tellFull_0 : decode cX2_tellFull 0 = .ok (.aload_n 0, 1) := by decide +kernel
theorem dX2_tellFull_1 : decode cX2_tellFull 1 = .ok (.dup, 1) := by decide +kernel
theorem dX2_tellFull_2 : decode cX2_tellFull 2 = .ok (.getfield 82, 3) := by decide +kernel
theorem dX2_tellFull_5 : decode cX2_tellFull 5 = .ok (.iconst 1, 1) := by decide +kernel
theorem dX2_tellFull_6 : decode cX2_tellFull 6 = .ok (.iadd, 1) := by decide +kernel
theorem dX2_tellFull_7 : decode cX2_tellFull 7 = .ok (.putfield 82, 3) := by decide +kernel
theorem dX2_tellFull_10 : decode cX2_tellFull 10 = .ok (.iconst 0, 1) := by decide +kernel
theorem dX2_tellFull_11 : decode cX2_tellFull 11 = .ok (.ireturn, 1) := by decide +kernel
theorem dX2_grow_0 : decode cX2_grow 0 = .ok (.aload_n 0, 1) := by decide +kernel
theorem dX2_grow_1 : decode cX2_grow 1 = .ok (.iload_n 1, 1) := by decide +kernel
theorem dX2_grow_2 : decode cX2_grow 2 = .ok (.invokevirtual 55, 3) := by decide +kernel
theorem dX2_grow_5 : decode cX2_grow 5 = .ok (.astore_n 3, 1) := by decide +kernel
theorem dX2_grow_6 : decode cX2_grow 6 = .ok (.aload_n 3, 1) := by decide +kernel
theorem dX2_grow_7 : decode cX2_grow 7 = .ok (.ifnull 19, 3) := by decide +kernel
theorem dX2_grow_10 : decode cX2_grow 10 = .ok (.iload_n 2, 1) := by decide +kernel
theorem dX2_grow_11 : decode cX2_grow 11 = .ok (.invokestatic 37, 3) := by decide +kernel
theorem dX2_grow_14 : decode cX2_grow 14 = .ok (.ifCond .eq 12, 3) := by decide +kernel
theorem dX2_grow_17 : decode cX2_grow 17 = .ok (.aload_n 3, 1) := by decide +kernel
theorem dX2_grow_18 : decode cX2_grow 18 = .ok (.getfield 59, 3) := by decide +kernel
theorem dX2_grow_21 : decode cX2_grow 21 = .ok (.bipush 20, 2) := by decide +kernel
theorem dX2_grow_23 : decode cX2_grow 23 = .ok (.if_icmp .lt 5, 3) := by decide +kernel
theorem dX2_grow_26 : decode cX2_grow 26 = .ok (.iconst (-1), 1) := by decide +kernel
theorem dX2_grow_27 : decode cX2_grow 27 = .ok (.ireturn, 1) := by decide +kernel
theorem dX2_grow_28 : decode cX2_grow 28 = .ok (.aload_n 0, 1) := by decide +kernel
theorem dX2_grow_29 : decode cX2_grow 29 = .ok (.iconst 1, 1) := by decide +kernel
theorem dX2_grow_30 : decode cX2_grow 30 = .ok (.invokevirtual 41, 3) := by decide +kernel
theorem dX2_grow_33 : decode cX2_grow 33 = .ok (.ifCond .ne 8, 3) := by decide +kernel
theorem dX2_grow_36 : decode cX2_grow 36 = .ok (.aload_n 0, 1) := by decide +kernel
theorem dX2_grow_37 : decode cX2_grow 37 = .ok (.invokevirtual 48, 3) := by decide +kernel
theorem dX2_grow_40 : decode cX2_grow 40 = .ok (.ireturn, 1) := by decide +kernel
theorem dX2_grow_41 : decode cX2_grow 41 = .ok (.aload_n 3, 1) := by decide +kernel
theorem dX2_grow_42 : decode cX2_grow 42 = .ok (.getfield 64, 3) := by decide +kernel
theorem dX2_grow_45 : decode cX2_grow 45 = .ok (.aload_n 3, 1) := by decide +kernel
theorem dX2_grow_46 : decode cX2_grow 46 = .ok (.getfield 59, 3) := by decide +kernel
theorem dX2_grow_49 : decode cX2_grow 49 = .ok (.aload_n 0, 1) := by decide +kernel
theorem dX2_grow_50 : decode cX2_grow 50 = .ok (.getfield 13, 3) := by decide +kernel
theorem dX2_grow_53 : decode cX2_grow 53 = .ok (.iload_n 2, 1) := by decide +kernel
theorem dX2_grow_54 : decode cX2_grow 54 = .ok (.laload, 1) := by decide +kernel
theorem dX2_grow_55 : decode cX2_grow 55 = .ok (.lastore, 1) := by decide +kernel
theorem dX2_grow_56 : decode cX2_grow 56 = .ok (.aload_n 3, 1) := by decide +kernel
theorem dX2_grow_57 : decode cX2_grow 57 = .ok (.dup, 1) := by decide +kernel
theorem dX2_grow_58 : decode cX2_grow 58 = .ok (.getfield 59, 3) := by decide +kernel
theorem dX2_grow_61 : decode cX2_grow 61 = .ok (.iconst 1, 1) := by decide +kernel
theorem dX2_grow_62 : decode cX2_grow 62 = .ok (.iadd, 1) := by decide +kernel
theorem dX2_grow_63 : decode cX2_grow 63 = .ok (.putfield 59, 3) := by decide +kernel
theorem dX2_grow_66 : decode cX2_grow 66 = .ok (.aload_n 3, 1) := by decide +kernel
theorem dX2_grow_67 : decode cX2_grow 67 = .ok (.getfield 59, 3) := by decide +kernel
theorem dX2_grow_70 : decode cX2_grow 70 = .ok (.ireturn, 1) := by decide +kernel
theorem dX2_thingIn_0 : decode cX2_thingIn 0 = .ok (.iload_n 1, 1) := by decide +kernel
theorem dX2_thingIn_1 : decode cX2_thingIn 1 = .ok (.invokestatic 37, 3) := by decide +kernel
theorem dX2_thingIn_4 : decode cX2_thingIn 4 = .ok (.ifCond .eq 19, 3) := by decide +kernel
theorem dX2_thingIn_7 : decode cX2_thingIn 7 = .ok (.aload_n 0, 1) := by decide +kernel
theorem dX2_thingIn_8 : decode cX2_thingIn 8 = .ok (.getfield 33, 3) := by decide +kernel
theorem dX2_thingIn_11 : decode cX2_thingIn 11 = .ok (.aload_n 0, 1) := by decide +kernel
theorem dX2_thingIn_12 : decode cX2_thingIn 12 = .ok (.getfield 13, 3) := by decide +kernel
theorem dX2_thingIn_15 : decode cX2_thingIn 15 = .ok (.iload_n 1, 1) := by decide +kernel
theorem dX2_thingIn_16 : decode cX2_thingIn 16 = .ok (.laload, 1) := by decide +kernel
theorem dX2_thingIn_17 : decode cX2_thingIn 17 = .ok (.invokevirtual 85, 3) := by decide +kernel
theorem dX2_thingIn_20 : decode cX2_thingIn 20 = .ok (.goto 4, 3) := by decide +kernel
theorem dX2_thingIn_23 : decode cX2_thingIn 23 = .ok (.aconst_null, 1) := by decide +kernel
theorem dX2_thingIn_24 : decode cX2_thingIn 24 = .ok (.areturn, 1) := by decide +kernel
theorem dX2_shrink_0 : decode cX2_shrink 0 = .ok (.aload_n 0, 1) := by decide +kernel
theorem dX2_shrink_1 : decode cX2_shrink 1 = .ok (.iload_n 1, 1) := by decide +kernel
theorem dX2_shrink_2 : decode cX2_shrink 2 = .ok (.invokevirtual 55, 3) := by decide +kernel
theorem dX2_shrink_5 : decode cX2_shrink 5 = .ok (.astore_n 2, 1) := by decide +kernel
theorem dX2_shrink_6 : decode cX2_shrink 6 = .ok (.aload_n 2, 1) := by decide +kernel
theorem dX2_shrink_7 : decode cX2_shrink 7 = .ok (.ifnull 10, 3) := by decide +kernel
theorem dX2_shrink_10 : decode cX2_shrink 10 = .ok (.aload_n 2, 1) := by decide +kernel
theorem dX2_shrink_11 : decode cX2_shrink 11 = .ok (.getfield 59, 3) := by decide +kernel
theorem dX2_shrink_14 : decode cX2_shrink 14 = .ok (.ifCond .gt 5, 3) := by decide +kernel
theorem dX2_shrink_17 : decode cX2_shrink 17 = .ok (.iconst (-1), 1) := by decide +kernel
theorem dX2_shrink_18 : decode cX2_shrink 18 = .ok (.ireturn, 1) := by decide +kernel
theorem dX2_shrink_19 : decode cX2_shrink 19 = .ok (.aload_n 2, 1) := by decide +kernel
theorem dX2_shrink_20 : decode cX2_shrink 20 = .ok (.dup, 1) := by decide +kernel
theorem dX2_shrink_21 : decode cX2_shrink 21 = .ok (.getfield 59, 3) := by decide +kernel
theorem dX2_shrink_24 : decode cX2_shrink 24 = .ok (.iconst 1, 1) := by decide +kernel
theorem dX2_shrink_25 : decode cX2_shrink 25 = .ok (.isub, 1) := by decide +kernel
theorem dX2_shrink_26 : decode cX2_shrink 26 = .ok (.putfield 59, 3) := by decide +kernel
theorem dX2_shrink_29 : decode cX2_shrink 29 = .ok (.aload_n 2, 1) := by decide +kernel
theorem dX2_shrink_30 : decode cX2_shrink 30 = .ok (.getfield 59, 3) := by decide +kernel
theorem dX2_shrink_33 : decode cX2_shrink 33 = .ok (.ireturn, 1) := by decide +kernel
theorem dX2_number_0 : decode cX2_number 0 = .ok (.iload_n 1, 1) := by decide +kernel
theorem dX2_number_1 : decode cX2_number 1 = .ok (.invokestatic 37, 3) := by decide +kernel
theorem dX2_number_4 : decode cX2_number 4 = .ok (.ifCond .ne 5, 3) := by decide +kernel
theorem dX2_number_7 : decode cX2_number 7 = .ok (.iconst 0, 1) := by decide +kernel
theorem dX2_number_8 : decode cX2_number 8 = .ok (.ireturn, 1) := by decide +kernel
theorem dX2_number_9 : decode cX2_number 9 = .ok (.aload_n 0, 1) := by decide +kernel
theorem dX2_number_10 : decode cX2_number 10 = .ok (.getfield 13, 3) := by decide +kernel
theorem dX2_number_13 : decode cX2_number 13 = .ok (.iload_n 1, 1) := by decide +kernel
theorem dX2_number_14 : decode cX2_number 14 = .ok (.iload_n 2, 1) := by decide +kernel
theorem dX2_number_15 : decode cX2_number 15 = .ok (.i2l, 1) := by decide +kernel
theorem dX2_number_16 : decode cX2_number 16 = .ok (.lastore, 1) := by decide +kernel
theorem dX2_number_17 : decode cX2_number 17 = .ok (.iconst 1, 1) := by decide +kernel
theorem dX2_number_18 : decode cX2_number 18 = .ok (.ireturn, 1) := by decide +kernel
theorem dX2_copy_0 : decode cX2_copy 0 = .ok (.iload_n 1, 1) := by decide +kernel
theorem dX2_copy_1 : decode cX2_copy 1 = .ok (.invokestatic 37, 3) := by decide +kernel
theorem dX2_copy_4 : decode cX2_copy 4 = .ok (.ifCond .eq 15, 3) := by decide +kernel
theorem dX2_copy_7 : decode cX2_copy 7 = .ok (.iload_n 2, 1) := by decide +kernel
theorem dX2_copy_8 : decode cX2_copy 8 = .ok (.iconst (-1), 1) := by decide +kernel
theorem dX2_copy_9 : decode cX2_copy 9 = .ok (.if_icmp .eq 12, 3) := by decide +kernel
theorem dX2_copy_12 : decode cX2_copy 12 = .ok (.iload_n 2, 1) := by decide +kernel
theorem dX2_copy_13 : decode cX2_copy 13 = .ok (.invokestatic 37, 3) := by decide +kernel
theorem dX2_copy_16 : decode cX2_copy 16 = .ok (.ifCond .ne 5, 3) := by decide +kernel
theorem dX2_copy_19 : decode cX2_copy 19 = .ok (.iconst 0, 1) := by decide +kernel
theorem dX2_copy_20 : decode cX2_copy 20 = .ok (.ireturn, 1) := by decide +kernel
theorem dX2_copy_21 : decode cX2_copy 21 = .ok (.aload_n 0, 1) := by decide +kernel
theorem dX2_copy_22 : decode cX2_copy 22 = .ok (.getfield 13, 3) := by decide +kernel
theorem dX2_copy_25 : decode cX2_copy 25 = .ok (.iload_n 1, 1) := by decide +kernel
theorem dX2_copy_26 : decode cX2_copy 26 = .ok (.iload_n 2, 1) := by decide +kernel
theorem dX2_copy_27 : decode cX2_copy 27 = .ok (.iconst (-1), 1) := by decide +kernel
theorem dX2_copy_28 : decode cX2_copy 28 = .ok (.if_icmp .ne 9, 3) := by decide +kernel
theorem dX2_copy_31 : decode cX2_copy 31 = .ok (.ldc2_w 17, 3) := by decide +kernel
theorem dX2_copy_34 : decode cX2_copy 34 = .ok (.goto 9, 3) := by decide +kernel
theorem dX2_copy_37 : decode cX2_copy 37 = .ok (.aload_n 0, 1) := by decide +kernel
theorem dX2_copy_38 : decode cX2_copy 38 = .ok (.getfield 13, 3) := by decide +kernel
theorem dX2_copy_41 : decode cX2_copy 41 = .ok (.iload_n 2, 1) := by decide +kernel
theorem dX2_copy_42 : decode cX2_copy 42 = .ok (.laload, 1) := by decide +kernel
theorem dX2_copy_43 : decode cX2_copy 43 = .ok (.lastore, 1) := by decide +kernel
theorem dX2_copy_44 : decode cX2_copy 44 = .ok (.iconst 1, 1) := by decide +kernel
theorem dX2_copy_45 : decode cX2_copy 45 = .ok (.ireturn, 1) := by decide +kernel
theorem dX2_get_0 : decode cX2_get 0 = .ok (.aload_n 0, 1) := by decide +kernel
theorem dX2_get_1 : decode cX2_get 1 = .ok (.iload_n 2, 1) := by decide +kernel
theorem dX2_get_2 : decode cX2_get 2 = .ok (.invokevirtual 55, 3) := by decide +kernel
theorem dX2_get_5 : decode cX2_get 5 = .ok (.astore 4, 2) := by decide +kernel
theorem dX2_get_7 : decode cX2_get 7 = .ok (.iload_n 1, 1) := by decide +kernel
theorem dX2_get_8 : decode cX2_get 8 = .ok (.invokestatic 37, 3) := by decide +kernel
theorem dX2_get_11 : decode cX2_get 11 = .ok (.ifCond .eq 17, 3) := by decide +kernel
theorem dX2_get_14 : decode cX2_get 14 = .ok (.aload 4, 2) := by decide +kernel
theorem dX2_get_16 : decode cX2_get 16 = .ok (.ifnull 12, 3) := by decide +kernel
theorem dX2_get_19 : decode cX2_get 19 = .ok (.aload 4, 2) := by decide +kernel
theorem dX2_get_21 : decode cX2_get 21 = .ok (.iload_n 3, 1) := by decide +kernel
theorem dX2_get_22 : decode cX2_get 22 = .ok (.invokevirtual 67, 3) := by decide +kernel
theorem dX2_get_25 : decode cX2_get 25 = .ok (.ifCond .ne 5, 3) := by decide +kernel
theorem dX2_get_28 : decode cX2_get 28 = .ok (.iconst 0, 1) := by decide +kernel
theorem dX2_get_29 : decode cX2_get 29 = .ok (.ireturn, 1) := by decide +kernel
theorem dX2_get_30 : decode cX2_get 30 = .ok (.aload_n 0, 1) := by decide +kernel
theorem dX2_get_31 : decode cX2_get 31 = .ok (.getfield 13, 3) := by decide +kernel
theorem dX2_get_34 : decode cX2_get 34 = .ok (.iload_n 1, 1) := by decide +kernel
theorem dX2_get_35 : decode cX2_get 35 = .ok (.aload 4, 2) := by decide +kernel
theorem dX2_get_37 : decode cX2_get 37 = .ok (.getfield 64, 3) := by decide +kernel
theorem dX2_get_40 : decode cX2_get 40 = .ok (.iload_n 3, 1) := by decide +kernel
theorem dX2_get_41 : decode cX2_get 41 = .ok (.laload, 1) := by decide +kernel
theorem dX2_get_42 : decode cX2_get 42 = .ok (.lastore, 1) := by decide +kernel
theorem dX2_get_43 : decode cX2_get 43 = .ok (.iconst 1, 1) := by decide +kernel
theorem dX2_get_44 : decode cX2_get 44 = .ok (.ireturn, 1) := by decide +kernel
theorem dX1_hasValue_0 : decode cX1_hasValue 0 = .ok (.iload_n 1, 1) := by decide +kernel
theorem dX1_hasValue_1 : decode cX1_hasValue 1 = .ok (.ifCond .lt 15, 3) := by decide +kernel
theorem dX1_hasValue_4 : decode cX1_hasValue 4 = .ok (.iload_n 1, 1) := by decide +kernel
theorem dX1_hasValue_5 : decode cX1_hasValue 5 = .ok (.aload_n 0, 1) := by decide +kernel
theorem dX1_hasValue_6 : decode cX1_hasValue 6 = .ok (.getfield 15, 3) := by decide +kernel
theorem dX1_hasValue_9 : decode cX1_hasValue 9 = .ok (.if_icmp .ge 7, 3) := by decide +kernel
theorem dX1_hasValue_12 : decode cX1_hasValue 12 = .ok (.iconst 1, 1) := by decide +kernel
theorem dX1_hasValue_13 : decode cX1_hasValue 13 = .ok (.goto 4, 3) := by decide +kernel
theorem dX1_hasValue_16 : decode cX1_hasValue 16 = .ok (.iconst 0, 1) := by decide +kernel
theorem dX1_hasValue_17 : decode cX1_hasValue 17 = .ok (.ireturn, 1) := by decide +kernel
theorem dX2_set_0 : decode cX2_set 0 = .ok (.aload_n 0, 1) := by decide +kernel
theorem dX2_set_1 : decode cX2_set 1 = .ok (.iload_n 1, 1) := by decide +kernel
theorem dX2_set_2 : decode cX2_set 2 = .ok (.invokevirtual 55, 3) := by decide +kernel
theorem dX2_set_5 : decode cX2_set 5 = .ok (.astore 4, 2) := by decide +kernel
theorem dX2_set_7 : decode cX2_set 7 = .ok (.iload_n 3, 1) := by decide +kernel
theorem dX2_set_8 : decode cX2_set 8 = .ok (.invokestatic 37, 3) := by decide +kernel
theorem dX2_set_11 : decode cX2_set 11 = .ok (.ifCond .eq 17, 3) := by decide +kernel
theorem dX2_set_14 : decode cX2_set 14 = .ok (.aload 4, 2) := by decide +kernel
theorem dX2_set_16 : decode cX2_set 16 = .ok (.ifnull 12, 3) := by decide +kernel
theorem dX2_set_19 : decode cX2_set 19 = .ok (.aload 4, 2) := by decide +kernel
theorem dX2_set_21 : decode cX2_set 21 = .ok (.iload_n 2, 1) := by decide +kernel
theorem dX2_set_22 : decode cX2_set 22 = .ok (.invokevirtual 67, 3) := by decide +kernel
theorem dX2_set_25 : decode cX2_set 25 = .ok (.ifCond .ne 5, 3) := by decide +kernel
theorem dX2_set_28 : decode cX2_set 28 = .ok (.iconst 0, 1) := by decide +kernel
theorem dX2_set_29 : decode cX2_set 29 = .ok (.ireturn, 1) := by decide +kernel
theorem dX2_set_30 : decode cX2_set 30 = .ok (.aload 4, 2) := by decide +kernel
theorem dX2_set_32 : decode cX2_set 32 = .ok (.getfield 64, 3) := by decide +kernel
theorem dX2_set_35 : decode cX2_set 35 = .ok (.iload_n 2, 1) := by decide +kernel
theorem dX2_set_36 : decode cX2_set 36 = .ok (.aload_n 0, 1) := by decide +kernel
theorem dX2_set_37 : decode cX2_set 37 = .ok (.getfield 13, 3) := by decide +kernel
theorem dX2_set_40 : decode cX2_set 40 = .ok (.iload_n 3, 1) := by decide +kernel
theorem dX2_set_41 : decode cX2_set 41 = .ok (.laload, 1) := by decide +kernel
theorem dX2_set_42 : decode cX2_set 42 = .ok (.lastore, 1) := by decide +kernel
theorem dX2_set_43 : decode cX2_set 43 = .ok (.iconst 1, 1) := by decide +kernel
theorem dX2_set_44 : decode cX2_set 44 = .ok (.ireturn, 1) := by decide +kernel
theorem dX2_push_0 : decode cX2_push 0 = .ok (.iload_n 1, 1) := by decide +kernel
theorem dX2_push_1 : decode cX2_push 1 = .ok (.invokestatic 37, 3) := by decide +kernel
theorem dX2_push_4 : decode cX2_push 4 = .ok (.ifCond .eq 12, 3) := by decide +kernel
theorem dX2_push_7 : decode cX2_push 7 = .ok (.aload_n 0, 1) := by decide +kernel
theorem dX2_push_8 : decode cX2_push 8 = .ok (.getfield 70, 3) := by decide +kernel
theorem dX2_push_11 : decode cX2_push 11 = .ok (.bipush 50, 2) := by decide +kernel
theorem dX2_push_13 : decode cX2_push 13 = .ok (.if_icmp .lt 5, 3) := by decide +kernel
theorem dX2_push_16 : decode cX2_push 16 = .ok (.iconst (-1), 1) := by decide +kernel
theorem dX2_push_17 : decode cX2_push 17 = .ok (.ireturn, 1) := by decide +kernel
theorem dX2_push_18 : decode cX2_push 18 = .ok (.aload_n 0, 1) := by decide +kernel
theorem dX2_push_19 : decode cX2_push 19 = .ok (.getfield 25, 3) := by decide +kernel
theorem dX2_push_22 : decode cX2_push 22 = .ok (.aload_n 0, 1) := by decide +kernel
theorem dX2_push_23 : decode cX2_push 23 = .ok (.getfield 70, 3) := by decide +kernel
theorem dX2_push_26 : decode cX2_push 26 = .ok (.aload_n 0, 1) := by decide +kernel
theorem dX2_push_27 : decode cX2_push 27 = .ok (.getfield 13, 3) := by decide +kernel
theorem dX2_push_30 : decode cX2_push 30 = .ok (.iload_n 1, 1) := by decide +kernel
theorem dX2_push_31 : decode cX2_push 31 = .ok (.laload, 1) := by decide +kernel
theorem dX2_push_32 : decode cX2_push 32 = .ok (.lastore, 1) := by decide +kernel
theorem dX2_push_33 : decode cX2_push 33 = .ok (.aload_n 0, 1) := by decide +kernel
theorem dX2_push_34 : decode cX2_push 34 = .ok (.dup, 1) := by decide +kernel
theorem dX2_push_35 : decode cX2_push 35 = .ok (.getfield 70, 3) := by decide +kernel
theorem dX2_push_38 : decode cX2_push 38 = .ok (.iconst 1, 1) := by decide +kernel
theorem dX2_push_39 : decode cX2_push 39 = .ok (.iadd, 1) := by decide +kernel
theorem dX2_push_40 : decode cX2_push 40 = .ok (.putfield 70, 3) := by decide +kernel
theorem dX2_push_43 : decode cX2_push 43 = .ok (.aload_n 0, 1) := by decide +kernel
theorem dX2_push_44 : decode cX2_push 44 = .ok (.getfield 13, 3) := by decide +kernel
theorem dX2_push_47 : decode cX2_push 47 = .ok (.iload_n 1, 1) := by decide +kernel
theorem dX2_push_48 : decode cX2_push 48 = .ok (.ldc2_w 17, 3) := by decide +kernel
theorem dX2_push_51 : decode cX2_push 51 = .ok (.lastore, 1) := by decide +kernel
theorem dX2_push_52 : decode cX2_push 52 = .ok (.aload_n 0, 1) := by decide +kernel
theorem dX2_push_53 : decode cX2_push 53 = .ok (.getfield 70, 3) := by decide +kernel
theorem dX2_push_56 : decode cX2_push 56 = .ok (.ireturn, 1) := by decide +kernel
theorem dX2_pop_0 : decode cX2_pop 0 = .ok (.iload_n 1, 1) := by decide +kernel
theorem dX2_pop_1 : decode cX2_pop 1 = .ok (.invokestatic 37, 3) := by decide +kernel
theorem dX2_pop_4 : decode cX2_pop 4 = .ok (.ifCond .eq 10, 3) := by decide +kernel
theorem dX2_pop_7 : decode cX2_pop 7 = .ok (.aload_n 0, 1) := by decide +kernel
theorem dX2_pop_8 : decode cX2_pop 8 = .ok (.getfield 70, 3) := by decide +kernel
theorem dX2_pop_11 : decode cX2_pop 11 = .ok (.ifCond .gt 5, 3) := by decide +kernel
theorem dX2_pop_14 : decode cX2_pop 14 = .ok (.iconst (-1), 1) := by decide +kernel
theorem dX2_pop_15 : decode cX2_pop 15 = .ok (.ireturn, 1) := by decide +kernel
theorem dX2_pop_16 : decode cX2_pop 16 = .ok (.aload_n 0, 1) := by decide +kernel
theorem dX2_pop_17 : decode cX2_pop 17 = .ok (.dup, 1) := by decide +kernel
theorem dX2_pop_18 : decode cX2_pop 18 = .ok (.getfield 70, 3) := by decide +kernel
theorem dX2_pop_21 : decode cX2_pop 21 = .ok (.iconst 1, 1) := by decide +kernel
theorem dX2_pop_22 : decode cX2_pop 22 = .ok (.isub, 1) := by decide +kernel
theorem dX2_pop_23 : decode cX2_pop 23 = .ok (.putfield 70, 3) := by decide +kernel
theorem dX2_pop_26 : decode cX2_pop 26 = .ok (.aload_n 0, 1) := by decide +kernel
theorem dX2_pop_27 : decode cX2_pop 27 = .ok (.getfield 13, 3) := by decide +kernel
theorem dX2_pop_30 : decode cX2_pop 30 = .ok (.iload_n 1, 1) := by decide +kernel
theorem dX2_pop_31 : decode cX2_pop 31 = .ok (.aload_n 0, 1) := by decide +kernel
end
section
theorem dX2_pop_32 : decode cX2_pop 32 = .ok (.getfield 25, 3) := by decide +kernel
theorem dX2_pop_35 : decode cX2_pop 35 = .ok (.aload_n 0, 1) := by decide +kernel
theorem dX2_pop_36 : decode cX2_pop 36 = .ok (.getfield 70, 3) := by decide +kernel
theorem dX2_pop_39 : decode cX2_pop 39 = .ok (.laload, 1) := by decide +kernel
theorem dX2_pop_40 : decode cX2_pop 40 = .ok (.lastore, 1) := by decide +kernel
theorem dX2_pop_41 : decode cX2_pop 41 = .ok (.aload_n 0, 1) := by decide +kernel
theorem dX2_pop_42 : decode cX2_pop 42 = .ok (.getfield 70, 3) := by decide +kernel
theorem dX2_pop_45 : decode cX2_pop 45 = .ok (.ireturn, 1) := by decide +kernel
theorem dX2_look_0 : decode cX2_look 0 = .ok (.iload_n 1, 1) := by decide +kernel
theorem dX2_look_1 : decode cX2_look 1 = .ok (.invokestatic 37, 3) := by decide +kernel
theorem dX2_look_4 : decode cX2_look 4 = .ok (.ifCond .ne 5, 3) := by decide +kernel
theorem dX2_look_7 : decode cX2_look 7 = .ok (.iconst (-1), 1) := by decide +kernel
theorem dX2_look_8 : decode cX2_look 8 = .ok (.ireturn, 1) := by decide +kernel
theorem dX2_look_9 : decode cX2_look 9 = .ok (.aload_n 0, 1) := by decide +kernel
theorem dX2_look_10 : decode cX2_look 10 = .ok (.iload_n 1, 1) := by decide +kernel
theorem dX2_look_11 : decode cX2_look 11 = .ok (.invokevirtual 55, 3) := by decide +kernel
theorem dX2_look_14 : decode cX2_look 14 = .ok (.astore_n 2, 1) := by decide +kernel
theorem dX2_look_15 : decode cX2_look 15 = .ok (.aload_n 2, 1) := by decide +kernel
theorem dX2_look_16 : decode cX2_look 16 = .ok (.ifnull 8, 3) := by decide +kernel
theorem dX2_look_19 : decode cX2_look 19 = .ok (.aload_n 2, 1) := by decide +kernel
theorem dX2_look_20 : decode cX2_look 20 = .ok (.getfield 59, 3) := by decide +kernel
theorem dX2_look_23 : decode cX2_look 23 = .ok (.ireturn, 1) := by decide +kernel
theorem dX2_look_24 : decode cX2_look 24 = .ok (.aload_n 0, 1) := by decide +kernel
theorem dX2_look_25 : decode cX2_look 25 = .ok (.getfield 13, 3) := by decide +kernel
theorem dX2_look_28 : decode cX2_look 28 = .ok (.iload_n 1, 1) := by decide +kernel
theorem dX2_look_29 : decode cX2_look 29 = .ok (.laload, 1) := by decide +kernel
theorem dX2_look_30 : decode cX2_look 30 = .ok (.ldc2_w 17, 3) := by decide +kernel
theorem dX2_look_33 : decode cX2_look 33 = .ok (.lcmp, 1) := by decide +kernel
theorem dX2_look_34 : decode cX2_look 34 = .ok (.ifCond .ne 8, 3) := by decide +kernel
theorem dX2_look_37 : decode cX2_look 37 = .ok (.bipush (-2), 2) := by decide +kernel
theorem dX2_look_39 : decode cX2_look 39 = .ok (.goto 5, 3) := by decide +kernel
theorem dX2_look_42 : decode cX2_look 42 = .ok (.bipush (-3), 2) := by decide +kernel
theorem dX2_look_44 : decode cX2_look 44 = .ok (.ireturn, 1) := by decide +kernel
theorem dX2_numberIn_0 : decode cX2_numberIn 0 = .ok (.iload_n 1, 1) := by decide +kernel
theorem dX2_numberIn_1 : decode cX2_numberIn 1 = .ok (.invokestatic 37, 3) := by decide +kernel
theorem dX2_numberIn_4 : decode cX2_numberIn 4 = .ok (.ifCond .eq 26, 3) := by decide +kernel
theorem dX2_numberIn_7 : decode cX2_numberIn 7 = .ok (.aload_n 0, 1) := by decide +kernel
theorem dX2_numberIn_8 : decode cX2_numberIn 8 = .ok (.getfield 13, 3) := by decide +kernel
theorem dX2_numberIn_11 : decode cX2_numberIn 11 = .ok (.iload_n 1, 1) := by decide +kernel
theorem dX2_numberIn_12 : decode cX2_numberIn 12 = .ok (.laload, 1) := by decide +kernel
theorem dX2_numberIn_13 : decode cX2_numberIn 13 = .ok (.ldc2_w 17, 3) := by decide +kernel
theorem dX2_numberIn_16 : decode cX2_numberIn 16 = .ok (.lcmp, 1) := by decide +kernel
theorem dX2_numberIn_17 : decode cX2_numberIn 17 = .ok (.ifCond .ge 13, 3) := by decide +kernel
theorem dX2_numberIn_20 : decode cX2_numberIn 20 = .ok (.aload_n 0, 1) := by decide +kernel
theorem dX2_numberIn_21 : decode cX2_numberIn 21 = .ok (.getfield 13, 3) := by decide +kernel
theorem dX2_numberIn_24 : decode cX2_numberIn 24 = .ok (.iload_n 1, 1) := by decide +kernel
theorem dX2_numberIn_25 : decode cX2_numberIn 25 = .ok (.laload, 1) := by decide +kernel
theorem dX2_numberIn_26 : decode cX2_numberIn 26 = .ok (.l2i, 1) := by decide +kernel
theorem dX2_numberIn_27 : decode cX2_numberIn 27 = .ok (.goto 4, 3) := by decide +kernel
theorem dX2_numberIn_30 : decode cX2_numberIn 30 = .ok (.iconst 0, 1) := by decide +kernel
theorem dX2_numberIn_31 : decode cX2_numberIn 31 = .ok (.ireturn, 1) := by decide +kernel
theorem dX2_same_0 : decode cX2_same 0 = .ok (.iload_n 1, 1) := by decide +kernel
theorem dX2_same_1 : decode cX2_same 1 = .ok (.invokestatic 37, 3) := by decide +kernel
theorem dX2_same_4 : decode cX2_same 4 = .ok (.ifCond .eq 10, 3) := by decide +kernel
theorem dX2_same_7 : decode cX2_same 7 = .ok (.iload_n 2, 1) := by decide +kernel
theorem dX2_same_8 : decode cX2_same 8 = .ok (.invokestatic 37, 3) := by decide +kernel
theorem dX2_same_11 : decode cX2_same 11 = .ok (.ifCond .ne 5, 3) := by decide +kernel
theorem dX2_same_14 : decode cX2_same 14 = .ok (.iconst (-1), 1) := by decide +kernel
theorem dX2_same_15 : decode cX2_same 15 = .ok (.ireturn, 1) := by decide +kernel
theorem dX2_same_16 : decode cX2_same 16 = .ok (.aload_n 0, 1) := by decide +kernel
theorem dX2_same_17 : decode cX2_same 17 = .ok (.getfield 13, 3) := by decide +kernel
theorem dX2_same_20 : decode cX2_same 20 = .ok (.iload_n 1, 1) := by decide +kernel
theorem dX2_same_21 : decode cX2_same 21 = .ok (.laload, 1) := by decide +kernel
theorem dX2_same_22 : decode cX2_same 22 = .ok (.aload_n 0, 1) := by decide +kernel
theorem dX2_same_23 : decode cX2_same 23 = .ok (.getfield 13, 3) := by decide +kernel
theorem dX2_same_26 : decode cX2_same 26 = .ok (.iload_n 2, 1) := by decide +kernel
theorem dX2_same_27 : decode cX2_same 27 = .ok (.laload, 1) := by decide +kernel
theorem dX2_same_28 : decode cX2_same 28 = .ok (.lcmp, 1) := by decide +kernel
theorem dX2_same_29 : decode cX2_same 29 = .ok (.ifCond .ne 7, 3) := by decide +kernel
theorem dX2_same_32 : decode cX2_same 32 = .ok (.iconst 1, 1) := by decide +kernel
theorem dX2_same_33 : decode cX2_same 33 = .ok (.goto 4, 3) := by decide +kernel
theorem dX2_same_36 : decode cX2_same 36 = .ok (.iconst 0, 1) := by decide +kernel
theorem dX2_same_37 : decode cX2_same 37 = .ok (.ireturn, 1) := by decide +kernel
theorem dX2_count_0 : decode cX2_count 0 = .ok (.iload_n 1, 1) := by decide +kernel
theorem dX2_count_1 : decode cX2_count 1 = .ok (.tableswitch 74 0 4 #[35, 47, 59, 64, 69], 35) := by decide +kernel
theorem dX2_count_36 : decode cX2_count 36 = .ok (.aload_n 0, 1) := by decide +kernel
theorem dX2_count_37 : decode cX2_count 37 = .ok (.invokevirtual 73, 3) := by decide +kernel
theorem dX2_count_40 : decode cX2_count 40 = .ok (.aload_n 0, 1) := by decide +kernel
theorem dX2_count_41 : decode cX2_count 41 = .ok (.getfield 33, 3) := by decide +kernel
theorem dX2_count_44 : decode cX2_count 44 = .ok (.getfield 76, 3) := by decide +kernel
theorem dX2_count_47 : decode cX2_count 47 = .ok (.ireturn, 1) := by decide +kernel
theorem dX2_count_48 : decode cX2_count 48 = .ok (.aload_n 0, 1) := by decide +kernel
theorem dX2_count_49 : decode cX2_count 49 = .ok (.invokevirtual 73, 3) := by decide +kernel
theorem dX2_count_52 : decode cX2_count 52 = .ok (.aload_n 0, 1) := by decide +kernel
theorem dX2_count_53 : decode cX2_count 53 = .ok (.getfield 33, 3) := by decide +kernel
theorem dX2_count_56 : decode cX2_count 56 = .ok (.getfield 79, 3) := by decide +kernel
theorem dX2_count_59 : decode cX2_count 59 = .ok (.ireturn, 1) := by decide +kernel
theorem dX2_count_60 : decode cX2_count 60 = .ok (.aload_n 0, 1) := by decide +kernel
theorem dX2_count_61 : decode cX2_count 61 = .ok (.getfield 70, 3) := by decide +kernel
theorem dX2_count_64 : decode cX2_count 64 = .ok (.ireturn, 1) := by decide +kernel
theorem dX2_count_65 : decode cX2_count 65 = .ok (.aload_n 0, 1) := by decide +kernel
theorem dX2_count_66 : decode cX2_count 66 = .ok (.getfield 52, 3) := by decide +kernel
theorem dX2_count_69 : decode cX2_count 69 = .ok (.ireturn, 1) := by decide +kernel
theorem dX2_count_70 : decode cX2_count 70 = .ok (.aload_n 0, 1) := by decide +kernel
theorem dX2_count_71 : decode cX2_count 71 = .ok (.getfield 82, 3) := by decide +kernel
theorem dX2_count_74 : decode cX2_count 74 = .ok (.ireturn, 1) := by decide +kernel
theorem dX2_count_75 : decode cX2_count 75 = .ok (.iconst (-1), 1) := by decide +kernel
theorem dX2_count_76 : decode cX2_count 76 = .ok (.ireturn, 1) := by decide +kernel
theorem dL_cell_0 : decode cL_cell 0 = .ok (.iload_n 1, 1) := by decide +kernel
theorem dL_cell_1 : decode cL_cell 1 = .ok (.aload_n 0, 1) := by decide +kernel
theorem dL_cell_2 : decode cL_cell 2 = .ok (.arraylength, 1) := by decide +kernel
theorem dL_cell_3 : decode cL_cell 3 = .ok (.if_icmp .ge 9, 3) := by decide +kernel
theorem dL_cell_6 : decode cL_cell 6 = .ok (.aload_n 0, 1) := by decide +kernel
theorem dL_cell_7 : decode cL_cell 7 = .ok (.iload_n 1, 1) := by decide +kernel
theorem dL_cell_8 : decode cL_cell 8 = .ok (.iaload, 1) := by decide +kernel
theorem dL_cell_9 : decode cL_cell 9 = .ok (.goto 4, 3) := by decide +kernel
theorem dL_cell_12 : decode cL_cell 12 = .ok (.iconst 0, 1) := by decide +kernel
theorem dL_cell_13 : decode cL_cell 13 = .ok (.ireturn, 1) := by decide +kernel
theorem dX3_init_0 : decode cX3_init 0 = .ok (.aload_n 0, 1) := by decide +kernel
theorem dX3_init_1 : decode cX3_init 1 = .ok (.invokespecial 1, 3) := by decide +kernel
theorem dX3_init_4 : decode cX3_init 4 = .ok (.aload_n 0, 1) := by decide +kernel
theorem dX3_init_5 : decode cX3_init 5 = .ok (.sipush 10460, 3) := by decide +kernel
theorem dX3_init_8 : decode cX3_init 8 = .ok (.newarray .byte, 2) := by decide +kernel
theorem dX3_init_10 : decode cX3_init 10 = .ok (.putfield 7, 3) := by decide +kernel
theorem dX3_init_13 : decode cX3_init 13 = .ok (.aload_n 0, 1) := by decide +kernel
theorem dX3_init_14 : decode cX3_init 14 = .ok (.sipush 10460, 3) := by decide +kernel
theorem dX3_init_17 : decode cX3_init 17 = .ok (.newarray .int, 2) := by decide +kernel
theorem dX3_init_19 : decode cX3_init 19 = .ok (.putfield 13, 3) := by decide +kernel
theorem dX3_init_22 : decode cX3_init 22 = .ok (.aload_n 0, 1) := by decide +kernel
theorem dX3_init_23 : decode cX3_init 23 = .ok (.sipush 520, 3) := by decide +kernel
theorem dX3_init_26 : decode cX3_init 26 = .ok (.newarray .int, 2) := by decide +kernel
theorem dX3_init_28 : decode cX3_init 28 = .ok (.putfield 17, 3) := by decide +kernel
theorem dX3_init_31 : decode cX3_init 31 = .ok (.aload_n 0, 1) := by decide +kernel
theorem dX3_init_32 : decode cX3_init 32 = .ok (.sipush 520, 3) := by decide +kernel
theorem dX3_init_35 : decode cX3_init 35 = .ok (.newarray .boolean, 2) := by decide +kernel
theorem dX3_init_37 : decode cX3_init 37 = .ok (.putfield 20, 3) := by decide +kernel
theorem dX3_init_40 : decode cX3_init 40 = .ok (.aload_n 0, 1) := by decide +kernel
theorem dX3_init_41 : decode cX3_init 41 = .ok (.iload_n 1, 1) := by decide +kernel
theorem dX3_init_42 : decode cX3_init 42 = .ok (.bipush 20, 2) := by decide +kernel
theorem dX3_init_44 : decode cX3_init 44 = .ok (.if_icmp .lt 14, 3) := by decide +kernel
theorem dX3_init_47 : decode cX3_init 47 = .ok (.iload_n 1, 1) := by decide +kernel
theorem dX3_init_48 : decode cX3_init 48 = .ok (.sipush 3000, 3) := by decide +kernel
theorem dX3_init_51 : decode cX3_init 51 = .ok (.if_icmp .gt 7, 3) := by decide +kernel
theorem dX3_init_54 : decode cX3_init 54 = .ok (.iload_n 1, 1) := by decide +kernel
theorem dX3_init_55 : decode cX3_init 55 = .ok (.goto 6, 3) := by decide +kernel
theorem dX3_init_58 : decode cX3_init 58 = .ok (.sipush 300, 3) := by decide +kernel
theorem dX3_init_61 : decode cX3_init 61 = .ok (.putfield 24, 3) := by decide +kernel
theorem dX3_init_64 : decode cX3_init 64 = .ok (.return_, 1) := by decide +kernel
theorem dX3_make_0 : decode cX3_make 0 = .ok (.iload_n 1, 1) := by decide +kernel
theorem dX3_make_1 : decode cX3_make 1 = .ok (.invokestatic 28, 3) := by decide +kernel
theorem dX3_make_4 : decode cX3_make 4 = .ok (.ifCond .eq 20, 3) := by decide +kernel
theorem dX3_make_7 : decode cX3_make 7 = .ok (.iload_n 3, 1) := by decide +kernel
theorem dX3_make_8 : decode cX3_make 8 = .ok (.invokestatic 28, 3) := by decide +kernel
theorem dX3_make_11 : decode cX3_make 11 = .ok (.ifCond .eq 13, 3) := by decide +kernel
theorem dX3_make_14 : decode cX3_make 14 = .ok (.iload_n 2, 1) := by decide +kernel
theorem dX3_make_15 : decode cX3_make 15 = .ok (.ifCond .lt 9, 3) := by decide +kernel
theorem dX3_make_18 : decode cX3_make 18 = .ok (.iload_n 2, 1) := by decide +kernel
theorem dX3_make_19 : decode cX3_make 19 = .ok (.bipush 20, 2) := by decide +kernel
theorem dX3_make_21 : decode cX3_make 21 = .ok (.if_icmp .le 5, 3) := by decide +kernel
theorem dX3_make_24 : decode cX3_make 24 = .ok (.iconst (-1), 1) := by decide +kernel
theorem dX3_make_25 : decode cX3_make 25 = .ok (.ireturn, 1) := by decide +kernel
theorem dX3_make_26 : decode cX3_make 26 = .ok (.aload_n 0, 1) := by decide +kernel
theorem dX3_make_27 : decode cX3_make 27 = .ok (.iconst 2, 1) := by decide +kernel
theorem dX3_make_28 : decode cX3_make 28 = .ok (.iload_n 2, 1) := by decide +kernel
theorem dX3_make_29 : decode cX3_make 29 = .ok (.iadd, 1) := by decide +kernel
theorem dX3_make_30 : decode cX3_make 30 = .ok (.invokevirtual 55, 3) := by decide +kernel
theorem dX3_make_33 : decode cX3_make 33 = .ok (.ifCond .ne 5, 3) := by decide +kernel
theorem dX3_make_36 : decode cX3_make 36 = .ok (.iconst 0, 1) := by decide +kernel
theorem dX3_make_37 : decode cX3_make 37 = .ok (.ireturn, 1) := by decide +kernel
theorem dX3_make_38 : decode cX3_make 38 = .ok (.iconst 0, 1) := by decide +kernel
theorem dX3_make_39 : decode cX3_make 39 = .ok (.istore 4, 2) := by decide +kernel
theorem dX3_make_41 : decode cX3_make 41 = .ok (.iload 4, 2) := by decide +kernel
theorem dX3_make_43 : decode cX3_make 43 = .ok (.iload_n 2, 1) := by decide +kernel
theorem dX3_make_44 : decode cX3_make 44 = .ok (.if_icmp .ge 23, 3) := by decide +kernel
theorem dX3_make_47 : decode cX3_make 47 = .ok (.aload_n 0, 1) := by decide +kernel
theorem dX3_make_48 : decode cX3_make 48 = .ok (.aload_n 0, 1) := by decide +kernel
theorem dX3_make_49 : decode cX3_make 49 = .ok (.getfield 32, 3) := by decide +kernel
theorem dX3_make_52 : decode cX3_make 52 = .ok (.iload 4, 2) := by decide +kernel
theorem dX3_make_54 : decode cX3_make 54 = .ok (.invokestatic 41, 3) := by decide +kernel
theorem dX3_make_57 : decode cX3_make 57 = .ok (.iload_n 3, 1) := by decide +kernel
theorem dX3_make_58 : decode cX3_make 58 = .ok (.invokevirtual 58, 3) := by decide +kernel
theorem dX3_make_61 : decode cX3_make 61 = .ok (.iinc 4 1, 3) := by decide +kernel
theorem dX3_make_64 : decode cX3_make 64 = .ok (.goto (-23), 3) := by decide +kernel
theorem dX3_make_67 : decode cX3_make 67 = .ok (.aload_n 0, 1) := by decide +kernel
theorem dX3_make_68 : decode cX3_make 68 = .ok (.getfield 17, 3) := by decide +kernel
theorem dX3_make_71 : decode cX3_make 71 = .ok (.aload_n 0, 1) := by decide +kernel
theorem dX3_make_72 : decode cX3_make 72 = .ok (.getfield 32, 3) := by decide +kernel
theorem dX3_make_75 : decode cX3_make 75 = .ok (.iload_n 2, 1) := by decide +kernel
theorem dX3_make_76 : decode cX3_make 76 = .ok (.iastore, 1) := by decide +kernel
theorem dX3_make_77 : decode cX3_make 77 = .ok (.aload_n 0, 1) := by decide +kernel
theorem dX3_make_78 : decode cX3_make 78 = .ok (.getfield 7, 3) := by decide +kernel
theorem dX3_make_81 : decode cX3_make 81 = .ok (.iload_n 1, 1) := by decide +kernel
theorem dX3_make_82 : decode cX3_make 82 = .ok (.iconst 2, 1) := by decide +kernel
theorem dX3_make_83 : decode cX3_make 83 = .ok (.bastore, 1) := by decide +kernel
theorem dX3_make_84 : decode cX3_make 84 = .ok (.aload_n 0, 1) := by decide +kernel
theorem dX3_make_85 : decode cX3_make 85 = .ok (.getfield 13, 3) := by decide +kernel
theorem dX3_make_88 : decode cX3_make 88 = .ok (.iload_n 1, 1) := by decide +kernel
theorem dX3_make_89 : decode cX3_make 89 = .ok (.aload_n 0, 1) := by decide +kernel
theorem dX3_make_90 : decode cX3_make 90 = .ok (.getfield 32, 3) := by decide +kernel
theorem dX3_make_93 : decode cX3_make 93 = .ok (.iastore, 1) := by decide +kernel
theorem dX3_make_94 : decode cX3_make 94 = .ok (.aload_n 0, 1) := by decide +kernel
theorem dX3_make_95 : decode cX3_make 95 = .ok (.dup, 1) := by decide +kernel
theorem dX3_make_96 : decode cX3_make 96 = .ok (.getfield 32, 3) := by decide +kernel
theorem dX3_make_99 : decode cX3_make 99 = .ok (.iconst 1, 1) := by decide +kernel
theorem dX3_make_100 : decode cX3_make 100 = .ok (.iadd, 1) := by decide +kernel
theorem dX3_make_101 : decode cX3_make 101 = .ok (.putfield 32, 3) := by decide +kernel
theorem dX3_make_104 : decode cX3_make 104 = .ok (.iconst 1, 1) := by decide +kernel
theorem dX3_make_105 : decode cX3_make 105 = .ok (.ireturn, 1) := by decide +kernel
theorem dX3_isRegister_0 : decode cX3_isRegister 0 = .ok (.iload_n 0, 1) := by decide +kernel
theorem dX3_isRegister_1 : decode cX3_isRegister 1 = .ok (.ifCond .lt 13, 3) := by decide +kernel
theorem dX3_isRegister_4 : decode cX3_isRegister 4 = .ok (.iload_n 0, 1) := by decide +kernel
theorem dX3_isRegister_5 : decode cX3_isRegister 5 = .ok (.bipush 10, 2) := by decide +kernel
theorem dX3_isRegister_7 : decode cX3_isRegister 7 = .ok (.if_icmp .ge 7, 3) := by decide +kernel
theorem dX3_isRegister_10 : decode cX3_isRegister 10 = .ok (.iconst 1, 1) := by decide +kernel
theorem dX3_isRegister_11 : decode cX3_isRegister 11 = .ok (.goto 4, 3) := by decide +kernel
theorem dX3_isRegister_14 : decode cX3_isRegister 14 = .ok (.iconst 0, 1) := by decide +kernel
theorem dX3_isRegister_15 : decode cX3_isRegister 15 = .ok (.ireturn, 1) := by decide +kernel
theorem dX3_hasRoom_0 : decode cX3_hasRoom 0 = .ok (.aload_n 0, 1) := by decide +kernel
theorem dX3_hasRoom_1 : decode cX3_hasRoom 1 = .ok (.invokevirtual 48, 3) := by decide +kernel
theorem dX3_hasRoom_4 : decode cX3_hasRoom 4 = .ok (.iload_n 1, 1) := by decide +kernel
theorem dX3_hasRoom_5 : decode cX3_hasRoom 5 = .ok (.iadd, 1) := by decide +kernel
theorem dX3_hasRoom_6 : decode cX3_hasRoom 6 = .ok (.aload_n 0, 1) := by decide +kernel
theorem dX3_hasRoom_7 : decode cX3_hasRoom 7 = .ok (.getfield 24, 3) := by decide +kernel
theorem dX3_hasRoom_10 : decode cX3_hasRoom 10 = .ok (.if_icmp .gt 7, 3) := by decide +kernel
theorem dX3_hasRoom_13 : decode cX3_hasRoom 13 = .ok (.iconst 1, 1) := by decide +kernel
theorem dX3_hasRoom_14 : decode cX3_hasRoom 14 = .ok (.goto 4, 3) := by decide +kernel
theorem dX3_hasRoom_17 : decode cX3_hasRoom 17 = .ok (.iconst 0, 1) := by decide +kernel
theorem dX3_hasRoom_18 : decode cX3_hasRoom 18 = .ok (.istore_n 2, 1) := by decide +kernel
theorem dX3_hasRoom_19 : decode cX3_hasRoom 19 = .ok (.aload_n 0, 1) := by decide +kernel
theorem dX3_hasRoom_20 : decode cX3_hasRoom 20 = .ok (.iload_n 2, 1) := by decide +kernel
theorem dX3_hasRoom_21 : decode cX3_hasRoom 21 = .ok (.ifCond .eq 10, 3) := by decide +kernel
theorem dX3_hasRoom_24 : decode cX3_hasRoom 24 = .ok (.aload_n 0, 1) := by decide +kernel
theorem dX3_hasRoom_25 : decode cX3_hasRoom 25 = .ok (.getfield 52, 3) := by decide +kernel
theorem dX3_hasRoom_28 : decode cX3_hasRoom 28 = .ok (.goto 9, 3) := by decide +kernel
theorem dX3_hasRoom_31 : decode cX3_hasRoom 31 = .ok (.aload_n 0, 1) := by decide +kernel
theorem dX3_hasRoom_32 : decode cX3_hasRoom 32 = .ok (.getfield 52, 3) := by decide +kernel
theorem dX3_hasRoom_35 : decode cX3_hasRoom 35 = .ok (.iconst 1, 1) := by decide +kernel
theorem dX3_hasRoom_36 : decode cX3_hasRoom 36 = .ok (.iadd, 1) := by decide +kernel
theorem dX3_hasRoom_37 : decode cX3_hasRoom 37 = .ok (.putfield 52, 3) := by decide +kernel
theorem dX3_hasRoom_40 : decode cX3_hasRoom 40 = .ok (.iload_n 2, 1) := by decide +kernel
theorem dX3_hasRoom_41 : decode cX3_hasRoom 41 = .ok (.ireturn, 1) := by decide +kernel
theorem dX3_reachable_0 : decode cX3_reachable 0 = .ok (.aload_n 0, 1) := by decide +kernel
theorem dX3_reachable_1 : decode cX3_reachable 1 = .ok (.invokevirtual 45, 3) := by decide +kernel
theorem dX3_reachable_4 : decode cX3_reachable 4 = .ok (.iconst 0, 1) := by decide +kernel
theorem dX3_reachable_5 : decode cX3_reachable 5 = .ok (.istore_n 1, 1) := by decide +kernel
theorem dX3_reachable_6 : decode cX3_reachable 6 = .ok (.iconst 0, 1) := by decide +kernel
theorem dX3_reachable_7 : decode cX3_reachable 7 = .ok (.istore_n 2, 1) := by decide +kernel
theorem dX3_reachable_8 : decode cX3_reachable 8 = .ok (.iload_n 2, 1) := by decide +kernel
theorem dX3_reachable_9 : decode cX3_reachable 9 = .ok (.aload_n 0, 1) := by decide +kernel
theorem dX3_reachable_10 : decode cX3_reachable 10 = .ok (.getfield 32, 3) := by decide +kernel
theorem dX3_reachable_13 : decode cX3_reachable 13 = .ok (.if_icmp .ge 33, 3) := by decide +kernel
theorem dX3_reachable_16 : decode cX3_reachable 16 = .ok (.aload_n 0, 1) := by decide +kernel
theorem dX3_reachable_17 : decode cX3_reachable 17 = .ok (.getfield 20, 3) := by decide +kernel
theorem dX3_reachable_20 : decode cX3_reachable 20 = .ok (.iload_n 2, 1) := by decide +kernel
theorem dX3_reachable_21 : decode cX3_reachable 21 = .ok (.baload, 1) := by decide +kernel
theorem dX3_reachable_22 : decode cX3_reachable 22 = .ok (.ifCond .eq 16, 3) := by decide +kernel
theorem dX3_reachable_25 : decode cX3_reachable 25 = .ok (.iload_n 1, 1) := by decide +kernel
theorem dX3_reachable_26 : decode cX3_reachable 26 = .ok (.iconst 2, 1) := by decide +kernel
theorem dX3_reachable_27 : decode cX3_reachable 27 = .ok (.iadd, 1) := by decide +kernel
theorem dX3_reachable_28 : decode cX3_reachable 28 = .ok (.aload_n 0, 1) := by decide +kernel
theorem dX3_reachable_29 : decode cX3_reachable 29 = .ok (.getfield 17, 3) := by decide +kernel
theorem dX3_reachable_32 : decode cX3_reachable 32 = .ok (.iload_n 2, 1) := by decide +kernel
theorem dX3_reachable_33 : decode cX3_reachable 33 = .ok (.iaload, 1) := by decide +kernel
theorem dX3_reachable_34 : decode cX3_reachable 34 = .ok (.iadd, 1) := by decide +kernel
theorem dX3_reachable_35 : decode cX3_reachable 35 = .ok (.goto 4, 3) := by decide +kernel
theorem dX3_reachable_38 : decode cX3_reachable 38 = .ok (.iload_n 1, 1) := by decide +kernel
theorem dX3_reachable_39 : decode cX3_reachable 39 = .ok (.istore_n 1, 1) := by decide +kernel
theorem dX3_reachable_40 : decode cX3_reachable 40 = .ok (.iinc 2 1, 3) := by decide +kernel
theorem dX3_reachable_43 : decode cX3_reachable 43 = .ok (.goto (-35), 3) := by decide +kernel
theorem dX3_reachable_46 : decode cX3_reachable 46 = .ok (.iload_n 1, 1) := by decide +kernel
theorem dX3_reachable_47 : decode cX3_reachable 47 = .ok (.ireturn, 1) := by decide +kernel
theorem dX3_goOver_0 : decode cX3_goOver 0 = .ok (.iconst 0, 1) := by decide +kernel
theorem dX3_goOver_1 : decode cX3_goOver 1 = .ok (.istore_n 1, 1) := by decide +kernel
theorem dX3_goOver_2 : decode cX3_goOver 2 = .ok (.iload_n 1, 1) := by decide +kernel
theorem dX3_goOver_3 : decode cX3_goOver 3 = .ok (.aload_n 0, 1) := by decide +kernel
theorem dX3_goOver_4 : decode cX3_goOver 4 = .ok (.getfield 32, 3) := by decide +kernel
theorem dX3_goOver_7 : decode cX3_goOver 7 = .ok (.if_icmp .ge 16, 3) := by decide +kernel
theorem dX3_goOver_10 : decode cX3_goOver 10 = .ok (.aload_n 0, 1) := by decide +kernel
theorem dX3_goOver_11 : decode cX3_goOver 11 = .ok (.getfield 20, 3) := by decide +kernel
theorem dX3_goOver_14 : decode cX3_goOver 14 = .ok (.iload_n 1, 1) := by decide +kernel
theorem dX3_goOver_15 : decode cX3_goOver 15 = .ok (.iconst 0, 1) := by decide +kernel
theorem dX3_goOver_16 : decode cX3_goOver 16 = .ok (.bastore, 1) := by decide +kernel
theorem dX3_goOver_17 : decode cX3_goOver 17 = .ok (.iinc 1 1, 3) := by decide +kernel
theorem dX3_goOver_20 : decode cX3_goOver 20 = .ok (.goto (-18), 3) := by decide +kernel
theorem dX3_goOver_23 : decode cX3_goOver 23 = .ok (.iconst 0, 1) := by decide +kernel
theorem dX3_goOver_24 : decode cX3_goOver 24 = .ok (.istore_n 1, 1) := by decide +kernel
theorem dX3_goOver_25 : decode cX3_goOver 25 = .ok (.iload_n 1, 1) := by decide +kernel
theorem dX3_goOver_26 : decode cX3_goOver 26 = .ok (.bipush 10, 2) := by decide +kernel
theorem dX3_goOver_28 : decode cX3_goOver 28 = .ok (.aload_n 0, 1) := by decide +kernel
theorem dX3_goOver_29 : decode cX3_goOver 29 = .ok (.getfield 35, 3) := by decide +kernel
theorem dX3_goOver_32 : decode cX3_goOver 32 = .ok (.iadd, 1) := by decide +kernel
theorem dX3_goOver_33 : decode cX3_goOver 33 = .ok (.if_icmp .ge 15, 3) := by decide +kernel
theorem dX3_goOver_36 : decode cX3_goOver 36 = .ok (.aload_n 0, 1) := by decide +kernel
theorem dX3_goOver_37 : decode cX3_goOver 37 = .ok (.iload_n 1, 1) := by decide +kernel
theorem dX3_goOver_38 : decode cX3_goOver 38 = .ok (.invokevirtual 38, 3) := by decide +kernel
theorem dX3_goOver_41 : decode cX3_goOver 41 = .ok (.pop, 1) := by decide +kernel
theorem dX3_goOver_42 : decode cX3_goOver 42 = .ok (.iinc 1 1, 3) := by decide +kernel
theorem dX3_goOver_45 : decode cX3_goOver 45 = .ok (.goto (-20), 3) := by decide +kernel
theorem dX3_goOver_48 : decode cX3_goOver 48 = .ok (.iconst 1, 1) := by decide +kernel
theorem dX3_goOver_49 : decode cX3_goOver 49 = .ok (.istore_n 1, 1) := by decide +kernel
theorem dX3_goOver_50 : decode cX3_goOver 50 = .ok (.iload_n 1, 1) := by decide +kernel
theorem dX3_goOver_51 : decode cX3_goOver 51 = .ok (.ifCond .eq 73, 3) := by decide +kernel
theorem dX3_goOver_54 : decode cX3_goOver 54 = .ok (.iconst 0, 1) := by decide +kernel
theorem dX3_goOver_55 : decode cX3_goOver 55 = .ok (.istore_n 1, 1) := by decide +kernel
theorem dX3_goOver_56 : decode cX3_goOver 56 = .ok (.iconst 0, 1) := by decide +kernel
theorem dX3_goOver_57 : decode cX3_goOver 57 = .ok (.istore_n 2, 1) := by decide +kernel
theorem dX3_goOver_58 : decode cX3_goOver 58 = .ok (.iload_n 2, 1) := by decide +kernel
theorem dX3_goOver_59 : decode cX3_goOver 59 = .ok (.aload_n 0, 1) := by decide +kernel
theorem dX3_goOver_60 : decode cX3_goOver 60 = .ok (.getfield 32, 3) := by decide +kernel
theorem dX3_goOver_63 : decode cX3_goOver 63 = .ok (.if_icmp .ge 58, 3) := by decide +kernel
end
section
theorem dX3_goOver_66 : decode cX3_goOver 66 = .ok (.iconst 0, 1) := by decide +kernel
theorem dX3_goOver_67 : decode cX3_goOver 67 = .ok (.istore_n 3, 1) := by decide +kernel
theorem dX3_goOver_68 : decode cX3_goOver 68 = .ok (.iload_n 3, 1) := by decide +kernel
theorem dX3_goOver_69 : decode cX3_goOver 69 = .ok (.aload_n 0, 1) := by decide +kernel
theorem dX3_goOver_70 : decode cX3_goOver 70 = .ok (.getfield 17, 3) := by decide +kernel
theorem dX3_goOver_73 : decode cX3_goOver 73 = .ok (.iload_n 2, 1) := by decide +kernel
theorem dX3_goOver_74 : decode cX3_goOver 74 = .ok (.iaload, 1) := by decide +kernel
theorem dX3_goOver_75 : decode cX3_goOver 75 = .ok (.if_icmp .ge 40, 3) := by decide +kernel
theorem dX3_goOver_78 : decode cX3_goOver 78 = .ok (.aload_n 0, 1) := by decide +kernel
theorem dX3_goOver_79 : decode cX3_goOver 79 = .ok (.getfield 20, 3) := by decide +kernel
theorem dX3_goOver_82 : decode cX3_goOver 82 = .ok (.iload_n 2, 1) := by decide +kernel
theorem dX3_goOver_83 : decode cX3_goOver 83 = .ok (.baload, 1) := by decide +kernel
theorem dX3_goOver_84 : decode cX3_goOver 84 = .ok (.ifCond .eq 31, 3) := by decide +kernel
theorem dX3_goOver_87 : decode cX3_goOver 87 = .ok (.aload_n 0, 1) := by decide +kernel
theorem dX3_goOver_88 : decode cX3_goOver 88 = .ok (.iload_n 2, 1) := by decide +kernel
theorem dX3_goOver_89 : decode cX3_goOver 89 = .ok (.iload_n 3, 1) := by decide +kernel
theorem dX3_goOver_90 : decode cX3_goOver 90 = .ok (.invokestatic 41, 3) := by decide +kernel
theorem dX3_goOver_93 : decode cX3_goOver 93 = .ok (.invokevirtual 38, 3) := by decide +kernel
theorem dX3_goOver_96 : decode cX3_goOver 96 = .ok (.ifCond .ne 7, 3) := by decide +kernel
theorem dX3_goOver_99 : decode cX3_goOver 99 = .ok (.iload_n 1, 1) := by decide +kernel
theorem dX3_goOver_100 : decode cX3_goOver 100 = .ok (.ifCond .eq 7, 3) := by decide +kernel
theorem dX3_goOver_103 : decode cX3_goOver 103 = .ok (.iconst 1, 1) := by decide +kernel
theorem dX3_goOver_104 : decode cX3_goOver 104 = .ok (.goto 4, 3) := by decide +kernel
theorem dX3_goOver_107 : decode cX3_goOver 107 = .ok (.iconst 0, 1) := by decide +kernel
theorem dX3_goOver_108 : decode cX3_goOver 108 = .ok (.istore_n 1, 1) := by decide +kernel
theorem dX3_goOver_109 : decode cX3_goOver 109 = .ok (.iinc 3 1, 3) := by decide +kernel
theorem dX3_goOver_112 : decode cX3_goOver 112 = .ok (.goto (-44), 3) := by decide +kernel
theorem dX3_goOver_115 : decode cX3_goOver 115 = .ok (.iinc 2 1, 3) := by decide +kernel
theorem dX3_goOver_118 : decode cX3_goOver 118 = .ok (.goto (-60), 3) := by decide +kernel
theorem dX3_goOver_121 : decode cX3_goOver 121 = .ok (.goto (-71), 3) := by decide +kernel
theorem dX3_goOver_124 : decode cX3_goOver 124 = .ok (.return_, 1) := by decide +kernel
theorem dX3_reach_0 : decode cX3_reach 0 = .ok (.aload_n 0, 1) := by decide +kernel
theorem dX3_reach_1 : decode cX3_reach 1 = .ok (.getfield 7, 3) := by decide +kernel
theorem dX3_reach_4 : decode cX3_reach 4 = .ok (.iload_n 1, 1) := by decide +kernel
theorem dX3_reach_5 : decode cX3_reach 5 = .ok (.baload, 1) := by decide +kernel
theorem dX3_reach_6 : decode cX3_reach 6 = .ok (.iconst 2, 1) := by decide +kernel
theorem dX3_reach_7 : decode cX3_reach 7 = .ok (.if_icmp .ne 17, 3) := by decide +kernel
theorem dX3_reach_10 : decode cX3_reach 10 = .ok (.aload_n 0, 1) := by decide +kernel
theorem dX3_reach_11 : decode cX3_reach 11 = .ok (.getfield 20, 3) := by decide +kernel
theorem dX3_reach_14 : decode cX3_reach 14 = .ok (.aload_n 0, 1) := by decide +kernel
theorem dX3_reach_15 : decode cX3_reach 15 = .ok (.getfield 13, 3) := by decide +kernel
theorem dX3_reach_18 : decode cX3_reach 18 = .ok (.iload_n 1, 1) := by decide +kernel
theorem dX3_reach_19 : decode cX3_reach 19 = .ok (.iaload, 1) := by decide +kernel
theorem dX3_reach_20 : decode cX3_reach 20 = .ok (.baload, 1) := by decide +kernel
theorem dX3_reach_21 : decode cX3_reach 21 = .ok (.ifCond .eq 5, 3) := by decide +kernel
theorem dX3_reach_24 : decode cX3_reach 24 = .ok (.iconst 0, 1) := by decide +kernel
theorem dX3_reach_25 : decode cX3_reach 25 = .ok (.ireturn, 1) := by decide +kernel
theorem dX3_reach_26 : decode cX3_reach 26 = .ok (.aload_n 0, 1) := by decide +kernel
theorem dX3_reach_27 : decode cX3_reach 27 = .ok (.getfield 20, 3) := by decide +kernel
theorem dX3_reach_30 : decode cX3_reach 30 = .ok (.aload_n 0, 1) := by decide +kernel
theorem dX3_reach_31 : decode cX3_reach 31 = .ok (.getfield 13, 3) := by decide +kernel
theorem dX3_reach_34 : decode cX3_reach 34 = .ok (.iload_n 1, 1) := by decide +kernel
theorem dX3_reach_35 : decode cX3_reach 35 = .ok (.iaload, 1) := by decide +kernel
theorem dX3_reach_36 : decode cX3_reach 36 = .ok (.iconst 1, 1) := by decide +kernel
theorem dX3_reach_37 : decode cX3_reach 37 = .ok (.bastore, 1) := by decide +kernel
theorem dX3_reach_38 : decode cX3_reach 38 = .ok (.iconst 1, 1) := by decide +kernel
theorem dX3_reach_39 : decode cX3_reach 39 = .ok (.ireturn, 1) := by decide +kernel
theorem dX3_placeOf_0 : decode cX3_placeOf 0 = .ok (.bipush 60, 2) := by decide +kernel
theorem dX3_placeOf_2 : decode cX3_placeOf 2 = .ok (.bipush 20, 2) := by decide +kernel
theorem dX3_placeOf_4 : decode cX3_placeOf 4 = .ok (.iload_n 0, 1) := by decide +kernel
theorem dX3_placeOf_5 : decode cX3_placeOf 5 = .ok (.imul, 1) := by decide +kernel
theorem dX3_placeOf_6 : decode cX3_placeOf 6 = .ok (.iadd, 1) := by decide +kernel
theorem dX3_placeOf_7 : decode cX3_placeOf 7 = .ok (.iload_n 1, 1) := by decide +kernel
theorem dX3_placeOf_8 : decode cX3_placeOf 8 = .ok (.iadd, 1) := by decide +kernel
theorem dX3_placeOf_9 : decode cX3_placeOf 9 = .ok (.ireturn, 1) := by decide +kernel
theorem dX3_move_0 : decode cX3_move 0 = .ok (.aload_n 0, 1) := by decide +kernel
theorem dX3_move_1 : decode cX3_move 1 = .ok (.getfield 7, 3) := by decide +kernel
theorem dX3_move_4 : decode cX3_move 4 = .ok (.iload_n 1, 1) := by decide +kernel
theorem dX3_move_5 : decode cX3_move 5 = .ok (.aload_n 0, 1) := by decide +kernel
theorem dX3_move_6 : decode cX3_move 6 = .ok (.getfield 7, 3) := by decide +kernel
theorem dX3_move_9 : decode cX3_move 9 = .ok (.iload_n 2, 1) := by decide +kernel
theorem dX3_move_10 : decode cX3_move 10 = .ok (.baload, 1) := by decide +kernel
theorem dX3_move_11 : decode cX3_move 11 = .ok (.bastore, 1) := by decide +kernel
theorem dX3_move_12 : decode cX3_move 12 = .ok (.aload_n 0, 1) := by decide +kernel
theorem dX3_move_13 : decode cX3_move 13 = .ok (.getfield 13, 3) := by decide +kernel
theorem dX3_move_16 : decode cX3_move 16 = .ok (.iload_n 1, 1) := by decide +kernel
theorem dX3_move_17 : decode cX3_move 17 = .ok (.aload_n 0, 1) := by decide +kernel
theorem dX3_move_18 : decode cX3_move 18 = .ok (.getfield 13, 3) := by decide +kernel
theorem dX3_move_21 : decode cX3_move 21 = .ok (.iload_n 2, 1) := by decide +kernel
theorem dX3_move_22 : decode cX3_move 22 = .ok (.iaload, 1) := by decide +kernel
theorem dX3_move_23 : decode cX3_move 23 = .ok (.iastore, 1) := by decide +kernel
theorem dX3_move_24 : decode cX3_move 24 = .ok (.return_, 1) := by decide +kernel
theorem dX3_grow_0 : decode cX3_grow 0 = .ok (.aload_n 0, 1) := by decide +kernel
theorem dX3_grow_1 : decode cX3_grow 1 = .ok (.iload_n 1, 1) := by decide +kernel
theorem dX3_grow_2 : decode cX3_grow 2 = .ok (.invokevirtual 62, 3) := by decide +kernel
theorem dX3_grow_5 : decode cX3_grow 5 = .ok (.ifCond .eq 26, 3) := by decide +kernel
theorem dX3_grow_8 : decode cX3_grow 8 = .ok (.iload_n 2, 1) := by decide +kernel
theorem dX3_grow_9 : decode cX3_grow 9 = .ok (.invokestatic 28, 3) := by decide +kernel
theorem dX3_grow_12 : decode cX3_grow 12 = .ok (.ifCond .eq 19, 3) := by decide +kernel
theorem dX3_grow_15 : decode cX3_grow 15 = .ok (.aload_n 0, 1) := by decide +kernel
theorem dX3_grow_16 : decode cX3_grow 16 = .ok (.getfield 17, 3) := by decide +kernel
theorem dX3_grow_19 : decode cX3_grow 19 = .ok (.aload_n 0, 1) := by decide +kernel
theorem dX3_grow_20 : decode cX3_grow 20 = .ok (.getfield 13, 3) := by decide +kernel
theorem dX3_grow_23 : decode cX3_grow 23 = .ok (.iload_n 1, 1) := by decide +kernel
theorem dX3_grow_24 : decode cX3_grow 24 = .ok (.iaload, 1) := by decide +kernel
theorem dX3_grow_25 : decode cX3_grow 25 = .ok (.iaload, 1) := by decide +kernel
theorem dX3_grow_26 : decode cX3_grow 26 = .ok (.bipush 20, 2) := by decide +kernel
theorem dX3_grow_28 : decode cX3_grow 28 = .ok (.if_icmp .ne 5, 3) := by decide +kernel
theorem dX3_grow_31 : decode cX3_grow 31 = .ok (.iconst (-1), 1) := by decide +kernel
theorem dX3_grow_32 : decode cX3_grow 32 = .ok (.ireturn, 1) := by decide +kernel
theorem dX3_grow_33 : decode cX3_grow 33 = .ok (.aload_n 0, 1) := by decide +kernel
theorem dX3_grow_34 : decode cX3_grow 34 = .ok (.iconst 1, 1) := by decide +kernel
theorem dX3_grow_35 : decode cX3_grow 35 = .ok (.invokevirtual 55, 3) := by decide +kernel
theorem dX3_grow_38 : decode cX3_grow 38 = .ok (.ifCond .ne 5, 3) := by decide +kernel
theorem dX3_grow_41 : decode cX3_grow 41 = .ok (.iconst 0, 1) := by decide +kernel
theorem dX3_grow_42 : decode cX3_grow 42 = .ok (.ireturn, 1) := by decide +kernel
theorem dX3_grow_43 : decode cX3_grow 43 = .ok (.aload_n 0, 1) := by decide +kernel
theorem dX3_grow_44 : decode cX3_grow 44 = .ok (.getfield 13, 3) := by decide +kernel
theorem dX3_grow_47 : decode cX3_grow 47 = .ok (.iload_n 1, 1) := by decide +kernel
theorem dX3_grow_48 : decode cX3_grow 48 = .ok (.iaload, 1) := by decide +kernel
theorem dX3_grow_49 : decode cX3_grow 49 = .ok (.istore_n 3, 1) := by decide +kernel
theorem dX3_grow_50 : decode cX3_grow 50 = .ok (.aload_n 0, 1) := by decide +kernel
theorem dX3_grow_51 : decode cX3_grow 51 = .ok (.iload_n 3, 1) := by decide +kernel
theorem dX3_grow_52 : decode cX3_grow 52 = .ok (.aload_n 0, 1) := by decide +kernel
theorem dX3_grow_53 : decode cX3_grow 53 = .ok (.getfield 17, 3) := by decide +kernel
theorem dX3_grow_56 : decode cX3_grow 56 = .ok (.iload_n 3, 1) := by decide +kernel
theorem dX3_grow_57 : decode cX3_grow 57 = .ok (.iaload, 1) := by decide +kernel
theorem dX3_grow_58 : decode cX3_grow 58 = .ok (.invokestatic 41, 3) := by decide +kernel
theorem dX3_grow_61 : decode cX3_grow 61 = .ok (.iload_n 2, 1) := by decide +kernel
theorem dX3_grow_62 : decode cX3_grow 62 = .ok (.invokevirtual 58, 3) := by decide +kernel
theorem dX3_grow_65 : decode cX3_grow 65 = .ok (.aload_n 0, 1) := by decide +kernel
theorem dX3_grow_66 : decode cX3_grow 66 = .ok (.getfield 17, 3) := by decide +kernel
theorem dX3_grow_69 : decode cX3_grow 69 = .ok (.iload_n 3, 1) := by decide +kernel
theorem dX3_grow_70 : decode cX3_grow 70 = .ok (.dup2, 1) := by decide +kernel
theorem dX3_grow_71 : decode cX3_grow 71 = .ok (.iaload, 1) := by decide +kernel
theorem dX3_grow_72 : decode cX3_grow 72 = .ok (.iconst 1, 1) := by decide +kernel
theorem dX3_grow_73 : decode cX3_grow 73 = .ok (.iadd, 1) := by decide +kernel
theorem dX3_grow_74 : decode cX3_grow 74 = .ok (.iastore, 1) := by decide +kernel
theorem dX3_grow_75 : decode cX3_grow 75 = .ok (.aload_n 0, 1) := by decide +kernel
theorem dX3_grow_76 : decode cX3_grow 76 = .ok (.getfield 17, 3) := by decide +kernel
theorem dX3_grow_79 : decode cX3_grow 79 = .ok (.iload_n 3, 1) := by decide +kernel
theorem dX3_grow_80 : decode cX3_grow 80 = .ok (.iaload, 1) := by decide +kernel
theorem dX3_grow_81 : decode cX3_grow 81 = .ok (.ireturn, 1) := by decide +kernel
theorem dX3_hasObject_0 : decode cX3_hasObject 0 = .ok (.iload_n 1, 1) := by decide +kernel
theorem dX3_hasObject_1 : decode cX3_hasObject 1 = .ok (.invokestatic 28, 3) := by decide +kernel
theorem dX3_hasObject_4 : decode cX3_hasObject 4 = .ok (.ifCond .eq 17, 3) := by decide +kernel
theorem dX3_hasObject_7 : decode cX3_hasObject 7 = .ok (.aload_n 0, 1) := by decide +kernel
theorem dX3_hasObject_8 : decode cX3_hasObject 8 = .ok (.getfield 7, 3) := by decide +kernel
theorem dX3_hasObject_11 : decode cX3_hasObject 11 = .ok (.iload_n 1, 1) := by decide +kernel
theorem dX3_hasObject_12 : decode cX3_hasObject 12 = .ok (.baload, 1) := by decide +kernel
theorem dX3_hasObject_13 : decode cX3_hasObject 13 = .ok (.iconst 2, 1) := by decide +kernel
theorem dX3_hasObject_14 : decode cX3_hasObject 14 = .ok (.if_icmp .ne 7, 3) := by decide +kernel
theorem dX3_hasObject_17 : decode cX3_hasObject 17 = .ok (.iconst 1, 1) := by decide +kernel
theorem dX3_hasObject_18 : decode cX3_hasObject 18 = .ok (.goto 4, 3) := by decide +kernel
theorem dX3_hasObject_21 : decode cX3_hasObject 21 = .ok (.iconst 0, 1) := by decide +kernel
theorem dX3_hasObject_22 : decode cX3_hasObject 22 = .ok (.ireturn, 1) := by decide +kernel
theorem dX3_shrink_0 : decode cX3_shrink 0 = .ok (.aload_n 0, 1) := by decide +kernel
theorem dX3_shrink_1 : decode cX3_shrink 1 = .ok (.iload_n 1, 1) := by decide +kernel
theorem dX3_shrink_2 : decode cX3_shrink 2 = .ok (.invokevirtual 62, 3) := by decide +kernel
theorem dX3_shrink_5 : decode cX3_shrink 5 = .ok (.ifCond .eq 17, 3) := by decide +kernel
theorem dX3_shrink_8 : decode cX3_shrink 8 = .ok (.aload_n 0, 1) := by decide +kernel
theorem dX3_shrink_9 : decode cX3_shrink 9 = .ok (.getfield 17, 3) := by decide +kernel
theorem dX3_shrink_12 : decode cX3_shrink 12 = .ok (.aload_n 0, 1) := by decide +kernel
theorem dX3_shrink_13 : decode cX3_shrink 13 = .ok (.getfield 13, 3) := by decide +kernel
theorem dX3_shrink_16 : decode cX3_shrink 16 = .ok (.iload_n 1, 1) := by decide +kernel
theorem dX3_shrink_17 : decode cX3_shrink 17 = .ok (.iaload, 1) := by decide +kernel
theorem dX3_shrink_18 : decode cX3_shrink 18 = .ok (.iaload, 1) := by decide +kernel
theorem dX3_shrink_19 : decode cX3_shrink 19 = .ok (.ifCond .ne 5, 3) := by decide +kernel
theorem dX3_shrink_22 : decode cX3_shrink 22 = .ok (.iconst (-1), 1) := by decide +kernel
theorem dX3_shrink_23 : decode cX3_shrink 23 = .ok (.ireturn, 1) := by decide +kernel
theorem dX3_shrink_24 : decode cX3_shrink 24 = .ok (.aload_n 0, 1) := by decide +kernel
theorem dX3_shrink_25 : decode cX3_shrink 25 = .ok (.getfield 13, 3) := by decide +kernel
theorem dX3_shrink_28 : decode cX3_shrink 28 = .ok (.iload_n 1, 1) := by decide +kernel
theorem dX3_shrink_29 : decode cX3_shrink 29 = .ok (.iaload, 1) := by decide +kernel
theorem dX3_shrink_30 : decode cX3_shrink 30 = .ok (.istore_n 2, 1) := by decide +kernel
theorem dX3_shrink_31 : decode cX3_shrink 31 = .ok (.aload_n 0, 1) := by decide +kernel
theorem dX3_shrink_32 : decode cX3_shrink 32 = .ok (.getfield 17, 3) := by decide +kernel
theorem dX3_shrink_35 : decode cX3_shrink 35 = .ok (.iload_n 2, 1) := by decide +kernel
theorem dX3_shrink_36 : decode cX3_shrink 36 = .ok (.dup2, 1) := by decide +kernel
theorem dX3_shrink_37 : decode cX3_shrink 37 = .ok (.iaload, 1) := by decide +kernel
theorem dX3_shrink_38 : decode cX3_shrink 38 = .ok (.iconst 1, 1) := by decide +kernel
theorem dX3_shrink_39 : decode cX3_shrink 39 = .ok (.isub, 1) := by decide +kernel
theorem dX3_shrink_40 : decode cX3_shrink 40 = .ok (.iastore, 1) := by decide +kernel
theorem dX3_shrink_41 : decode cX3_shrink 41 = .ok (.aload_n 0, 1) := by decide +kernel
theorem dX3_shrink_42 : decode cX3_shrink 42 = .ok (.iload_n 2, 1) := by decide +kernel
theorem dX3_shrink_43 : decode cX3_shrink 43 = .ok (.aload_n 0, 1) := by decide +kernel
theorem dX3_shrink_44 : decode cX3_shrink 44 = .ok (.getfield 17, 3) := by decide +kernel
theorem dX3_shrink_47 : decode cX3_shrink 47 = .ok (.iload_n 2, 1) := by decide +kernel
theorem dX3_shrink_48 : decode cX3_shrink 48 = .ok (.iaload, 1) := by decide +kernel
theorem dX3_shrink_49 : decode cX3_shrink 49 = .ok (.invokestatic 41, 3) := by decide +kernel
theorem dX3_shrink_52 : decode cX3_shrink 52 = .ok (.invokevirtual 65, 3) := by decide +kernel
theorem dX3_shrink_55 : decode cX3_shrink 55 = .ok (.aload_n 0, 1) := by decide +kernel
theorem dX3_shrink_56 : decode cX3_shrink 56 = .ok (.getfield 17, 3) := by decide +kernel
theorem dX3_shrink_59 : decode cX3_shrink 59 = .ok (.iload_n 2, 1) := by decide +kernel
theorem dX3_shrink_60 : decode cX3_shrink 60 = .ok (.iaload, 1) := by decide +kernel
theorem dX3_shrink_61 : decode cX3_shrink 61 = .ok (.ireturn, 1) := by decide +kernel
theorem dX3_empty_0 : decode cX3_empty 0 = .ok (.aload_n 0, 1) := by decide +kernel
theorem dX3_empty_1 : decode cX3_empty 1 = .ok (.getfield 7, 3) := by decide +kernel
theorem dX3_empty_4 : decode cX3_empty 4 = .ok (.iload_n 1, 1) := by decide +kernel
theorem dX3_empty_5 : decode cX3_empty 5 = .ok (.iconst 0, 1) := by decide +kernel
theorem dX3_empty_6 : decode cX3_empty 6 = .ok (.bastore, 1) := by decide +kernel
theorem dX3_empty_7 : decode cX3_empty 7 = .ok (.aload_n 0, 1) := by decide +kernel
theorem dX3_empty_8 : decode cX3_empty 8 = .ok (.getfield 13, 3) := by decide +kernel
theorem dX3_empty_11 : decode cX3_empty 11 = .ok (.iload_n 1, 1) := by decide +kernel
theorem dX3_empty_12 : decode cX3_empty 12 = .ok (.iconst 0, 1) := by decide +kernel
theorem dX3_empty_13 : decode cX3_empty 13 = .ok (.iastore, 1) := by decide +kernel
theorem dX3_empty_14 : decode cX3_empty 14 = .ok (.return_, 1) := by decide +kernel
theorem dX3_number_0 : decode cX3_number 0 = .ok (.iload_n 1, 1) := by decide +kernel
theorem dX3_number_1 : decode cX3_number 1 = .ok (.invokestatic 28, 3) := by decide +kernel
theorem dX3_number_4 : decode cX3_number 4 = .ok (.ifCond .ne 5, 3) := by decide +kernel
theorem dX3_number_7 : decode cX3_number 7 = .ok (.iconst 0, 1) := by decide +kernel
theorem dX3_number_8 : decode cX3_number 8 = .ok (.ireturn, 1) := by decide +kernel
theorem dX3_number_9 : decode cX3_number 9 = .ok (.aload_n 0, 1) := by decide +kernel
theorem dX3_number_10 : decode cX3_number 10 = .ok (.getfield 7, 3) := by decide +kernel
theorem dX3_number_13 : decode cX3_number 13 = .ok (.iload_n 1, 1) := by decide +kernel
theorem dX3_number_14 : decode cX3_number 14 = .ok (.iconst 1, 1) := by decide +kernel
theorem dX3_number_15 : decode cX3_number 15 = .ok (.bastore, 1) := by decide +kernel
theorem dX3_number_16 : decode cX3_number 16 = .ok (.aload_n 0, 1) := by decide +kernel
theorem dX3_number_17 : decode cX3_number 17 = .ok (.getfield 13, 3) := by decide +kernel
theorem dX3_number_20 : decode cX3_number 20 = .ok (.iload_n 1, 1) := by decide +kernel
theorem dX3_number_21 : decode cX3_number 21 = .ok (.iload_n 2, 1) := by decide +kernel
theorem dX3_number_22 : decode cX3_number 22 = .ok (.iastore, 1) := by decide +kernel
theorem dX3_number_23 : decode cX3_number 23 = .ok (.iconst 1, 1) := by decide +kernel
theorem dX3_number_24 : decode cX3_number 24 = .ok (.ireturn, 1) := by decide +kernel
theorem dX3_copy_0 : decode cX3_copy 0 = .ok (.iload_n 1, 1) := by decide +kernel
theorem dX3_copy_1 : decode cX3_copy 1 = .ok (.invokestatic 28, 3) := by decide +kernel
theorem dX3_copy_4 : decode cX3_copy 4 = .ok (.ifCond .eq 15, 3) := by decide +kernel
theorem dX3_copy_7 : decode cX3_copy 7 = .ok (.iload_n 2, 1) := by decide +kernel
theorem dX3_copy_8 : decode cX3_copy 8 = .ok (.iconst (-1), 1) := by decide +kernel
theorem dX3_copy_9 : decode cX3_copy 9 = .ok (.if_icmp .eq 12, 3) := by decide +kernel
theorem dX3_copy_12 : decode cX3_copy 12 = .ok (.iload_n 2, 1) := by decide +kernel
theorem dX3_copy_13 : decode cX3_copy 13 = .ok (.invokestatic 28, 3) := by decide +kernel
theorem dX3_copy_16 : decode cX3_copy 16 = .ok (.ifCond .ne 5, 3) := by decide +kernel
theorem dX3_copy_19 : decode cX3_copy 19 = .ok (.iconst 0, 1) := by decide +kernel
theorem dX3_copy_20 : decode cX3_copy 20 = .ok (.ireturn, 1) := by decide +kernel
theorem dX3_copy_21 : decode cX3_copy 21 = .ok (.iload_n 2, 1) := by decide +kernel
theorem dX3_copy_22 : decode cX3_copy 22 = .ok (.iconst (-1), 1) := by decide +kernel
theorem dX3_copy_23 : decode cX3_copy 23 = .ok (.if_icmp .ne 11, 3) := by decide +kernel
theorem dX3_copy_26 : decode cX3_copy 26 = .ok (.aload_n 0, 1) := by decide +kernel
theorem dX3_copy_27 : decode cX3_copy 27 = .ok (.iload_n 1, 1) := by decide +kernel
theorem dX3_copy_28 : decode cX3_copy 28 = .ok (.invokevirtual 65, 3) := by decide +kernel
theorem dX3_copy_31 : decode cX3_copy 31 = .ok (.goto 9, 3) := by decide +kernel
theorem dX3_copy_34 : decode cX3_copy 34 = .ok (.aload_n 0, 1) := by decide +kernel
theorem dX3_copy_35 : decode cX3_copy 35 = .ok (.iload_n 1, 1) := by decide +kernel
theorem dX3_copy_36 : decode cX3_copy 36 = .ok (.iload_n 2, 1) := by decide +kernel
theorem dX3_copy_37 : decode cX3_copy 37 = .ok (.invokevirtual 58, 3) := by decide +kernel
theorem dX3_copy_40 : decode cX3_copy 40 = .ok (.iconst 1, 1) := by decide +kernel
theorem dX3_copy_41 : decode cX3_copy 41 = .ok (.ireturn, 1) := by decide +kernel
theorem dX3_get_0 : decode cX3_get 0 = .ok (.iload_n 1, 1) := by decide +kernel
theorem dX3_get_1 : decode cX3_get 1 = .ok (.invokestatic 28, 3) := by decide +kernel
theorem dX3_get_4 : decode cX3_get 4 = .ok (.ifCond .eq 12, 3) := by decide +kernel
theorem dX3_get_7 : decode cX3_get 7 = .ok (.aload_n 0, 1) := by decide +kernel
theorem dX3_get_8 : decode cX3_get 8 = .ok (.iload_n 2, 1) := by decide +kernel
theorem dX3_get_9 : decode cX3_get 9 = .ok (.iload_n 3, 1) := by decide +kernel
theorem dX3_get_10 : decode cX3_get 10 = .ok (.invokevirtual 69, 3) := by decide +kernel
theorem dX3_get_13 : decode cX3_get 13 = .ok (.ifCond .ne 5, 3) := by decide +kernel
theorem dX3_get_16 : decode cX3_get 16 = .ok (.iconst 0, 1) := by decide +kernel
theorem dX3_get_17 : decode cX3_get 17 = .ok (.ireturn, 1) := by decide +kernel
theorem dX3_get_18 : decode cX3_get 18 = .ok (.aload_n 0, 1) := by decide +kernel
theorem dX3_get_19 : decode cX3_get 19 = .ok (.iload_n 1, 1) := by decide +kernel
theorem dX3_get_20 : decode cX3_get 20 = .ok (.aload_n 0, 1) := by decide +kernel
theorem dX3_get_21 : decode cX3_get 21 = .ok (.getfield 13, 3) := by decide +kernel
theorem dX3_get_24 : decode cX3_get 24 = .ok (.iload_n 2, 1) := by decide +kernel
theorem dX3_get_25 : decode cX3_get 25 = .ok (.iaload, 1) := by decide +kernel
theorem dX3_get_26 : decode cX3_get 26 = .ok (.iload_n 3, 1) := by decide +kernel
theorem dX3_get_27 : decode cX3_get 27 = .ok (.invokestatic 41, 3) := by decide +kernel
theorem dX3_get_30 : decode cX3_get 30 = .ok (.invokevirtual 58, 3) := by decide +kernel
theorem dX3_get_33 : decode cX3_get 33 = .ok (.iconst 1, 1) := by decide +kernel
theorem dX3_get_34 : decode cX3_get 34 = .ok (.ireturn, 1) := by decide +kernel
theorem dX3_hasValue_0 : decode cX3_hasValue 0 = .ok (.aload_n 0, 1) := by decide +kernel
theorem dX3_hasValue_1 : decode cX3_hasValue 1 = .ok (.iload_n 1, 1) := by decide +kernel
theorem dX3_hasValue_2 : decode cX3_hasValue 2 = .ok (.invokevirtual 62, 3) := by decide +kernel
theorem dX3_hasValue_5 : decode cX3_hasValue 5 = .ok (.ifCond .eq 26, 3) := by decide +kernel
theorem dX3_hasValue_8 : decode cX3_hasValue 8 = .ok (.iload_n 2, 1) := by decide +kernel
theorem dX3_hasValue_9 : decode cX3_hasValue 9 = .ok (.ifCond .lt 22, 3) := by decide +kernel
theorem dX3_hasValue_12 : decode cX3_hasValue 12 = .ok (.iload_n 2, 1) := by decide +kernel
theorem dX3_hasValue_13 : decode cX3_hasValue 13 = .ok (.aload_n 0, 1) := by decide +kernel
theorem dX3_hasValue_14 : decode cX3_hasValue 14 = .ok (.getfield 17, 3) := by decide +kernel
theorem dX3_hasValue_17 : decode cX3_hasValue 17 = .ok (.aload_n 0, 1) := by decide +kernel
theorem dX3_hasValue_18 : decode cX3_hasValue 18 = .ok (.getfield 13, 3) := by decide +kernel
theorem dX3_hasValue_21 : decode cX3_hasValue 21 = .ok (.iload_n 1, 1) := by decide +kernel
theorem dX3_hasValue_22 : decode cX3_hasValue 22 = .ok (.iaload, 1) := by decide +kernel
theorem dX3_hasValue_23 : decode cX3_hasValue 23 = .ok (.iaload, 1) := by decide +kernel
theorem dX3_hasValue_24 : decode cX3_hasValue 24 = .ok (.if_icmp .ge 7, 3) := by decide +kernel
theorem dX3_hasValue_27 : decode cX3_hasValue 27 = .ok (.iconst 1, 1) := by decide +kernel
theorem dX3_hasValue_28 : decode cX3_hasValue 28 = .ok (.goto 4, 3) := by decide +kernel
theorem dX3_hasValue_31 : decode cX3_hasValue 31 = .ok (.iconst 0, 1) := by decide +kernel
theorem dX3_hasValue_32 : decode cX3_hasValue 32 = .ok (.ireturn, 1) := by decide +kernel
theorem dX3_set_0 : decode cX3_set 0 = .ok (.iload_n 3, 1) := by decide +kernel
theorem dX3_set_1 : decode cX3_set 1 = .ok (.invokestatic 28, 3) := by decide +kernel
theorem dX3_set_4 : decode cX3_set 4 = .ok (.ifCond .eq 12, 3) := by decide +kernel
theorem dX3_set_7 : decode cX3_set 7 = .ok (.aload_n 0, 1) := by decide +kernel
theorem dX3_set_8 : decode cX3_set 8 = .ok (.iload_n 1, 1) := by decide +kernel
theorem dX3_set_9 : decode cX3_set 9 = .ok (.iload_n 2, 1) := by decide +kernel
theorem dX3_set_10 : decode cX3_set 10 = .ok (.invokevirtual 69, 3) := by decide +kernel
theorem dX3_set_13 : decode cX3_set 13 = .ok (.ifCond .ne 5, 3) := by decide +kernel
theorem dX3_set_16 : decode cX3_set 16 = .ok (.iconst 0, 1) := by decide +kernel
theorem dX3_set_17 : decode cX3_set 17 = .ok (.ireturn, 1) := by decide +kernel
theorem dX3_set_18 : decode cX3_set 18 = .ok (.aload_n 0, 1) := by decide +kernel
theorem dX3_set_19 : decode cX3_set 19 = .ok (.aload_n 0, 1) := by decide +kernel
theorem dX3_set_20 : decode cX3_set 20 = .ok (.getfield 13, 3) := by decide +kernel
theorem dX3_set_23 : decode cX3_set 23 = .ok (.iload_n 1, 1) := by decide +kernel
theorem dX3_set_24 : decode cX3_set 24 = .ok (.iaload, 1) := by decide +kernel
theorem dX3_set_25 : decode cX3_set 25 = .ok (.iload_n 2, 1) := by decide +kernel
theorem dX3_set_26 : decode cX3_set 26 = .ok (.invokestatic 41, 3) := by decide +kernel
theorem dX3_set_29 : decode cX3_set 29 = .ok (.iload_n 3, 1) := by decide +kernel
theorem dX3_set_30 : decode cX3_set 30 = .ok (.invokevirtual 58, 3) := by decide +kernel
theorem dX3_set_33 : decode cX3_set 33 = .ok (.iconst 1, 1) := by decide +kernel
theorem dX3_set_34 : decode cX3_set 34 = .ok (.ireturn, 1) := by decide +kernel
theorem dX3_push_0 : decode cX3_push 0 = .ok (.iload_n 1, 1) := by decide +kernel
end
section
theorem dX3_push_1 : decode cX3_push 1 = .ok (.invokestatic 28, 3) := by decide +kernel
theorem dX3_push_4 : decode cX3_push 4 = .ok (.ifCond .eq 12, 3) := by decide +kernel
theorem dX3_push_7 : decode cX3_push 7 = .ok (.aload_n 0, 1) := by decide +kernel
theorem dX3_push_8 : decode cX3_push 8 = .ok (.getfield 35, 3) := by decide +kernel
theorem dX3_push_11 : decode cX3_push 11 = .ok (.bipush 50, 2) := by decide +kernel
theorem dX3_push_13 : decode cX3_push 13 = .ok (.if_icmp .ne 5, 3) := by decide +kernel
theorem dX3_push_16 : decode cX3_push 16 = .ok (.iconst (-1), 1) := by decide +kernel
theorem dX3_push_17 : decode cX3_push 17 = .ok (.ireturn, 1) := by decide +kernel
theorem dX3_push_18 : decode cX3_push 18 = .ok (.aload_n 0, 1) := by decide +kernel
theorem dX3_push_19 : decode cX3_push 19 = .ok (.bipush 10, 2) := by decide +kernel
theorem dX3_push_21 : decode cX3_push 21 = .ok (.aload_n 0, 1) := by decide +kernel
theorem dX3_push_22 : decode cX3_push 22 = .ok (.getfield 35, 3) := by decide +kernel
theorem dX3_push_25 : decode cX3_push 25 = .ok (.iadd, 1) := by decide +kernel
theorem dX3_push_26 : decode cX3_push 26 = .ok (.iload_n 1, 1) := by decide +kernel
theorem dX3_push_27 : decode cX3_push 27 = .ok (.invokevirtual 58, 3) := by decide +kernel
theorem dX3_push_30 : decode cX3_push 30 = .ok (.aload_n 0, 1) := by decide +kernel
theorem dX3_push_31 : decode cX3_push 31 = .ok (.iload_n 1, 1) := by decide +kernel
theorem dX3_push_32 : decode cX3_push 32 = .ok (.invokevirtual 65, 3) := by decide +kernel
theorem dX3_push_35 : decode cX3_push 35 = .ok (.aload_n 0, 1) := by decide +kernel
theorem dX3_push_36 : decode cX3_push 36 = .ok (.dup, 1) := by decide +kernel
theorem dX3_push_37 : decode cX3_push 37 = .ok (.getfield 35, 3) := by decide +kernel
theorem dX3_push_40 : decode cX3_push 40 = .ok (.iconst 1, 1) := by decide +kernel
theorem dX3_push_41 : decode cX3_push 41 = .ok (.iadd, 1) := by decide +kernel
theorem dX3_push_42 : decode cX3_push 42 = .ok (.putfield 35, 3) := by decide +kernel
theorem dX3_push_45 : decode cX3_push 45 = .ok (.aload_n 0, 1) := by decide +kernel
theorem dX3_push_46 : decode cX3_push 46 = .ok (.getfield 35, 3) := by decide +kernel
theorem dX3_push_49 : decode cX3_push 49 = .ok (.ireturn, 1) := by decide +kernel
theorem dX3_pop_0 : decode cX3_pop 0 = .ok (.iload_n 1, 1) := by decide +kernel
theorem dX3_pop_1 : decode cX3_pop 1 = .ok (.invokestatic 28, 3) := by decide +kernel
theorem dX3_pop_4 : decode cX3_pop 4 = .ok (.ifCond .eq 10, 3) := by decide +kernel
theorem dX3_pop_7 : decode cX3_pop 7 = .ok (.aload_n 0, 1) := by decide +kernel
theorem dX3_pop_8 : decode cX3_pop 8 = .ok (.getfield 35, 3) := by decide +kernel
theorem dX3_pop_11 : decode cX3_pop 11 = .ok (.ifCond .ne 5, 3) := by decide +kernel
theorem dX3_pop_14 : decode cX3_pop 14 = .ok (.iconst (-1), 1) := by decide +kernel
theorem dX3_pop_15 : decode cX3_pop 15 = .ok (.ireturn, 1) := by decide +kernel
theorem dX3_pop_16 : decode cX3_pop 16 = .ok (.aload_n 0, 1) := by decide +kernel
theorem dX3_pop_17 : decode cX3_pop 17 = .ok (.dup, 1) := by decide +kernel
theorem dX3_pop_18 : decode cX3_pop 18 = .ok (.getfield 35, 3) := by decide +kernel
theorem dX3_pop_21 : decode cX3_pop 21 = .ok (.iconst 1, 1) := by decide +kernel
theorem dX3_pop_22 : decode cX3_pop 22 = .ok (.isub, 1) := by decide +kernel
theorem dX3_pop_23 : decode cX3_pop 23 = .ok (.putfield 35, 3) := by decide +kernel
theorem dX3_pop_26 : decode cX3_pop 26 = .ok (.aload_n 0, 1) := by decide +kernel
theorem dX3_pop_27 : decode cX3_pop 27 = .ok (.iload_n 1, 1) := by decide +kernel
theorem dX3_pop_28 : decode cX3_pop 28 = .ok (.bipush 10, 2) := by decide +kernel
theorem dX3_pop_30 : decode cX3_pop 30 = .ok (.aload_n 0, 1) := by decide +kernel
theorem dX3_pop_31 : decode cX3_pop 31 = .ok (.getfield 35, 3) := by decide +kernel
theorem dX3_pop_34 : decode cX3_pop 34 = .ok (.iadd, 1) := by decide +kernel
theorem dX3_pop_35 : decode cX3_pop 35 = .ok (.invokevirtual 58, 3) := by decide +kernel
theorem dX3_pop_38 : decode cX3_pop 38 = .ok (.aload_n 0, 1) := by decide +kernel
theorem dX3_pop_39 : decode cX3_pop 39 = .ok (.getfield 35, 3) := by decide +kernel
theorem dX3_pop_42 : decode cX3_pop 42 = .ok (.ireturn, 1) := by decide +kernel
theorem dX3_look_0 : decode cX3_look 0 = .ok (.iload_n 1, 1) := by decide +kernel
theorem dX3_look_1 : decode cX3_look 1 = .ok (.invokestatic 28, 3) := by decide +kernel
theorem dX3_look_4 : decode cX3_look 4 = .ok (.ifCond .ne 7, 3) := by decide +kernel
theorem dX3_look_7 : decode cX3_look 7 = .ok (.iconst (-1), 1) := by decide +kernel
theorem dX3_look_8 : decode cX3_look 8 = .ok (.goto 43, 3) := by decide +kernel
theorem dX3_look_11 : decode cX3_look 11 = .ok (.aload_n 0, 1) := by decide +kernel
theorem dX3_look_12 : decode cX3_look 12 = .ok (.getfield 7, 3) := by decide +kernel
theorem dX3_look_15 : decode cX3_look 15 = .ok (.iload_n 1, 1) := by decide +kernel
theorem dX3_look_16 : decode cX3_look 16 = .ok (.baload, 1) := by decide +kernel
theorem dX3_look_17 : decode cX3_look 17 = .ok (.ifCond .ne 8, 3) := by decide +kernel
theorem dX3_look_20 : decode cX3_look 20 = .ok (.bipush (-2), 2) := by decide +kernel
theorem dX3_look_22 : decode cX3_look 22 = .ok (.goto 29, 3) := by decide +kernel
theorem dX3_look_25 : decode cX3_look 25 = .ok (.aload_n 0, 1) := by decide +kernel
theorem dX3_look_26 : decode cX3_look 26 = .ok (.getfield 7, 3) := by decide +kernel
theorem dX3_look_29 : decode cX3_look 29 = .ok (.iload_n 1, 1) := by decide +kernel
theorem dX3_look_30 : decode cX3_look 30 = .ok (.baload, 1) := by decide +kernel
theorem dX3_look_31 : decode cX3_look 31 = .ok (.iconst 1, 1) := by decide +kernel
theorem dX3_look_32 : decode cX3_look 32 = .ok (.if_icmp .ne 8, 3) := by decide +kernel
theorem dX3_look_35 : decode cX3_look 35 = .ok (.bipush (-3), 2) := by decide +kernel
theorem dX3_look_37 : decode cX3_look 37 = .ok (.goto 14, 3) := by decide +kernel
theorem dX3_look_40 : decode cX3_look 40 = .ok (.aload_n 0, 1) := by decide +kernel
theorem dX3_look_41 : decode cX3_look 41 = .ok (.getfield 17, 3) := by decide +kernel
theorem dX3_look_44 : decode cX3_look 44 = .ok (.aload_n 0, 1) := by decide +kernel
theorem dX3_look_45 : decode cX3_look 45 = .ok (.getfield 13, 3) := by decide +kernel
theorem dX3_look_48 : decode cX3_look 48 = .ok (.iload_n 1, 1) := by decide +kernel
theorem dX3_look_49 : decode cX3_look 49 = .ok (.iaload, 1) := by decide +kernel
theorem dX3_look_50 : decode cX3_look 50 = .ok (.iaload, 1) := by decide +kernel
theorem dX3_look_51 : decode cX3_look 51 = .ok (.ireturn, 1) := by decide +kernel
theorem dX3_numberIn_0 : decode cX3_numberIn 0 = .ok (.iload_n 1, 1) := by decide +kernel
theorem dX3_numberIn_1 : decode cX3_numberIn 1 = .ok (.invokestatic 28, 3) := by decide +kernel
theorem dX3_numberIn_4 : decode cX3_numberIn 4 = .ok (.ifCond .eq 22, 3) := by decide +kernel
theorem dX3_numberIn_7 : decode cX3_numberIn 7 = .ok (.aload_n 0, 1) := by decide +kernel
theorem dX3_numberIn_8 : decode cX3_numberIn 8 = .ok (.getfield 7, 3) := by decide +kernel
theorem dX3_numberIn_11 : decode cX3_numberIn 11 = .ok (.iload_n 1, 1) := by decide +kernel
theorem dX3_numberIn_12 : decode cX3_numberIn 12 = .ok (.baload, 1) := by decide +kernel
theorem dX3_numberIn_13 : decode cX3_numberIn 13 = .ok (.iconst 1, 1) := by decide +kernel
theorem dX3_numberIn_14 : decode cX3_numberIn 14 = .ok (.if_icmp .ne 12, 3) := by decide +kernel
theorem dX3_numberIn_17 : decode cX3_numberIn 17 = .ok (.aload_n 0, 1) := by decide +kernel
theorem dX3_numberIn_18 : decode cX3_numberIn 18 = .ok (.getfield 13, 3) := by decide +kernel
theorem dX3_numberIn_21 : decode cX3_numberIn 21 = .ok (.iload_n 1, 1) := by decide +kernel
theorem dX3_numberIn_22 : decode cX3_numberIn 22 = .ok (.iaload, 1) := by decide +kernel
theorem dX3_numberIn_23 : decode cX3_numberIn 23 = .ok (.goto 4, 3) := by decide +kernel
theorem dX3_numberIn_26 : decode cX3_numberIn 26 = .ok (.iconst 0, 1) := by decide +kernel
theorem dX3_numberIn_27 : decode cX3_numberIn 27 = .ok (.ireturn, 1) := by decide +kernel
theorem dX3_same_0 : decode cX3_same 0 = .ok (.iload_n 1, 1) := by decide +kernel
theorem dX3_same_1 : decode cX3_same 1 = .ok (.invokestatic 28, 3) := by decide +kernel
theorem dX3_same_4 : decode cX3_same 4 = .ok (.ifCond .eq 10, 3) := by decide +kernel
theorem dX3_same_7 : decode cX3_same 7 = .ok (.iload_n 2, 1) := by decide +kernel
theorem dX3_same_8 : decode cX3_same 8 = .ok (.invokestatic 28, 3) := by decide +kernel
theorem dX3_same_11 : decode cX3_same 11 = .ok (.ifCond .ne 7, 3) := by decide +kernel
theorem dX3_same_14 : decode cX3_same 14 = .ok (.iconst (-1), 1) := by decide +kernel
theorem dX3_same_15 : decode cX3_same 15 = .ok (.goto 38, 3) := by decide +kernel
theorem dX3_same_18 : decode cX3_same 18 = .ok (.aload_n 0, 1) := by decide +kernel
theorem dX3_same_19 : decode cX3_same 19 = .ok (.getfield 7, 3) := by decide +kernel
theorem dX3_same_22 : decode cX3_same 22 = .ok (.iload_n 1, 1) := by decide +kernel
theorem dX3_same_23 : decode cX3_same 23 = .ok (.baload, 1) := by decide +kernel
theorem dX3_same_24 : decode cX3_same 24 = .ok (.aload_n 0, 1) := by decide +kernel
theorem dX3_same_25 : decode cX3_same 25 = .ok (.getfield 7, 3) := by decide +kernel
theorem dX3_same_28 : decode cX3_same 28 = .ok (.iload_n 2, 1) := by decide +kernel
theorem dX3_same_29 : decode cX3_same 29 = .ok (.baload, 1) := by decide +kernel
theorem dX3_same_30 : decode cX3_same 30 = .ok (.if_icmp .ne 22, 3) := by decide +kernel
theorem dX3_same_33 : decode cX3_same 33 = .ok (.aload_n 0, 1) := by decide +kernel
theorem dX3_same_34 : decode cX3_same 34 = .ok (.getfield 13, 3) := by decide +kernel
theorem dX3_same_37 : decode cX3_same 37 = .ok (.iload_n 1, 1) := by decide +kernel
theorem dX3_same_38 : decode cX3_same 38 = .ok (.iaload, 1) := by decide +kernel
theorem dX3_same_39 : decode cX3_same 39 = .ok (.aload_n 0, 1) := by decide +kernel
theorem dX3_same_40 : decode cX3_same 40 = .ok (.getfield 13, 3) := by decide +kernel
theorem dX3_same_43 : decode cX3_same 43 = .ok (.iload_n 2, 1) := by decide +kernel
theorem dX3_same_44 : decode cX3_same 44 = .ok (.iaload, 1) := by decide +kernel
theorem dX3_same_45 : decode cX3_same 45 = .ok (.if_icmp .ne 7, 3) := by decide +kernel
theorem dX3_same_48 : decode cX3_same 48 = .ok (.iconst 1, 1) := by decide +kernel
theorem dX3_same_49 : decode cX3_same 49 = .ok (.goto 4, 3) := by decide +kernel
theorem dX3_same_52 : decode cX3_same 52 = .ok (.iconst 0, 1) := by decide +kernel
theorem dX3_same_53 : decode cX3_same 53 = .ok (.ireturn, 1) := by decide +kernel
theorem dX3_count_0 : decode cX3_count 0 = .ok (.iconst 0, 1) := by decide +kernel
theorem dX3_count_1 : decode cX3_count 1 = .ok (.istore_n 2, 1) := by decide +kernel
theorem dX3_count_2 : decode cX3_count 2 = .ok (.aload_n 0, 1) := by decide +kernel
theorem dX3_count_3 : decode cX3_count 3 = .ok (.invokevirtual 48, 3) := by decide +kernel
theorem dX3_count_6 : decode cX3_count 6 = .ok (.istore_n 3, 1) := by decide +kernel
theorem dX3_count_7 : decode cX3_count 7 = .ok (.iconst 0, 1) := by decide +kernel
theorem dX3_count_8 : decode cX3_count 8 = .ok (.istore 4, 2) := by decide +kernel
theorem dX3_count_10 : decode cX3_count 10 = .ok (.iload 4, 2) := by decide +kernel
theorem dX3_count_12 : decode cX3_count 12 = .ok (.aload_n 0, 1) := by decide +kernel
theorem dX3_count_13 : decode cX3_count 13 = .ok (.getfield 32, 3) := by decide +kernel
theorem dX3_count_16 : decode cX3_count 16 = .ok (.if_icmp .ge 27, 3) := by decide +kernel
theorem dX3_count_19 : decode cX3_count 19 = .ok (.aload_n 0, 1) := by decide +kernel
theorem dX3_count_20 : decode cX3_count 20 = .ok (.getfield 20, 3) := by decide +kernel
theorem dX3_count_23 : decode cX3_count 23 = .ok (.iload 4, 2) := by decide +kernel
theorem dX3_count_25 : decode cX3_count 25 = .ok (.baload, 1) := by decide +kernel
theorem dX3_count_26 : decode cX3_count 26 = .ok (.ifCond .eq 9, 3) := by decide +kernel
theorem dX3_count_29 : decode cX3_count 29 = .ok (.iload_n 2, 1) := by decide +kernel
theorem dX3_count_30 : decode cX3_count 30 = .ok (.iconst 1, 1) := by decide +kernel
theorem dX3_count_31 : decode cX3_count 31 = .ok (.iadd, 1) := by decide +kernel
theorem dX3_count_32 : decode cX3_count 32 = .ok (.goto 4, 3) := by decide +kernel
theorem dX3_count_35 : decode cX3_count 35 = .ok (.iload_n 2, 1) := by decide +kernel
theorem dX3_count_36 : decode cX3_count 36 = .ok (.istore_n 2, 1) := by decide +kernel
theorem dX3_count_37 : decode cX3_count 37 = .ok (.iinc 4 1, 3) := by decide +kernel
theorem dX3_count_40 : decode cX3_count 40 = .ok (.goto (-30), 3) := by decide +kernel
theorem dX3_count_43 : decode cX3_count 43 = .ok (.iload_n 1, 1) := by decide +kernel
theorem dX3_count_44 : decode cX3_count 44 = .ok (.ifCond .ne 7, 3) := by decide +kernel
theorem dX3_count_47 : decode cX3_count 47 = .ok (.iload_n 3, 1) := by decide +kernel
theorem dX3_count_48 : decode cX3_count 48 = .ok (.goto 49, 3) := by decide +kernel
theorem dX3_count_51 : decode cX3_count 51 = .ok (.iload_n 1, 1) := by decide +kernel
theorem dX3_count_52 : decode cX3_count 52 = .ok (.iconst 1, 1) := by decide +kernel
theorem dX3_count_53 : decode cX3_count 53 = .ok (.if_icmp .ne 7, 3) := by decide +kernel
theorem dX3_count_56 : decode cX3_count 56 = .ok (.iload_n 2, 1) := by decide +kernel
theorem dX3_count_57 : decode cX3_count 57 = .ok (.goto 40, 3) := by decide +kernel
theorem dX3_count_60 : decode cX3_count 60 = .ok (.iload_n 1, 1) := by decide +kernel
theorem dX3_count_61 : decode cX3_count 61 = .ok (.iconst 2, 1) := by decide +kernel
theorem dX3_count_62 : decode cX3_count 62 = .ok (.if_icmp .ne 10, 3) := by decide +kernel
theorem dX3_count_65 : decode cX3_count 65 = .ok (.aload_n 0, 1) := by decide +kernel
theorem dX3_count_66 : decode cX3_count 66 = .ok (.getfield 35, 3) := by decide +kernel
theorem dX3_count_69 : decode cX3_count 69 = .ok (.goto 28, 3) := by decide +kernel
theorem dX3_count_72 : decode cX3_count 72 = .ok (.iload_n 1, 1) := by decide +kernel
theorem dX3_count_73 : decode cX3_count 73 = .ok (.iconst 3, 1) := by decide +kernel
theorem dX3_count_74 : decode cX3_count 74 = .ok (.if_icmp .ne 10, 3) := by decide +kernel
theorem dX3_count_77 : decode cX3_count 77 = .ok (.aload_n 0, 1) := by decide +kernel
theorem dX3_count_78 : decode cX3_count 78 = .ok (.getfield 32, 3) := by decide +kernel
theorem dX3_count_81 : decode cX3_count 81 = .ok (.goto 16, 3) := by decide +kernel
theorem dX3_count_84 : decode cX3_count 84 = .ok (.iload_n 1, 1) := by decide +kernel
theorem dX3_count_85 : decode cX3_count 85 = .ok (.iconst 4, 1) := by decide +kernel
theorem dX3_count_86 : decode cX3_count 86 = .ok (.if_icmp .ne 10, 3) := by decide +kernel
theorem dX3_count_89 : decode cX3_count 89 = .ok (.aload_n 0, 1) := by decide +kernel
theorem dX3_count_90 : decode cX3_count 90 = .ok (.getfield 52, 3) := by decide +kernel
theorem dX3_count_93 : decode cX3_count 93 = .ok (.goto 4, 3) := by decide +kernel
theorem dX3_count_96 : decode cX3_count 96 = .ok (.iconst (-1), 1) := by decide +kernel
theorem dX3_count_97 : decode cX3_count 97 = .ok (.ireturn, 1) := by decide +kernel
end
section
/-- the machine of one method: world, locals, stack; heap and old writes are left out -/
def gg (p : Program) (l : Launch) (e : Env) (R : Room) (s : State) (m : MethodId) (args : Array Value) (below : List Frame) (meth : Method) (c : Code) (cells slots : Nat) (Q : State → Prop) (D : va_G) (cl : List vw_C) (A : Nat → Prop) (nL : Nat) (ws : va_W) (lv : List (Nat × Value)) (pc : Nat) (st : List Value) : Prop :=
  ∀ (H : Heap) (locs : List Loc) (ls : Array Slot), va_P D cl ws H → va_D A ws → va_S A s.heap H locs → lv_has ls nL lv → W p l e R s m args below meth c H locs cells slots Q (F0 m pc ls st)
/-- what holds all through a method -/
abbrev gx (p : Program) (s : State) (m : MethodId) (args : Array Value) (c : Code) (cc : ByteArray) (nL : Nat) (own : String) (Ts : List Cond) (D : va_G) (cl : List vw_C) (tys : List (ClassId × FieldType)) (A : Nat → Prop) : Prop :=
  p.tables.exec = Jvm.exec ∧ c.code = cc ∧ c.maxLocals = nL ∧ s.vm.findClass own = some m.cls ∧ (∀ w ∈ Ts, w.before args s = true) ∧ va_K D cl tys s ∧ (∀ q : Nat, s.heap.size ≤ q → A q) ∧ NF s
/-- a contract's start -/
def gP (D : va_G) (cl : List vw_C) (tys : List (ClassId × FieldType)) (sz : Nat) (ws : va_W) (U : State) : Prop := U.heap.size = sz ∧ va_P D cl ws U.heap ∧ va_K D cl tys U ∧ va_D (fun _ => True) ws ∧ NF U
theorem gP_blind {D : va_G} {cl : List vw_C} {tys : List (ClassId × FieldType)} {sz : Nat} {ws : va_W} {av : List Value} : FrameBlind (va_Pc av (gP D cl tys sz ws)) := fun a U g mk q => by
  obtain ⟨q0, q1, qP, qK, qD, qN⟩ := q
  exact ⟨q0, q1, qP, va_K.moved (u := U) (U := U.calling g mk a) (Vm.Alike.refl U.vm) qK, qD, NF.same (u := U) (U := U.calling g mk a) rfl qN⟩
theorem gP_at {D : va_G} {cl : List vw_C} {tys : List (ClassId × FieldType)} {ws : va_W} {s : State} {H : Heap} {A : Nat → Prop} {av : List Value} (hK : va_K D cl tys s) (hN : NF s) (hP : va_P D cl ws H) (hD : va_D A ws) : ∀ U : State, U.heap = H → s.WarmedH U.vm → va_Pc av (gP D cl tys H.size ws) av.toArray U :=
  fun U hU hW => ⟨rfl, by rw [hU], by rw [hU]; exact hP, va_K.moved hW.alike hK, hD.weaken (fun _ _ _ _ => trivial), NF.warm hW hN⟩
/-- a contract over a world -/
abbrev mG (l : Launch) (y : MethodName) (wds : List Cond) (rm : Room) (D : va_G) (cl : List vw_C) (tys : List (ClassId × FieldType)) (av : List Value) (ws : va_W) (QQ : (Nat → Prop) → Array Value → State → Outcome → State → Prop) : Prop :=
  ∀ sz : Nat, Met l y wds rm (va_Pc av (gP D cl tys sz ws)) (QQ (va_A ws sz)) rm.cells rm.slots (va_A ws sz)
abbrev qI {S : Type} (D : va_G) (cl : List vw_C) (post : Int32 → S → Prop) (wo : S → va_W) : (Nat → Prop) → Array Value → State → Outcome → State → Prop := fun A => va_Qi post (fun u t => va_P D cl (wo u) t.heap ∧ va_D A (wo u)) A
abbrev qL {S : Type} (D : va_G) (cl : List vw_C) (post : Int64 → S → Prop) (wo : S → va_W) : (Nat → Prop) → Array Value → State → Outcome → State → Prop := fun A => va_Ql post (fun u t => va_P D cl (wo u) t.heap ∧ va_D A (wo u)) A
abbrev qV {S : Type} (D : va_G) (cl : List vw_C) (post : S → Prop) (wo : S → va_W) : (Nat → Prop) → Array Value → State → Outcome → State → Prop := fun A => va_Qv post (fun u t => va_P D cl (wo u) t.heap ∧ va_D A (wo u)) A
abbrev qQ {S : Type} (D : va_G) (cl : List vw_C) (post : Option Nat → S → Prop) (wo : S → va_W) : (Nat → Prop) → Array Value → State → Outcome → State → Prop := fun A => va_Qq post (fun u t => va_P D cl (wo u) t.heap ∧ va_D A (wo u)) A
theorem gg_met {l : Launch} {y : MethodName} {wds wds' : List Cond} {rm : Room} {D : va_G} {cl : List vw_C} {tys : List (ClassId × FieldType)} {av : List Value} {ws : va_W} {QQ : (Nat → Prop) → Array Value → State → Outcome → State → Prop} {cc : ByteArray} {nL : Nat} {ret : Option FieldType} {lv : List (Nat × Value)}
    (hy : plainName y.cls = true) (hw : wds = Cond.code y cc nL ret :: wds') (hlv : lv_args 0 av = lv) (hlen : (lg_sl av).length ≤ nL)
    (body : ∀ (p : Program) (e : Env) (s : State) (m : MethodId) (below : List Frame) (meth : Method) (c : Code) (A : Nat → Prop), gx p s m av.toArray c cc nL y.cls wds D cl tys A → meth.sig.returnType = ret → meth.locks = false → meth.name = y.name →
      gg p l e rm s m av.toArray below meth c 0 0 (MQ below (QQ A) av.toArray s rm.cells rm.slots A) D cl A nL ws lv 0 []) : mG l y wds rm D cl tys av ws QQ := by
  intro sz
  refine Met.ofW (cc := cc) (maxL := nL) (ret := ret) hy hw ?_
  intro p e s m args below meth c s₁ B hml hv
  obtain ⟨rfl, hsz, hP, hK, hD0, hN⟩ := hv
  subst hsz
  have hD := hD0.self (sz := s.heap.size)
  have hl := lv_entry av (n := nL) hlen
  rw [hlv] at hl
  rw [lg_entry_eq]
  exact body p e s m below meth c (va_A ws s.heap.size) ⟨B.exec, B.bytes, hml, findClass_of_methodNamed B.named, atoms_spec (ws := wds) B.pre, hK, fun q h => Or.inr h, hN⟩ B.returns B.notSynchronized (name_of_methodNamed B.named B.method).1 s.heap [] _ hP hD va_S.rf hl
theorem va_D.left {A : Nat → Prop} {w1 w2 : va_W} (hD : va_D A (w1 ++ w2)) : va_D A w1 :=
  hD.by id (fun k q hq => by show (w1 ++ w2)[k]? = some q; rw [List.getElem?_append_left (List.getElem?_eq_some_iff.mp hq).1]; exact hq) (fun _ _ _ _ h => h)
theorem gj_at {w1 w2 : va_W} {k : Nat} {q : Nat × va_E} (hq : w2[k]? = some q) : (w1 ++ w2)[w1.length + k]? = some q := by
  rw [List.getElem?_append_right (Nat.le_add_right _ _), Nat.add_sub_cancel_left]; exact hq
theorem gj_at1 {w1 w2 : va_W} {k : Nat} {q : Nat × va_E} (hq : w1[k]? = some q) : (w1 ++ w2)[k]? = some q := by
  rw [List.getElem?_append_left (List.getElem?_eq_some_iff.mp hq).1]; exact hq
theorem va_D.right {A : Nat → Prop} {w1 w2 : va_W} (hD : va_D A (w1 ++ w2)) : va_D A w2 :=
  hD.by (fun k => w1.length + k) (fun _ _ hq => gj_at hq) (fun i j _ _ h => by omega)
theorem va_P.left {D : va_G} {cl : List vw_C} {w1 w2 : va_W} {H : Heap} (hP : va_P D cl (w1 ++ w2) H) : va_P D cl w1 H := fun k q hq => hP k q (gj_at1 hq)
theorem va_P.right {D : va_G} {cl : List vw_C} {w1 w2 : va_W} {H : Heap} (hP : va_P D cl (w1 ++ w2) H) : va_P D cl w2 H := fun k q hq => hP _ q (gj_at hq)
theorem gj_L {A : Nat → Prop} {D : va_G} {cl : List vw_C} {wc wr w1 : va_W} {H H1 : Heap} (hP : va_P D cl (wc ++ wr) H) (hD : va_D A (wc ++ wr)) (hk : ∀ q : Nat, q < H.size → ¬ va_A wc H.size q → H1[q]? = H[q]?) (hF : ∀ q, va_A wc H.size q → A q) (hP1 : va_P D cl w1 H1) (hD1 : va_D (va_A wc H.size) w1) : va_P D cl (w1 ++ wr) H1 ∧ va_D A (w1 ++ wr) := by
  have apart : ∀ (k : Nat) (q : Nat × va_E), wr[k]? = some q → q.1 < H.size ∧ ¬ va_A wc H.size q.1 := by
    intro k q hq
    have h2 := gj_at (w1 := wc) hq
    refine ⟨(hP _ q h2).lt, fun h => ?_⟩
    rcases h with ⟨j, x, h⟩ | h
    · have h3 := gj_at1 (w2 := wr) h
      have h4 := hD.1 _ _ q (q.1, x) h2 h3 rfl
      have h5 := (List.getElem?_eq_some_iff.mp h).1
      omega
    · have := (hP _ q h2).lt
      omega
  refine ⟨va_P.app hP1 (fun k q hq => ?_), va_D.app (hD1.weaken (fun k q _ h => hF q.1 h)) hD.right (fun i j x y hx hy hxy => ?_)⟩
  · exact (hP _ q (gj_at hq)).kept (hk q.1 (apart k q hq).1 (apart k q hq).2)
  · exact (apart j y hy).2 (by rw [← hxy]; exact hD1.2 i x hx)
theorem gj_R {A : Nat → Prop} {D : va_G} {cl : List vw_C} {wc wl w1 : va_W} {H H1 : Heap} (hP : va_P D cl (wl ++ wc) H) (hD : va_D A (wl ++ wc)) (hk : ∀ q : Nat, q < H.size → ¬ va_A wc H.size q → H1[q]? = H[q]?) (hF : ∀ q, va_A wc H.size q → A q) (hP1 : va_P D cl w1 H1) (hD1 : va_D (va_A wc H.size) w1) : va_P D cl (wl ++ w1) H1 ∧ va_D A (wl ++ w1) := by
  have apart : ∀ (k : Nat) (q : Nat × va_E), wl[k]? = some q → q.1 < H.size ∧ ¬ va_A wc H.size q.1 := by
    intro k q hq
    have h2 := gj_at1 (w2 := wc) hq
    have h5 := (List.getElem?_eq_some_iff.mp hq).1
    refine ⟨(hP _ q h2).lt, fun h => ?_⟩
    rcases h with ⟨j, x, h⟩ | h
    · have h3 := gj_at (w1 := wl) h
      have h4 := hD.1 _ _ q (q.1, x) h2 h3 rfl
      omega
    · have := (hP _ q h2).lt
      omega
  refine ⟨va_P.app (fun k q hq => ?_) hP1, va_D.app hD.left (hD1.weaken (fun k q _ h => hF q.1 h)) (fun i j x y hx hy hxy => ?_)⟩
  · exact (hP _ q (gj_at1 hq)).kept (hk q.1 (apart k q hq).1 (apart k q hq).2)
  · exact (apart i x hx).2 (by rw [hxy]; exact hD1.2 j y hy)
theorem gg_in {n N : Nat} (h : n < N) (hN : N < 2147483648) : vp_in (nI n) N := vp_in_nI h (by omega)

section GG
variable {p : Program} {l : Launch} {e : Env} {R : Room} {s : State} {m : MethodId} {args : Array Value} {below : List Frame} {meth : Method} {c : Code} {cells slots : Nat} {Q : State → Prop}
variable {cc : ByteArray} {nL : Nat} {own : String} {Ts : List Cond} {D : va_G} {cl : List vw_C} {tys : List (ClassId × FieldType)} {A : Nat → Prop} {ws : va_W} {lv : List (Nat × Value)} {pc : Nat} {st : List Value}

theorem gg_ws {ws' : va_W} (h : ws = ws') (k : gg p l e R s m args below meth c cells slots Q D cl A nL ws' lv pc st) : gg p l e R s m args below meth c cells slots Q D cl A nL ws lv pc st := by subst h; exact k
theorem gg_st {st' : List Value} (h : st = st') (k : gg p l e R s m args below meth c cells slots Q D cl A nL ws lv pc st') : gg p l e R s m args below meth c cells slots Q D cl A nL ws lv pc st := by subst h; exact k
theorem gg_lv {lv' : List (Nat × Value)} (ks : List Nat) (h : lv_pick lv ks = lv') (k : gg p l e R s m args below meth c cells slots Q D cl A nL ws lv' pc st) : gg p l e R s m args below meth c cells slots Q D cl A nL ws lv pc st := fun H locs ls hP hD hS hl => k H locs ls hP hD hS (lv_sub hl ks h)
theorem gg_lve {lv' : List (Nat × Value)} (h : lv = lv') (k : gg p l e R s m args below meth c cells slots Q D cl A nL ws lv' pc st) : gg p l e R s m args below meth c cells slots Q D cl A nL ws lv pc st := by subst h; exact k
theorem gg_wide {k n : Nat} (h1 : cells ≤ k) (h2 : slots ≤ n) (kk : gg p l e R s m args below meth c k n Q D cl A nL ws lv pc st) : gg p l e R s m args below meth c cells slots Q D cl A nL ws lv pc st := fun H locs ls hP hD hS hl => W.widen h1 h2 (kk H locs ls hP hD hS hl)
theorem gg_apart {i j a b : Nat} {x y : va_E} (hi : ws[i]? = some (a, x)) (hj : ws[j]? = some (b, y)) (hne : i ≠ j) (k : a ≠ b → gg p l e R s m args below meth c cells slots Q D cl A nL ws lv pc st) : gg p l e R s m args below meth c cells slots Q D cl A nL ws lv pc st := fun H locs ls hP hD hS hl => k (fun q => hne (hD.1 i j _ _ hi hj q)) H locs ls hP hD hS hl
theorem gg_D (k : va_D A ws → gg p l e R s m args below meth c cells slots Q D cl A nL ws lv pc st) : gg p l e R s m args below meth c cells slots Q D cl A nL ws lv pc st := fun H locs ls hP hD hS hl => k hD H locs ls hP hD hS hl
theorem gg_iconst (X : gx p s m args c cc nL own Ts D cl tys A) {n : Int} {v : Int32} (hdg : decode cc pc = .ok (.iconst n, 1)) (hv : Int32.ofInt n = v) (k : gg p l e R s m args below meth c cells slots Q D cl A nL ws lv (pc + 1) (.int v :: st)) : gg p l e R s m args below meth c cells slots Q D cl A nL ws lv pc (st) := fun H locs ls hP hD hS hl => lv_iconst X.1 X.2.1 hdg hv (k H locs ls hP hD hS hl)
theorem gg_bipush (X : gx p s m args c cc nL own Ts D cl tys A) {n : Int} {v : Int32} (hdg : decode cc pc = .ok (.bipush n, 2)) (hv : (Int8.ofInt n).toInt32 = v) (k : gg p l e R s m args below meth c cells slots Q D cl A nL ws lv (pc + 2) (.int v :: st)) : gg p l e R s m args below meth c cells slots Q D cl A nL ws lv pc (st) := fun H locs ls hP hD hS hl => lv_bipush X.1 X.2.1 hdg hv (k H locs ls hP hD hS hl)
theorem gg_sipush (X : gx p s m args c cc nL own Ts D cl tys A) {n : Int} {v : Int32} (hdg : decode cc pc = .ok (.sipush n, 3)) (hv : (Int16.ofInt n).toInt32 = v) (k : gg p l e R s m args below meth c cells slots Q D cl A nL ws lv (pc + 3) (.int v :: st)) : gg p l e R s m args below meth c cells slots Q D cl A nL ws lv pc (st) := fun H locs ls hP hD hS hl => lv_sipush X.1 X.2.1 hdg hv (k H locs ls hP hD hS hl)
theorem gg_lconst (X : gx p s m args c cc nL own Ts D cl tys A) {n : Fin 2} {v : Int64} (hdg : decode cc pc = .ok (.lconst n, 1)) (hv : Int64.ofNat (n : Nat) = v) (k : gg p l e R s m args below meth c cells slots Q D cl A nL ws lv (pc + 1) (.long v :: st)) : gg p l e R s m args below meth c cells slots Q D cl A nL ws lv pc (st) := fun H locs ls hP hD hS hl => lv_lconst X.1 X.2.1 hdg hv (k H locs ls hP hD hS hl)
theorem gg_null (X : gx p s m args c cc nL own Ts D cl tys A)  (hdg : decode cc pc = .ok (.aconst_null, 1)) (k : gg p l e R s m args below meth c cells slots Q D cl A nL ws lv (pc + 1) (.null :: st)) : gg p l e R s m args below meth c cells slots Q D cl A nL ws lv pc (st) := fun H locs ls hP hD hS hl => lv_null X.1 X.2.1 hdg (k H locs ls hP hD hS hl)
theorem gg_ldc2 (X : gx p s m args c cc nL own Ts D cl tys A) {index : Nat} {v : Int64} (hc : Jvm.Cond.constantLong own index v ∈ Ts) (hdg : decode cc pc = .ok (.ldc2_w index, 3)) (k : gg p l e R s m args below meth c cells slots Q D cl A nL ws lv (pc + 3) (.long v :: st)) : gg p l e R s m args below meth c cells slots Q D cl A nL ws lv pc (st) := fun H locs ls hP hD hS hl => lv_ldc2 X.1 X.2.1 X.2.2.2.1 (X.2.2.2.2.1 _ hc) hdg (k H locs ls hP hD hS hl)
theorem gg_iload_n (X : gx p s m args c cc nL own Ts D cl tys A) {k : Fin 4} {i : Nat} {x : Int32} (hdg : decode cc pc = .ok (.iload_n k, 1)) (hi : (k : Nat) = i) (j : Nat) (hj : lv[j]? = some (i, .int x)) (k : gg p l e R s m args below meth c cells slots Q D cl A nL ws lv (pc + 1) (.int x :: st)) : gg p l e R s m args below meth c cells slots Q D cl A nL ws lv pc (st) := fun H locs ls hP hD hS hl => lv_iload_n X.1 X.2.1 hdg hi (lv_at hl j hj) (k H locs ls hP hD hS hl)
theorem gg_iload (X : gx p s m args c cc nL own Ts D cl tys A) {i : Nat} {x : Int32} (hdg : decode cc pc = .ok (.iload i, 2)) (j : Nat) (hj : lv[j]? = some (i, .int x)) (k : gg p l e R s m args below meth c cells slots Q D cl A nL ws lv (pc + 2) (.int x :: st)) : gg p l e R s m args below meth c cells slots Q D cl A nL ws lv pc (st) := fun H locs ls hP hD hS hl => lv_iload X.1 X.2.1 hdg (lv_at hl j hj) (k H locs ls hP hD hS hl)
theorem gg_lload_n (X : gx p s m args c cc nL own Ts D cl tys A) {k : Fin 4} {i : Nat} {x : Int64} (hdg : decode cc pc = .ok (.lload_n k, 1)) (hi : (k : Nat) = i) (j : Nat) (hj : lv[j]? = some (i, .long x)) (k : gg p l e R s m args below meth c cells slots Q D cl A nL ws lv (pc + 1) (.long x :: st)) : gg p l e R s m args below meth c cells slots Q D cl A nL ws lv pc (st) := fun H locs ls hP hD hS hl => lv_lload_n X.1 X.2.1 hdg hi (lv_at hl j hj) (k H locs ls hP hD hS hl)
theorem gg_lload (X : gx p s m args c cc nL own Ts D cl tys A) {i : Nat} {x : Int64} (hdg : decode cc pc = .ok (.lload i, 2)) (j : Nat) (hj : lv[j]? = some (i, .long x)) (k : gg p l e R s m args below meth c cells slots Q D cl A nL ws lv (pc + 2) (.long x :: st)) : gg p l e R s m args below meth c cells slots Q D cl A nL ws lv pc (st) := fun H locs ls hP hD hS hl => lv_lload X.1 X.2.1 hdg (lv_at hl j hj) (k H locs ls hP hD hS hl)
theorem gg_aload_n (X : gx p s m args c cc nL own Ts D cl tys A) {k : Fin 4} {i : Nat} {x : Nat} (hdg : decode cc pc = .ok (.aload_n k, 1)) (hi : (k : Nat) = i) (j : Nat) (hj : lv[j]? = some (i, .ref x)) (k : gg p l e R s m args below meth c cells slots Q D cl A nL ws lv (pc + 1) (.ref x :: st)) : gg p l e R s m args below meth c cells slots Q D cl A nL ws lv pc (st) := fun H locs ls hP hD hS hl => lv_aload_n X.1 X.2.1 hdg hi (lv_at hl j hj) (k H locs ls hP hD hS hl)
theorem gg_aload (X : gx p s m args c cc nL own Ts D cl tys A) {i : Nat} {x : Nat} (hdg : decode cc pc = .ok (.aload i, 2)) (j : Nat) (hj : lv[j]? = some (i, .ref x)) (k : gg p l e R s m args below meth c cells slots Q D cl A nL ws lv (pc + 2) (.ref x :: st)) : gg p l e R s m args below meth c cells slots Q D cl A nL ws lv pc (st) := fun H locs ls hP hD hS hl => lv_aload X.1 X.2.1 hdg (lv_at hl j hj) (k H locs ls hP hD hS hl)
theorem gg_aload_nN (X : gx p s m args c cc nL own Ts D cl tys A) {k : Fin 4} {i : Nat} (hdg : decode cc pc = .ok (.aload_n k, 1)) (hi : (k : Nat) = i) (j : Nat) (hj : lv[j]? = some (i, .null)) (k : gg p l e R s m args below meth c cells slots Q D cl A nL ws lv (pc + 1) (.null :: st)) : gg p l e R s m args below meth c cells slots Q D cl A nL ws lv pc (st) := fun H locs ls hP hD hS hl => lv_aload_nN X.1 X.2.1 hdg hi (lv_at hl j hj) (k H locs ls hP hD hS hl)
theorem gg_aloadN (X : gx p s m args c cc nL own Ts D cl tys A) {i : Nat} (hdg : decode cc pc = .ok (.aload i, 2)) (j : Nat) (hj : lv[j]? = some (i, .null)) (k : gg p l e R s m args below meth c cells slots Q D cl A nL ws lv (pc + 2) (.null :: st)) : gg p l e R s m args below meth c cells slots Q D cl A nL ws lv pc (st) := fun H locs ls hP hD hS hl => lv_aloadN X.1 X.2.1 hdg (lv_at hl j hj) (k H locs ls hP hD hS hl)
theorem gg_aload_nq (X : gx p s m args c cc nL own Ts D cl tys A) {k : Fin 4} {i : Nat} {r : Option Nat} (hdg : decode cc pc = .ok (.aload_n k, 1)) (hi : (k : Nat) = i) (j : Nat) (hj : lv[j]? = some (i, va_rf r)) (k : gg p l e R s m args below meth c cells slots Q D cl A nL ws lv (pc + 1) (va_rf r :: st)) : gg p l e R s m args below meth c cells slots Q D cl A nL ws lv pc st := by
  cases r with
  | none => exact gg_aload_nN X hdg hi j hj k
  | some a => exact gg_aload_n X hdg hi j hj k
theorem gg_aloadq (X : gx p s m args c cc nL own Ts D cl tys A) {i : Nat} {r : Option Nat} (hdg : decode cc pc = .ok (.aload i, 2)) (j : Nat) (hj : lv[j]? = some (i, va_rf r)) (k : gg p l e R s m args below meth c cells slots Q D cl A nL ws lv (pc + 2) (va_rf r :: st)) : gg p l e R s m args below meth c cells slots Q D cl A nL ws lv pc st := by
  cases r with
  | none => exact gg_aloadN X hdg j hj k
  | some a => exact gg_aload X hdg j hj k
theorem gg_istore_n (X : gx p s m args c cc nL own Ts D cl tys A) {k : Fin 4} {i : Nat} {x : Int32} {lv' : List (Nat × Value)} (hdg : decode cc pc = .ok (.istore_n k, 1)) (hi : (k : Nat) = i) (hn : i < nL) (hl' : (i, Value.int x) :: lv.filter (fun q => !(q.1 == i) && !(q.1 + 1 == i && q.2.category == 2)) = lv') (k : gg p l e R s m args below meth c cells slots Q D cl A nL ws lv' (pc + 1) st) : gg p l e R s m args below meth c cells slots Q D cl A nL ws lv pc (Value.int x :: st) := fun H locs ls hP hD hS hl => lv_istore_n X.1 X.2.1 hdg hi hl hn hl' (fun ls' h' => k H locs ls' hP hD hS h')
theorem gg_istore (X : gx p s m args c cc nL own Ts D cl tys A) {i : Nat} {x : Int32} {lv' : List (Nat × Value)} (hdg : decode cc pc = .ok (.istore i, 2)) (hn : i < nL) (hl' : (i, Value.int x) :: lv.filter (fun q => !(q.1 == i) && !(q.1 + 1 == i && q.2.category == 2)) = lv') (k : gg p l e R s m args below meth c cells slots Q D cl A nL ws lv' (pc + 2) st) : gg p l e R s m args below meth c cells slots Q D cl A nL ws lv pc (Value.int x :: st) := fun H locs ls hP hD hS hl => lv_istore X.1 X.2.1 hdg hl hn hl' (fun ls' h' => k H locs ls' hP hD hS h')
theorem gg_lstore_n (X : gx p s m args c cc nL own Ts D cl tys A) {k : Fin 4} {i : Nat} {x : Int64} {lv' : List (Nat × Value)} (hdg : decode cc pc = .ok (.lstore_n k, 1)) (hi : (k : Nat) = i) (hn : i + 1 < nL) (hl' : (i, Value.long x) :: lv.filter (fun q => !(q.1 == i) && (!(q.1 == i + 1) && !(q.1 + 1 == i && q.2.category == 2))) = lv') (k : gg p l e R s m args below meth c cells slots Q D cl A nL ws lv' (pc + 1) st) : gg p l e R s m args below meth c cells slots Q D cl A nL ws lv pc (Value.long x :: st) := fun H locs ls hP hD hS hl => lv_lstore_n X.1 X.2.1 hdg hi hl hn hl' (fun ls' h' => k H locs ls' hP hD hS h')
theorem gg_lstore (X : gx p s m args c cc nL own Ts D cl tys A) {i : Nat} {x : Int64} {lv' : List (Nat × Value)} (hdg : decode cc pc = .ok (.lstore i, 2)) (hn : i + 1 < nL) (hl' : (i, Value.long x) :: lv.filter (fun q => !(q.1 == i) && (!(q.1 == i + 1) && !(q.1 + 1 == i && q.2.category == 2))) = lv') (k : gg p l e R s m args below meth c cells slots Q D cl A nL ws lv' (pc + 2) st) : gg p l e R s m args below meth c cells slots Q D cl A nL ws lv pc (Value.long x :: st) := fun H locs ls hP hD hS hl => lv_lstore X.1 X.2.1 hdg hl hn hl' (fun ls' h' => k H locs ls' hP hD hS h')
theorem gg_astore_n (X : gx p s m args c cc nL own Ts D cl tys A) {k : Fin 4} {i : Nat} {x : Nat} {lv' : List (Nat × Value)} (hdg : decode cc pc = .ok (.astore_n k, 1)) (hi : (k : Nat) = i) (hn : i < nL) (hl' : (i, Value.ref x) :: lv.filter (fun q => !(q.1 == i) && !(q.1 + 1 == i && q.2.category == 2)) = lv') (k : gg p l e R s m args below meth c cells slots Q D cl A nL ws lv' (pc + 1) st) : gg p l e R s m args below meth c cells slots Q D cl A nL ws lv pc (Value.ref x :: st) := fun H locs ls hP hD hS hl => lv_astore_n X.1 X.2.1 hdg hi hl hn hl' (fun ls' h' => k H locs ls' hP hD hS h')
theorem gg_astore (X : gx p s m args c cc nL own Ts D cl tys A) {i : Nat} {x : Nat} {lv' : List (Nat × Value)} (hdg : decode cc pc = .ok (.astore i, 2)) (hn : i < nL) (hl' : (i, Value.ref x) :: lv.filter (fun q => !(q.1 == i) && !(q.1 + 1 == i && q.2.category == 2)) = lv') (k : gg p l e R s m args below meth c cells slots Q D cl A nL ws lv' (pc + 2) st) : gg p l e R s m args below meth c cells slots Q D cl A nL ws lv pc (Value.ref x :: st) := fun H locs ls hP hD hS hl => lv_astore X.1 X.2.1 hdg hl hn hl' (fun ls' h' => k H locs ls' hP hD hS h')
theorem gg_astore_nN (X : gx p s m args c cc nL own Ts D cl tys A) {k : Fin 4} {i : Nat} {lv' : List (Nat × Value)} (hdg : decode cc pc = .ok (.astore_n k, 1)) (hi : (k : Nat) = i) (hn : i < nL) (hl' : (i, Value.null) :: lv.filter (fun q => !(q.1 == i) && !(q.1 + 1 == i && q.2.category == 2)) = lv') (k : gg p l e R s m args below meth c cells slots Q D cl A nL ws lv' (pc + 1) st) : gg p l e R s m args below meth c cells slots Q D cl A nL ws lv pc (Value.null :: st) := fun H locs ls hP hD hS hl => lv_astore_nN X.1 X.2.1 hdg hi hl hn hl' (fun ls' h' => k H locs ls' hP hD hS h')
theorem gg_astoreN (X : gx p s m args c cc nL own Ts D cl tys A) {i : Nat} {lv' : List (Nat × Value)} (hdg : decode cc pc = .ok (.astore i, 2)) (hn : i < nL) (hl' : (i, Value.null) :: lv.filter (fun q => !(q.1 == i) && !(q.1 + 1 == i && q.2.category == 2)) = lv') (k : gg p l e R s m args below meth c cells slots Q D cl A nL ws lv' (pc + 2) st) : gg p l e R s m args below meth c cells slots Q D cl A nL ws lv pc (Value.null :: st) := fun H locs ls hP hD hS hl => lv_astoreN X.1 X.2.1 hdg hl hn hl' (fun ls' h' => k H locs ls' hP hD hS h')
theorem gg_astore_nq (X : gx p s m args c cc nL own Ts D cl tys A) {k : Fin 4} {i : Nat} {r : Option Nat} {lv' : List (Nat × Value)} (hdg : decode cc pc = .ok (.astore_n k, 1)) (hi : (k : Nat) = i) (hn : i < nL) (hl' : (i, va_rf r) :: lv.filter (fun q => !(q.1 == i) && !(q.1 + 1 == i && q.2.category == 2)) = lv') (k : gg p l e R s m args below meth c cells slots Q D cl A nL ws lv' (pc + 1) st) : gg p l e R s m args below meth c cells slots Q D cl A nL ws lv pc (va_rf r :: st) := by
  cases r with
  | none => exact gg_astore_nN X hdg hi hn hl' k
  | some a => exact gg_astore_n X hdg hi hn hl' k
theorem gg_astoreq (X : gx p s m args c cc nL own Ts D cl tys A) {i : Nat} {r : Option Nat} {lv' : List (Nat × Value)} (hdg : decode cc pc = .ok (.astore i, 2)) (hn : i < nL) (hl' : (i, va_rf r) :: lv.filter (fun q => !(q.1 == i) && !(q.1 + 1 == i && q.2.category == 2)) = lv') (k : gg p l e R s m args below meth c cells slots Q D cl A nL ws lv' (pc + 2) st) : gg p l e R s m args below meth c cells slots Q D cl A nL ws lv pc (va_rf r :: st) := by
  cases r with
  | none => exact gg_astoreN X hdg hn hl' k
  | some a => exact gg_astore X hdg hn hl' k
theorem gg_loop {ι : Type} (I : ι → Prop) (mu : ι → Nat) (wf : ι → va_W) (lf : ι → List (Nat × Value)) (step : ∀ a, I a → (∀ b, I b → mu b < mu a → gg p l e R s m args below meth c cells slots Q D cl A nL (wf b) (lf b) pc st) → gg p l e R s m args below meth c cells slots Q D cl A nL (wf a) (lf a) pc st) (a : ι) (h : I a) : gg p l e R s m args below meth c cells slots Q D cl A nL (wf a) (lf a) pc st := by
  have key : ∀ (n : Nat) (a : ι), mu a < n → I a → gg p l e R s m args below meth c cells slots Q D cl A nL (wf a) (lf a) pc st := by
    intro n
    induction n with
    | zero => intro a h1; omega
    | succ n ih => intro a h1 h2; exact step a h2 (fun b hb hm => ih b (by omega) hb)
  exact key (mu a + 1) a (Nat.lt_succ_self _) h
theorem gg_iinc (X : gx p s m args c cc nL own Ts D cl tys A) {i : Nat} {n : Int} {x v : Int32} {lv' : List (Nat × Value)} (hdg : decode cc pc = .ok (.iinc i n, 3)) (j : Nat) (hj : lv[j]? = some (i, .int x)) (hv : x + Int32.ofInt n = v) (hn : i < nL) (hl' : (i, Value.int v) :: lv.filter (fun q => !(q.1 == i) && !(q.1 + 1 == i && q.2.category == 2)) = lv') (k : gg p l e R s m args below meth c cells slots Q D cl A nL ws lv' (pc + 3) st) : gg p l e R s m args below meth c cells slots Q D cl A nL ws lv pc st := fun H locs ls hP hD hS hl => lv_iinc X.1 X.2.1 hdg hl hj hv hn hl' (fun ls' h' => k H locs ls' hP hD hS h')
theorem gg_iadd (X : gx p s m args c cc nL own Ts D cl tys A) {x y v : Int32} (hdg : decode cc pc = .ok (.iadd, 1)) (hv : x + y = v) (k : gg p l e R s m args below meth c cells slots Q D cl A nL ws lv (pc + 1) (.int v :: st)) : gg p l e R s m args below meth c cells slots Q D cl A nL ws lv pc (.int y :: .int x :: st) := fun H locs ls hP hD hS hl => lv_iadd X.1 X.2.1 hdg (by subst hv; exact k H locs ls hP hD hS hl)
theorem gg_isub (X : gx p s m args c cc nL own Ts D cl tys A) {x y v : Int32} (hdg : decode cc pc = .ok (.isub, 1)) (hv : x - y = v) (k : gg p l e R s m args below meth c cells slots Q D cl A nL ws lv (pc + 1) (.int v :: st)) : gg p l e R s m args below meth c cells slots Q D cl A nL ws lv pc (.int y :: .int x :: st) := fun H locs ls hP hD hS hl => lv_isub X.1 X.2.1 hdg (by subst hv; exact k H locs ls hP hD hS hl)
theorem gg_imul (X : gx p s m args c cc nL own Ts D cl tys A) {x y v : Int32} (hdg : decode cc pc = .ok (.imul, 1)) (hv : x * y = v) (k : gg p l e R s m args below meth c cells slots Q D cl A nL ws lv (pc + 1) (.int v :: st)) : gg p l e R s m args below meth c cells slots Q D cl A nL ws lv pc (.int y :: .int x :: st) := fun H locs ls hP hD hS hl => lv_imul X.1 X.2.1 hdg (by subst hv; exact k H locs ls hP hD hS hl)
theorem gg_iand (X : gx p s m args c cc nL own Ts D cl tys A) {x y v : Int32} (hdg : decode cc pc = .ok (.iand, 1)) (hv : x &&& y = v) (k : gg p l e R s m args below meth c cells slots Q D cl A nL ws lv (pc + 1) (.int v :: st)) : gg p l e R s m args below meth c cells slots Q D cl A nL ws lv pc (.int y :: .int x :: st) := fun H locs ls hP hD hS hl => lv_iand X.1 X.2.1 hdg (by subst hv; exact k H locs ls hP hD hS hl)
theorem gg_ladd (X : gx p s m args c cc nL own Ts D cl tys A) {x y v : Int64} (hdg : decode cc pc = .ok (.ladd, 1)) (hv : x + y = v) (k : gg p l e R s m args below meth c cells slots Q D cl A nL ws lv (pc + 1) (.long v :: st)) : gg p l e R s m args below meth c cells slots Q D cl A nL ws lv pc (.long y :: .long x :: st) := fun H locs ls hP hD hS hl => lv_ladd X.1 X.2.1 hdg (by subst hv; exact k H locs ls hP hD hS hl)
theorem gg_lsub (X : gx p s m args c cc nL own Ts D cl tys A) {x y v : Int64} (hdg : decode cc pc = .ok (.lsub, 1)) (hv : x - y = v) (k : gg p l e R s m args below meth c cells slots Q D cl A nL ws lv (pc + 1) (.long v :: st)) : gg p l e R s m args below meth c cells slots Q D cl A nL ws lv pc (.long y :: .long x :: st) := fun H locs ls hP hD hS hl => lv_lsub X.1 X.2.1 hdg (by subst hv; exact k H locs ls hP hD hS hl)
theorem gg_idiv (X : gx p s m args c cc nL own Ts D cl tys A) {x y v : Int32} (hdg : decode cc pc = .ok (.idiv, 1)) (hne : ¬ y = 0) (hv : x / y = v) (k : gg p l e R s m args below meth c cells slots Q D cl A nL ws lv (pc + 1) (.int v :: st)) : gg p l e R s m args below meth c cells slots Q D cl A nL ws lv pc (.int y :: .int x :: st) := fun H locs ls hP hD hS hl => lv_idiv X.1 X.2.1 hdg hne (by subst hv; exact k H locs ls hP hD hS hl)
theorem gg_i2l (X : gx p s m args c cc nL own Ts D cl tys A) {x : Int32} {v : Int64} (hdg : decode cc pc = .ok (.i2l, 1)) (hv : x.toInt64 = v) (k : gg p l e R s m args below meth c cells slots Q D cl A nL ws lv (pc + 1) (.long v :: st)) : gg p l e R s m args below meth c cells slots Q D cl A nL ws lv pc (.int x :: st) := fun H locs ls hP hD hS hl => lv_i2l X.1 X.2.1 hdg hv (k H locs ls hP hD hS hl)
theorem gg_l2i (X : gx p s m args c cc nL own Ts D cl tys A) {x : Int64} {v : Int32} (hdg : decode cc pc = .ok (.l2i, 1)) (hv : x.toInt32 = v) (k : gg p l e R s m args below meth c cells slots Q D cl A nL ws lv (pc + 1) (.int v :: st)) : gg p l e R s m args below meth c cells slots Q D cl A nL ws lv pc (.long x :: st) := fun H locs ls hP hD hS hl => lv_l2i X.1 X.2.1 hdg hv (k H locs ls hP hD hS hl)
theorem gg_lcmp (X : gx p s m args c cc nL own Ts D cl tys A) {x y : Int64} (hdg : decode cc pc = .ok (.lcmp, 1)) (k : gg p l e R s m args below meth c cells slots Q D cl A nL ws lv (pc + 1) (.int (lg_cmp x y) :: st)) : gg p l e R s m args below meth c cells slots Q D cl A nL ws lv pc (.long y :: .long x :: st) := fun H locs ls hP hD hS hl => W.lcmp X.1 X.2.1 hdg (k H locs ls hP hD hS hl)
theorem gg_dup (X : gx p s m args c cc nL own Ts D cl tys A) {va : Value} (hdg : decode cc pc = .ok (.dup, 1)) (hva : va.category = 1) (k : gg p l e R s m args below meth c cells slots Q D cl A nL ws lv (pc + 1) (va :: va :: st)) : gg p l e R s m args below meth c cells slots Q D cl A nL ws lv pc (va :: st) := fun H locs ls hP hD hS hl => lv_dup X.1 X.2.1 hdg hva (k H locs ls hP hD hS hl)
theorem gg_pop (X : gx p s m args c cc nL own Ts D cl tys A) {va : Value} (hdg : decode cc pc = .ok (.pop, 1)) (hva : va.category = 1) (k : gg p l e R s m args below meth c cells slots Q D cl A nL ws lv (pc + 1) (st)) : gg p l e R s m args below meth c cells slots Q D cl A nL ws lv pc (va :: st) := fun H locs ls hP hD hS hl => lv_pop X.1 X.2.1 hdg hva (k H locs ls hP hD hS hl)
theorem gg_dup2 (X : gx p s m args c cc nL own Ts D cl tys A) {va vb : Value} (hdg : decode cc pc = .ok (.dup2, 1)) (hva : va.category = 1) (hvb : vb.category = 1) (k : gg p l e R s m args below meth c cells slots Q D cl A nL ws lv (pc + 1) (va :: vb :: va :: vb :: st)) : gg p l e R s m args below meth c cells slots Q D cl A nL ws lv pc (va :: vb :: st) := fun H locs ls hP hD hS hl => lv_dup2_11 X.1 X.2.1 hdg hva hvb (k H locs ls hP hD hS hl)
theorem gg_if_eq (X : gx p s m args c cc nL own Ts D cl tys A) {x : Int32} {off : Int} {tgt : Nat} (hdg : decode cc pc = .ok (.ifCond .eq off, 3)) (ht : (pc : Int) + off = (tgt : Int)) (kt : x = 0 → gg p l e R s m args below meth c cells slots Q D cl A nL ws lv tgt st) (kf : ¬ x = 0 → gg p l e R s m args below meth c cells slots Q D cl A nL ws lv (pc + 3) st) : gg p l e R s m args below meth c cells slots Q D cl A nL ws lv pc (.int x :: st) := fun H locs ls hP hD hS hl => lv_if_eq X.1 X.2.1 hdg ht (fun q => kt q H locs ls hP hD hS hl) (fun q => kf q H locs ls hP hD hS hl)
theorem gg_icmp_eq (X : gx p s m args c cc nL own Ts D cl tys A) {x y : Int32} {off : Int} {tgt : Nat} (hdg : decode cc pc = .ok (.if_icmp .eq off, 3)) (ht : (pc : Int) + off = (tgt : Int)) (kt : x = y → gg p l e R s m args below meth c cells slots Q D cl A nL ws lv tgt st) (kf : ¬ x = y → gg p l e R s m args below meth c cells slots Q D cl A nL ws lv (pc + 3) st) : gg p l e R s m args below meth c cells slots Q D cl A nL ws lv pc (.int y :: .int x :: st) := fun H locs ls hP hD hS hl => lv_icmp_eq X.1 X.2.1 hdg ht (fun q => kt q H locs ls hP hD hS hl) (fun q => kf q H locs ls hP hD hS hl)
theorem gg_if_ne (X : gx p s m args c cc nL own Ts D cl tys A) {x : Int32} {off : Int} {tgt : Nat} (hdg : decode cc pc = .ok (.ifCond .ne off, 3)) (ht : (pc : Int) + off = (tgt : Int)) (kt : ¬ x = 0 → gg p l e R s m args below meth c cells slots Q D cl A nL ws lv tgt st) (kf : x = 0 → gg p l e R s m args below meth c cells slots Q D cl A nL ws lv (pc + 3) st) : gg p l e R s m args below meth c cells slots Q D cl A nL ws lv pc (.int x :: st) := fun H locs ls hP hD hS hl => lv_if_ne X.1 X.2.1 hdg ht (fun q => kt q H locs ls hP hD hS hl) (fun q => kf q H locs ls hP hD hS hl)
theorem gg_icmp_ne (X : gx p s m args c cc nL own Ts D cl tys A) {x y : Int32} {off : Int} {tgt : Nat} (hdg : decode cc pc = .ok (.if_icmp .ne off, 3)) (ht : (pc : Int) + off = (tgt : Int)) (kt : ¬ x = y → gg p l e R s m args below meth c cells slots Q D cl A nL ws lv tgt st) (kf : x = y → gg p l e R s m args below meth c cells slots Q D cl A nL ws lv (pc + 3) st) : gg p l e R s m args below meth c cells slots Q D cl A nL ws lv pc (.int y :: .int x :: st) := fun H locs ls hP hD hS hl => lv_icmp_ne X.1 X.2.1 hdg ht (fun q => kt q H locs ls hP hD hS hl) (fun q => kf q H locs ls hP hD hS hl)
theorem gg_if_lt (X : gx p s m args c cc nL own Ts D cl tys A) {x : Int32} {off : Int} {tgt : Nat} (hdg : decode cc pc = .ok (.ifCond .lt off, 3)) (ht : (pc : Int) + off = (tgt : Int)) (kt : x < 0 → gg p l e R s m args below meth c cells slots Q D cl A nL ws lv tgt st) (kf : ¬ x < 0 → gg p l e R s m args below meth c cells slots Q D cl A nL ws lv (pc + 3) st) : gg p l e R s m args below meth c cells slots Q D cl A nL ws lv pc (.int x :: st) := fun H locs ls hP hD hS hl => lv_if_lt X.1 X.2.1 hdg ht (fun q => kt q H locs ls hP hD hS hl) (fun q => kf q H locs ls hP hD hS hl)
theorem gg_icmp_lt (X : gx p s m args c cc nL own Ts D cl tys A) {x y : Int32} {off : Int} {tgt : Nat} (hdg : decode cc pc = .ok (.if_icmp .lt off, 3)) (ht : (pc : Int) + off = (tgt : Int)) (kt : x < y → gg p l e R s m args below meth c cells slots Q D cl A nL ws lv tgt st) (kf : ¬ x < y → gg p l e R s m args below meth c cells slots Q D cl A nL ws lv (pc + 3) st) : gg p l e R s m args below meth c cells slots Q D cl A nL ws lv pc (.int y :: .int x :: st) := fun H locs ls hP hD hS hl => lv_icmp_lt X.1 X.2.1 hdg ht (fun q => kt q H locs ls hP hD hS hl) (fun q => kf q H locs ls hP hD hS hl)
theorem gg_if_ge (X : gx p s m args c cc nL own Ts D cl tys A) {x : Int32} {off : Int} {tgt : Nat} (hdg : decode cc pc = .ok (.ifCond .ge off, 3)) (ht : (pc : Int) + off = (tgt : Int)) (kt : 0 ≤ x → gg p l e R s m args below meth c cells slots Q D cl A nL ws lv tgt st) (kf : ¬ 0 ≤ x → gg p l e R s m args below meth c cells slots Q D cl A nL ws lv (pc + 3) st) : gg p l e R s m args below meth c cells slots Q D cl A nL ws lv pc (.int x :: st) := fun H locs ls hP hD hS hl => lv_if_ge X.1 X.2.1 hdg ht (fun q => kt q H locs ls hP hD hS hl) (fun q => kf q H locs ls hP hD hS hl)
theorem gg_icmp_ge (X : gx p s m args c cc nL own Ts D cl tys A) {x y : Int32} {off : Int} {tgt : Nat} (hdg : decode cc pc = .ok (.if_icmp .ge off, 3)) (ht : (pc : Int) + off = (tgt : Int)) (kt : y ≤ x → gg p l e R s m args below meth c cells slots Q D cl A nL ws lv tgt st) (kf : ¬ y ≤ x → gg p l e R s m args below meth c cells slots Q D cl A nL ws lv (pc + 3) st) : gg p l e R s m args below meth c cells slots Q D cl A nL ws lv pc (.int y :: .int x :: st) := fun H locs ls hP hD hS hl => lv_icmp_ge X.1 X.2.1 hdg ht (fun q => kt q H locs ls hP hD hS hl) (fun q => kf q H locs ls hP hD hS hl)
theorem gg_if_gt (X : gx p s m args c cc nL own Ts D cl tys A) {x : Int32} {off : Int} {tgt : Nat} (hdg : decode cc pc = .ok (.ifCond .gt off, 3)) (ht : (pc : Int) + off = (tgt : Int)) (kt : 0 < x → gg p l e R s m args below meth c cells slots Q D cl A nL ws lv tgt st) (kf : ¬ 0 < x → gg p l e R s m args below meth c cells slots Q D cl A nL ws lv (pc + 3) st) : gg p l e R s m args below meth c cells slots Q D cl A nL ws lv pc (.int x :: st) := fun H locs ls hP hD hS hl => lv_if_gt X.1 X.2.1 hdg ht (fun q => kt q H locs ls hP hD hS hl) (fun q => kf q H locs ls hP hD hS hl)
theorem gg_icmp_gt (X : gx p s m args c cc nL own Ts D cl tys A) {x y : Int32} {off : Int} {tgt : Nat} (hdg : decode cc pc = .ok (.if_icmp .gt off, 3)) (ht : (pc : Int) + off = (tgt : Int)) (kt : y < x → gg p l e R s m args below meth c cells slots Q D cl A nL ws lv tgt st) (kf : ¬ y < x → gg p l e R s m args below meth c cells slots Q D cl A nL ws lv (pc + 3) st) : gg p l e R s m args below meth c cells slots Q D cl A nL ws lv pc (.int y :: .int x :: st) := fun H locs ls hP hD hS hl => lv_icmp_gt X.1 X.2.1 hdg ht (fun q => kt q H locs ls hP hD hS hl) (fun q => kf q H locs ls hP hD hS hl)
theorem gg_if_le (X : gx p s m args c cc nL own Ts D cl tys A) {x : Int32} {off : Int} {tgt : Nat} (hdg : decode cc pc = .ok (.ifCond .le off, 3)) (ht : (pc : Int) + off = (tgt : Int)) (kt : x ≤ 0 → gg p l e R s m args below meth c cells slots Q D cl A nL ws lv tgt st) (kf : ¬ x ≤ 0 → gg p l e R s m args below meth c cells slots Q D cl A nL ws lv (pc + 3) st) : gg p l e R s m args below meth c cells slots Q D cl A nL ws lv pc (.int x :: st) := fun H locs ls hP hD hS hl => lv_if_le X.1 X.2.1 hdg ht (fun q => kt q H locs ls hP hD hS hl) (fun q => kf q H locs ls hP hD hS hl)
theorem gg_icmp_le (X : gx p s m args c cc nL own Ts D cl tys A) {x y : Int32} {off : Int} {tgt : Nat} (hdg : decode cc pc = .ok (.if_icmp .le off, 3)) (ht : (pc : Int) + off = (tgt : Int)) (kt : x ≤ y → gg p l e R s m args below meth c cells slots Q D cl A nL ws lv tgt st) (kf : ¬ x ≤ y → gg p l e R s m args below meth c cells slots Q D cl A nL ws lv (pc + 3) st) : gg p l e R s m args below meth c cells slots Q D cl A nL ws lv pc (.int y :: .int x :: st) := fun H locs ls hP hD hS hl => lv_icmp_le X.1 X.2.1 hdg ht (fun q => kt q H locs ls hP hD hS hl) (fun q => kf q H locs ls hP hD hS hl)
theorem gg_goto (X : gx p s m args c cc nL own Ts D cl tys A) {off : Int} {tgt : Nat} (hdg : decode cc pc = .ok (.goto off, 3)) (ht : (pc : Int) + off = (tgt : Int)) (k : gg p l e R s m args below meth c cells slots Q D cl A nL ws lv tgt (st)) : gg p l e R s m args below meth c cells slots Q D cl A nL ws lv pc (st) := fun H locs ls hP hD hS hl => lv_goto X.1 X.2.1 hdg ht (k H locs ls hP hD hS hl)
theorem gg_ifnull (X : gx p s m args c cc nL own Ts D cl tys A) {r : Option Nat} {off : Int} {tgt : Nat} (hdg : decode cc pc = .ok (.ifnull off, 3)) (ht : (pc : Int) + off = (tgt : Int)) (kt : r = none → gg p l e R s m args below meth c cells slots Q D cl A nL ws lv tgt st) (kf : ∀ a : Nat, r = some a → gg p l e R s m args below meth c cells slots Q D cl A nL ws lv (pc + 3) st) : gg p l e R s m args below meth c cells slots Q D cl A nL ws lv pc (va_rf r :: st) := by
  intro H locs ls hP hD hS hl
  cases r with
  | none => exact lv_ifnullN X.1 X.2.1 hdg ht (kt rfl H locs ls hP hD hS hl)
  | some a => exact lv_ifnull X.1 X.2.1 hdg (kf a rfl H locs ls hP hD hS hl)
theorem gg_ifnonnull (X : gx p s m args c cc nL own Ts D cl tys A) {r : Option Nat} {off : Int} {tgt : Nat} (hdg : decode cc pc = .ok (.ifnonnull off, 3)) (ht : (pc : Int) + off = (tgt : Int)) (kt : ∀ a : Nat, r = some a → gg p l e R s m args below meth c cells slots Q D cl A nL ws lv tgt st) (kf : r = none → gg p l e R s m args below meth c cells slots Q D cl A nL ws lv (pc + 3) st) : gg p l e R s m args below meth c cells slots Q D cl A nL ws lv pc (va_rf r :: st) := by
  intro H locs ls hP hD hS hl
  cases r with
  | none => exact lv_ifnonnullN X.1 X.2.1 hdg (kf rfl H locs ls hP hD hS hl)
  | some a => exact lv_ifnonnull X.1 X.2.1 hdg ht (kt a rfl H locs ls hP hD hS hl)
theorem gg_ifnullS (X : gx p s m args c cc nL own Ts D cl tys A) {x : Nat} {off : Int} (hdg : decode cc pc = .ok (.ifnull off, 3)) (k : gg p l e R s m args below meth c cells slots Q D cl A nL ws lv (pc + 3) (st)) : gg p l e R s m args below meth c cells slots Q D cl A nL ws lv pc (.ref x :: st) := fun H locs ls hP hD hS hl => lv_ifnull X.1 X.2.1 hdg (k H locs ls hP hD hS hl)
theorem gg_ifnullZ (X : gx p s m args c cc nL own Ts D cl tys A) {off : Int} {tgt : Nat} (hdg : decode cc pc = .ok (.ifnull off, 3)) (ht : (pc : Int) + off = (tgt : Int)) (k : gg p l e R s m args below meth c cells slots Q D cl A nL ws lv tgt (st)) : gg p l e R s m args below meth c cells slots Q D cl A nL ws lv pc (.null :: st) := fun H locs ls hP hD hS hl => lv_ifnullN X.1 X.2.1 hdg ht (k H locs ls hP hD hS hl)
theorem gg_ifnonnullS (X : gx p s m args c cc nL own Ts D cl tys A) {x : Nat} {off : Int} {tgt : Nat} (hdg : decode cc pc = .ok (.ifnonnull off, 3)) (ht : (pc : Int) + off = (tgt : Int)) (k : gg p l e R s m args below meth c cells slots Q D cl A nL ws lv tgt (st)) : gg p l e R s m args below meth c cells slots Q D cl A nL ws lv pc (.ref x :: st) := fun H locs ls hP hD hS hl => lv_ifnonnull X.1 X.2.1 hdg ht (k H locs ls hP hD hS hl)
theorem gg_ifnonnullZ (X : gx p s m args c cc nL own Ts D cl tys A) {off : Int} (hdg : decode cc pc = .ok (.ifnonnull off, 3)) (k : gg p l e R s m args below meth c cells slots Q D cl A nL ws lv (pc + 3) (st)) : gg p l e R s m args below meth c cells slots Q D cl A nL ws lv pc (.null :: st) := fun H locs ls hP hD hS hl => lv_ifnonnullN X.1 X.2.1 hdg (k H locs ls hP hD hS hl)
theorem gg_tableOut (X : gx p s m args c cc nL own Ts D cl tys A) {dflt lo hi : Int} {offs : Array Int} {len : Nat} {x : Int32} {tgt : Nat} (hdg : decode cc pc = .ok (.tableswitch dflt lo hi offs, len)) (h : x.toInt < lo ∨ hi < x.toInt) (ht : (pc : Int) + dflt = (tgt : Int)) (k : gg p l e R s m args below meth c cells slots Q D cl A nL ws lv tgt st) : gg p l e R s m args below meth c cells slots Q D cl A nL ws lv pc (.int x :: st) := fun H locs ls hP hD hS hl => lv_tableOut X.1 X.2.1 hdg h ht (k H locs ls hP hD hS hl)
theorem gg_tableIn (X : gx p s m args c cc nL own Ts D cl tys A) {dflt lo hi : Int} {offs : Array Int} {len : Nat} {x : Int32} {off : Int} {tgt : Nat} (hdg : decode cc pc = .ok (.tableswitch dflt lo hi offs, len)) (h1 : ¬ x.toInt < lo) (h2 : ¬ hi < x.toInt) (ho : offs[(x.toInt - lo).toNat]? = some off) (ht : (pc : Int) + off = (tgt : Int)) (k : gg p l e R s m args below meth c cells slots Q D cl A nL ws lv tgt st) : gg p l e R s m args below meth c cells slots Q D cl A nL ws lv pc (.int x :: st) := fun H locs ls hP hD hS hl => lv_tableIn X.1 X.2.1 hdg h1 h2 ho ht (k H locs ls hP hD hS hl)
theorem gg_get (X : gx p s m args c cc nL own Ts D cl tys A) {C : String} {T : u_T} {N ci index : Nat} {a : Nat} (hdg : decode cc pc = .ok (.getfield index, 3)) (hin : ∀ w ∈ u_ws C T N, w ∈ Ts) (q0 : Nat) {fs : List Value} (he : ws[q0]? = some (a, .inr (ci, fs))) (hc : cl[ci]? = some (C, T, N)) (k : Nat) (hk : k < N) (hm : Cond.fieldLink own index (T k).1 (T k).2.1 (T k).2.2.1 ∈ Ts) {v : Value} (hv : fs[k]? = some v) (kk : gg p l e R s m args below meth c cells slots Q D cl A nL ws lv (pc + 3) (v :: st)) : gg p l e R s m args below meth c cells slots Q D cl A nL ws lv pc (.ref a :: st) := fun H locs ls hP hD hS hl => va_get X.1 X.2.1 X.2.2.2.2.1 hin X.2.2.2.1 X.2.2.2.2.2.1 hP q0 he hc k hk (X.2.2.2.2.1 _ hm) (fun _ h9 => h9) hv hdg (kk H locs ls hP hD hS hl)
theorem gg_getN (X : gx p s m args c cc nL own Ts D cl tys A) {C : String} {T : u_T} {N ci index : Nat} {a : Nat} {host : String} (hdg : decode cc pc = .ok (.getfield index, 3)) (hin : ∀ w ∈ u_ws C T N, w ∈ Ts) (q0 : Nat) {fs : List Value} (he : ws[q0]? = some (a, .inr (ci, fs))) (hc : cl[ci]? = some (C, T, N)) (k : Nat) (hk : k < N) (hm : va_Nw (.fieldLinkNest own index (T k).1 (T k).2.1 (T k).2.2.1 host) s) {v : Value} (hv : fs[k]? = some v) (kk : gg p l e R s m args below meth c cells slots Q D cl A nL ws lv (pc + 3) (v :: st)) : gg p l e R s m args below meth c cells slots Q D cl A nL ws lv pc (.ref a :: st) := fun H locs ls hP hD hS hl => va_getN X.1 X.2.1 X.2.2.2.2.1 hin X.2.2.2.1 X.2.2.2.2.2.1 hP q0 he hc k hk (va_Nw.use rfl hm) (fun _ h9 => h9) hv hdg (kk H locs ls hP hD hS hl)
theorem gg_put (X : gx p s m args c cc nL own Ts D cl tys A) {C : String} {T : u_T} {N ci index : Nat} {a : Nat} (hdg : decode cc pc = .ok (.putfield index, 3)) (hin : ∀ w ∈ u_ws C T N, w ∈ Ts) (ty0 : Nat → FieldType) (hty : ∀ k, k < N → parseFieldDescriptor (T k).2.2.1 = some (ty0 k)) (hnm : ∀ a, a < N → ∀ b, b < N → a ≠ b → (T a).2.1 ≠ (T b).2.1) (q0 : Nat) {fs : List Value} (he : ws[q0]? = some (a, .inr (ci, fs))) (hc : cl[ci]? = some (C, T, N)) (k : Nat) (hk : k < N) (hm : Cond.fieldLink own index (T k).1 (T k).2.1 (T k).2.2.1 ∈ Ts) {ws' : va_W} (hfin : (T k).2.2.2 = false) {ty : FieldType} {v : Value} (hd : parseFieldDescriptor (T k).2.2.1 = some ty) (hn : narrow ty v = v) (hfit : fits ty v = true) (hl' : k < fs.length) (hws : ws.set q0 (a, .inr (ci, fs.set k v)) = ws') (kk : gg p l e R s m args below meth c cells slots Q D cl A nL ws' lv (pc + 3) st) : gg p l e R s m args below meth c cells slots Q D cl A nL ws lv pc (v :: .ref a :: st) := fun H locs ls hP hD hS hl => va_put X.1 X.2.1 X.2.2.2.2.1 hin ty0 hty hnm X.2.2.2.1 X.2.2.2.2.2.1 hP hD hS q0 he hc k hk (X.2.2.2.2.1 _ hm) (fun _ h9 => h9) hfin hd hn hfit hl' hdg (fun H1 locs1 hP1 hD1 hS1 => kk H1 locs1 ls (hws ▸ hP1) (hws ▸ hD1) hS1 hl)
theorem gg_putN (X : gx p s m args c cc nL own Ts D cl tys A) {C : String} {T : u_T} {N ci index : Nat} {a : Nat} {host : String} (hdg : decode cc pc = .ok (.putfield index, 3)) (hin : ∀ w ∈ u_ws C T N, w ∈ Ts) (ty0 : Nat → FieldType) (hty : ∀ k, k < N → parseFieldDescriptor (T k).2.2.1 = some (ty0 k)) (hnm : ∀ a, a < N → ∀ b, b < N → a ≠ b → (T a).2.1 ≠ (T b).2.1) (q0 : Nat) {fs : List Value} (he : ws[q0]? = some (a, .inr (ci, fs))) (hc : cl[ci]? = some (C, T, N)) (k : Nat) (hk : k < N) (hm : va_Nw (.fieldLinkNest own index (T k).1 (T k).2.1 (T k).2.2.1 host) s) {ws' : va_W} (hfin : (T k).2.2.2 = false) {ty : FieldType} {v : Value} (hd : parseFieldDescriptor (T k).2.2.1 = some ty) (hn : narrow ty v = v) (hfit : fits ty v = true) (hl' : k < fs.length) (hws : ws.set q0 (a, .inr (ci, fs.set k v)) = ws') (kk : gg p l e R s m args below meth c cells slots Q D cl A nL ws' lv (pc + 3) st) : gg p l e R s m args below meth c cells slots Q D cl A nL ws lv pc (v :: .ref a :: st) := fun H locs ls hP hD hS hl => va_putN X.1 X.2.1 X.2.2.2.2.1 hin ty0 hty hnm X.2.2.2.1 X.2.2.2.2.2.1 hP hD hS q0 he hc k hk (va_Nw.use rfl hm) (fun _ h9 => h9) hfin hd hn hfit hl' hdg (fun H1 locs1 hP1 hD1 hS1 => kk H1 locs1 ls (hws ▸ hP1) (hws ▸ hD1) hS1 hl)
theorem gg_putF (X : gx p s m args c cc nL own Ts D cl tys A) {C : String} {T : u_T} {N ci index : Nat} {a : Nat} (hdg : decode cc pc = .ok (.putfield index, 3)) (hin : ∀ w ∈ u_ws C T N, w ∈ Ts) (ty0 : Nat → FieldType) (hty : ∀ k, k < N → parseFieldDescriptor (T k).2.2.1 = some (ty0 k)) (hnm : ∀ a, a < N → ∀ b, b < N → a ≠ b → (T a).2.1 ≠ (T b).2.1) (q0 : Nat) {fs : List Value} (he : ws[q0]? = some (a, .inr (ci, fs))) (hc : cl[ci]? = some (C, T, N)) (k : Nat) (hk : k < N) (hm : Cond.fieldLink own index (T k).1 (T k).2.1 (T k).2.2.1 ∈ Ts) (hin2 : meth.name = "<init>") (hdecl : (T k).1 = own) {ws' : va_W} (hfin : (T k).2.2.2 = true) {ty : FieldType} {v : Value} (hd : parseFieldDescriptor (T k).2.2.1 = some ty) (hn : narrow ty v = v) (hfit : fits ty v = true) (hl' : k < fs.length) (hws : ws.set q0 (a, .inr (ci, fs.set k v)) = ws') (kk : gg p l e R s m args below meth c cells slots Q D cl A nL ws' lv (pc + 3) st) : gg p l e R s m args below meth c cells slots Q D cl A nL ws lv pc (v :: .ref a :: st) := fun H locs ls hP hD hS hl => va_putF X.1 X.2.1 X.2.2.2.2.1 hin ty0 hty hnm X.2.2.2.1 X.2.2.2.2.2.1 hP hD hS q0 he hc k hk (X.2.2.2.2.1 _ hm) (fun _ h9 => h9) hfin hin2 hdecl hd hn hfit hl' hdg (fun H1 locs1 hP1 hD1 hS1 => kk H1 locs1 ls (hws ▸ hP1) (hws ▸ hD1) hS1 hl)
theorem gg_iald (X : gx p s m args c cc nL own Ts D cl tys A) {a : Nat} (hdg : decode cc pc = .ok (.iaload, 1)) (q0 t0 : Nat) {cA : ClassId} {n : Nat} {f : Nat → Int32} (ha : ws[q0]? = some (a, .inl (cA, n, .inl f))) (ht : tys[t0]? = some (cA, .int)) {i : Int32} (j : Nat) (hi : i = nI j) (hj : j < n) (hn : n < 2147483648) (k : gg p l e R s m args below meth c cells slots Q D cl A nL ws lv (pc + 1) (.int (f j) :: st)) : gg p l e R s m args below meth c cells slots Q D cl A nL ws lv pc (.int i :: .ref a :: st) := by
  intro H locs ls hP hD hS hl
  subst hi
  refine va_iald X.1 X.2.1 X.2.2.2.2.2.1 hP q0 t0 ha ht (gg_in hj hn) hdg ?_
  rw [nI_clamp (by omega)]
  exact k H locs ls hP hD hS hl
theorem gg_bald (X : gx p s m args c cc nL own Ts D cl tys A) {a : Nat} (hdg : decode cc pc = .ok (.baload, 1)) (q0 t0 : Nat) {cA : ClassId} {n : Nat} {f : Nat → Int32} (ha : ws[q0]? = some (a, .inl (cA, n, .inl f))) (ht : tys[t0]? = some (cA, .byte)) {i : Int32} (j : Nat) (hi : i = nI j) (hj : j < n) (hn : n < 2147483648) (k : gg p l e R s m args below meth c cells slots Q D cl A nL ws lv (pc + 1) (.int (f j) :: st)) : gg p l e R s m args below meth c cells slots Q D cl A nL ws lv pc (.int i :: .ref a :: st) := by
  intro H locs ls hP hD hS hl
  subst hi
  refine va_bald X.1 X.2.1 X.2.2.2.2.2.1 hP q0 t0 ha ht (gg_in hj hn) hdg ?_
  rw [nI_clamp (by omega)]
  exact k H locs ls hP hD hS hl
theorem gg_zald (X : gx p s m args c cc nL own Ts D cl tys A) {a : Nat} (hdg : decode cc pc = .ok (.baload, 1)) (q0 t0 : Nat) {cA : ClassId} {n : Nat} {f : Nat → Int32} (ha : ws[q0]? = some (a, .inl (cA, n, .inl f))) (ht : tys[t0]? = some (cA, .boolean)) {i : Int32} (j : Nat) (hi : i = nI j) (hj : j < n) (hn : n < 2147483648) (k : gg p l e R s m args below meth c cells slots Q D cl A nL ws lv (pc + 1) (.int (f j) :: st)) : gg p l e R s m args below meth c cells slots Q D cl A nL ws lv pc (.int i :: .ref a :: st) := by
  intro H locs ls hP hD hS hl
  subst hi
  refine va_zald X.1 X.2.1 X.2.2.2.2.2.1 hP q0 t0 ha ht (gg_in hj hn) hdg ?_
  rw [nI_clamp (by omega)]
  exact k H locs ls hP hD hS hl
theorem gg_lald (X : gx p s m args c cc nL own Ts D cl tys A) {a : Nat} (hdg : decode cc pc = .ok (.laload, 1)) (q0 t0 : Nat) {cA : ClassId} {n : Nat} {f : Nat → Int64} (ha : ws[q0]? = some (a, .inl (cA, n, .inr (.inl f)))) (ht : tys[t0]? = some (cA, .long)) {i : Int32} (j : Nat) (hi : i = nI j) (hj : j < n) (hn : n < 2147483648) (k : gg p l e R s m args below meth c cells slots Q D cl A nL ws lv (pc + 1) (.long (f j) :: st)) : gg p l e R s m args below meth c cells slots Q D cl A nL ws lv pc (.int i :: .ref a :: st) := by
  intro H locs ls hP hD hS hl
  subst hi
  refine va_lald X.1 X.2.1 X.2.2.2.2.2.1 hP q0 t0 ha ht (gg_in hj hn) hdg ?_
  rw [nI_clamp (by omega)]
  exact k H locs ls hP hD hS hl
theorem gg_aldq (X : gx p s m args c cc nL own Ts D cl tys A) {a : Nat} (hdg : decode cc pc = .ok (.aaload, 1)) (q0 t0 : Nat) {cA : ClassId} {Cn : String} {n : Nat} {f : Nat → Option Nat} (ha : ws[q0]? = some (a, .inl (cA, n, .inr (.inr (.inr (.inr f)))))) (ht : tys[t0]? = some (cA, .object Cn)) {i : Int32} (j : Nat) (hi : i = nI j) (hj : j < n) (hn : n < 2147483648) {r : Option Nat} (hr : f j = r) (k : gg p l e R s m args below meth c cells slots Q D cl A nL ws lv (pc + 1) (va_rf r :: st)) : gg p l e R s m args below meth c cells slots Q D cl A nL ws lv pc (.int i :: .ref a :: st) := by
  intro H locs ls hP hD hS hl
  subst hi
  subst hr
  refine va_aldq X.1 X.2.1 X.2.2.2.2.2.1 hP q0 t0 ha ht (gg_in hj hn) hdg ?_
  rw [nI_clamp (by omega)]
  exact k H locs ls hP hD hS hl
theorem gg_iast (X : gx p s m args c cc nL own Ts D cl tys A) {a : Nat} {ws' : va_W} (hdg : decode cc pc = .ok (.iastore, 1)) (q0 t0 : Nat) {cA : ClassId} {n : Nat} {f : Nat → Int32} (ha : ws[q0]? = some (a, .inl (cA, n, .inl f))) (ht : tys[t0]? = some (cA, .int)) {i : Int32} {x : Int32} (j : Nat) (hi : i = nI j) (hj : j < n) (hn : n < 2147483648) (hws : ws.set q0 (a, .inl (cA, n, .inl (upd f j x))) = ws') (k : gg p l e R s m args below meth c cells slots Q D cl A nL ws' lv (pc + 1) st) : gg p l e R s m args below meth c cells slots Q D cl A nL ws lv pc (.int x :: .int i :: .ref a :: st) := by
  intro H locs ls hP hD hS hl
  subst hi
  refine va_iast X.1 X.2.1 X.2.2.2.2.2.1 hP hD hS q0 t0 ha ht (gg_in hj hn) hdg (fun H1 locs1 hP1 hD1 hS1 => ?_)
  rw [nI_clamp (by omega)] at hP1 hD1
  exact k H1 locs1 ls (hws ▸ hP1) (hws ▸ hD1) hS1 hl
theorem gg_bast (X : gx p s m args c cc nL own Ts D cl tys A) {a : Nat} {ws' : va_W} (hdg : decode cc pc = .ok (.bastore, 1)) (q0 t0 : Nat) {cA : ClassId} {n : Nat} {f : Nat → Int32} (ha : ws[q0]? = some (a, .inl (cA, n, .inl f))) (ht : tys[t0]? = some (cA, .byte)) {i : Int32} {x : Int32} (j : Nat) (hi : i = nI j) (hj : j < n) (hn : n < 2147483648) (hx : vp_nar .byte x = x) (hws : ws.set q0 (a, .inl (cA, n, .inl (upd f j x))) = ws') (k : gg p l e R s m args below meth c cells slots Q D cl A nL ws' lv (pc + 1) st) : gg p l e R s m args below meth c cells slots Q D cl A nL ws lv pc (.int x :: .int i :: .ref a :: st) := by
  intro H locs ls hP hD hS hl
  subst hi
  refine va_bast X.1 X.2.1 X.2.2.2.2.2.1 hP hD hS q0 t0 ha ht (gg_in hj hn) hdg (fun H1 locs1 hP1 hD1 hS1 => ?_)
  rw [nI_clamp (by omega)] at hP1 hD1
  rw [hx] at hP1 hD1
  exact k H1 locs1 ls (hws ▸ hP1) (hws ▸ hD1) hS1 hl
theorem gg_zast (X : gx p s m args c cc nL own Ts D cl tys A) {a : Nat} {ws' : va_W} (hdg : decode cc pc = .ok (.bastore, 1)) (q0 t0 : Nat) {cA : ClassId} {n : Nat} {f : Nat → Int32} (ha : ws[q0]? = some (a, .inl (cA, n, .inl f))) (ht : tys[t0]? = some (cA, .boolean)) {i : Int32} {x : Int32} (j : Nat) (hi : i = nI j) (hj : j < n) (hn : n < 2147483648) (hx : vp_nar .boolean x = x) (hws : ws.set q0 (a, .inl (cA, n, .inl (upd f j x))) = ws') (k : gg p l e R s m args below meth c cells slots Q D cl A nL ws' lv (pc + 1) st) : gg p l e R s m args below meth c cells slots Q D cl A nL ws lv pc (.int x :: .int i :: .ref a :: st) := by
  intro H locs ls hP hD hS hl
  subst hi
  refine va_zast X.1 X.2.1 X.2.2.2.2.2.1 hP hD hS q0 t0 ha ht (gg_in hj hn) hdg (fun H1 locs1 hP1 hD1 hS1 => ?_)
  rw [nI_clamp (by omega)] at hP1 hD1
  rw [hx] at hP1 hD1
  exact k H1 locs1 ls (hws ▸ hP1) (hws ▸ hD1) hS1 hl
theorem gg_last (X : gx p s m args c cc nL own Ts D cl tys A) {a : Nat} {ws' : va_W} (hdg : decode cc pc = .ok (.lastore, 1)) (q0 t0 : Nat) {cA : ClassId} {n : Nat} {f : Nat → Int64} (ha : ws[q0]? = some (a, .inl (cA, n, .inr (.inl f)))) (ht : tys[t0]? = some (cA, .long)) {i : Int32} {x : Int64} (j : Nat) (hi : i = nI j) (hj : j < n) (hn : n < 2147483648) (hws : ws.set q0 (a, .inl (cA, n, .inr (.inl (vp_updL f j x)))) = ws') (k : gg p l e R s m args below meth c cells slots Q D cl A nL ws' lv (pc + 1) st) : gg p l e R s m args below meth c cells slots Q D cl A nL ws lv pc (.long x :: .int i :: .ref a :: st) := by
  intro H locs ls hP hD hS hl
  subst hi
  refine va_last X.1 X.2.1 X.2.2.2.2.2.1 hP hD hS q0 t0 ha ht (gg_in hj hn) hdg (fun H1 locs1 hP1 hD1 hS1 => ?_)
  rw [nI_clamp (by omega)] at hP1 hD1
  exact k H1 locs1 ls (hws ▸ hP1) (hws ▸ hD1) hS1 hl
theorem gg_astq (X : gx p s m args c cc nL own Ts D cl tys A) {a v : Nat} {ws' : va_W} (hdg : decode cc pc = .ok (.aastore, 1)) (q0 t0 qk ci : Nat) {cA : ClassId} {r : vw_C} {n : Nat} {vs : List Value} {f : Nat → Option Nat} (ha : ws[q0]? = some (a, .inl (cA, n, .inr (.inr (.inr (.inr f)))))) (ht : tys[t0]? = some (cA, .object r.1)) (hv : ws[qk]? = some (v, .inr (ci, vs))) (hc : cl[ci]? = some r) {i : Int32} (j : Nat) (hi : i = nI j) (hj : j < n) (hn : n < 2147483648) (hws : ws.set q0 (a, .inl (cA, n, .inr (.inr (.inr (.inr (va_up f j (some v))))))) = ws') (k : gg p l e R s m args below meth c cells slots Q D cl A nL ws' lv (pc + 1) st) : gg p l e R s m args below meth c cells slots Q D cl A nL ws lv pc (.ref v :: .int i :: .ref a :: st) := by
  intro H locs ls hP hD hS hl
  subst hi
  refine va_astq X.1 X.2.1 X.2.2.2.2.2.1 hP hD hS q0 t0 qk ci ha ht hv hc (gg_in hj hn) hdg (fun H1 locs1 hP1 hD1 hS1 => ?_)
  rw [nI_clamp (by omega)] at hP1 hD1
  exact k H1 locs1 ls (hws ▸ hP1) (hws ▸ hD1) hS1 hl
theorem gg_alen (X : gx p s m args c cc nL own Ts D cl tys A) {a : Nat} (hdg : decode cc pc = .ok (.arraylength, 1)) (q0 t0 : Nat) {cA : ClassId} {x : vp_A} (ha : ws[q0]? = some (a, .inl (cA, x))) {ty : FieldType} (ht : tys[t0]? = some (cA, ty)) {v : Int32} (hv : nI x.1 = v) (k : gg p l e R s m args below meth c cells slots Q D cl A nL ws lv (pc + 1) (.int v :: st)) : gg p l e R s m args below meth c cells slots Q D cl A nL ws lv pc (.ref a :: st) := fun H locs ls hP hD hS hl => va_alen X.1 X.2.1 X.2.2.2.2.2.1 hP q0 t0 ha ht hv hdg (k H locs ls hP hD hS hl)
theorem gg_newa (X : gx p s m args c cc nL own Ts D cl tys A) {atype : ArrayType} (hdg : decode cc pc = .ok (.newarray atype, 2)) {ty : FieldType} (hty : newarray.typeOf atype = ty) (hprim : ∀ Cn, ty ≠ .object Cn) (harr : Cond.arrayClass ty ∈ Ts) (t0 : Nat) {cA : ClassId} (ht : tys[t0]? = some (cA, ty)) {n : Int32} (N' : Nat) {a0 : vp_A} (ha : ∀ cA : ClassId, vp_cell cA a0 = arrV cA N' (fun _ => defaultValue ty)) (hnN : n = nI N') (hN : N' < 2147483648) (hbytes : N' * componentBytes ty ≤ 536870912) (hcells : cells + 1 ≤ R.cells) (hslots : slots + N' ≤ R.slots) (k : ∀ q : Nat, gg p l e R s m args below meth c (cells + 1) (slots + N') Q D cl A nL (ws ++ [(q, .inl (cA, a0))]) lv (pc + 2) (.ref q :: st)) : gg p l e R s m args below meth c cells slots Q D cl A nL ws lv pc (.int n :: st) := by
  intro H locs ls hP hD hS hl
  subst hty
  subst hnN
  refine va_newa X.1 X.2.1 (X.2.2.2.2.1 _ harr) rfl X.2.2.2.2.2.1 hP hD hS X.2.2.2.2.2.2.1 ha (nI_pos (by omega)) (nI_clamp (by omega)) hbytes hcells hslots hdg (fun q cB H1 hK1 hP1 hD1 hS1 => ?_)
  have e1 := (X.2.2.2.2.2.1.2 t0 _ ht).2
  have e2 := (hK1.2 tys.length (cB, newarray.typeOf atype) (by simp)).2
  have e3 : cB = cA := by
    revert hprim e1 e2
    cases atype <;> (intro _ h1 h2; exact Option.some.inj (Eq.trans (Eq.symm (show s.vm.findClass _ = some cB from h2)) (show s.vm.findClass _ = some cA from h1)))
  subst e3
  exact k q H1 locs ls hP1 hD1 hS1 hl
theorem gg_newq (X : gx p s m args c cc nL own Ts D cl tys A) {Cn : String} {index : Nat} (hdg : decode cc pc = .ok (.anewarray index, 3)) (hcl : Cond.classLink own index Cn ∈ Ts) (hao : va_AO Cn s) (t0 : Nat) {cA : ClassId} (ht : tys[t0]? = some (cA, .object Cn)) {n : Int32} (N' : Nat) (hnN : n = nI N') (hN : N' < 2147483648) (hbytes : N' * 4 ≤ 536870912) (hcells : cells + 1 ≤ R.cells) (hslots : slots + N' ≤ R.slots) (k : ∀ q : Nat, gg p l e R s m args below meth c (cells + 1) (slots + N') Q D cl A nL (ws ++ [(q, .inl (cA, N', .inr (.inr (.inr (.inr (fun _ => none))))))]) lv (pc + 3) (.ref q :: st)) : gg p l e R s m args below meth c cells slots Q D cl A nL ws lv pc (.int n :: st) := by
  intro H locs ls hP hD hS hl
  subst hnN
  refine va_newq X.1 X.2.1 X.2.2.2.1 (X.2.2.2.2.1 _ hcl) hao X.2.2.2.2.2.1 hP hD hS X.2.2.2.2.2.2.1 (nI_pos (by omega)) (nI_clamp (by omega)) hbytes hcells hslots hdg (fun q cB H1 hK1 hP1 hD1 hS1 => ?_)
  obtain ⟨_, _, -, -, -, e1⟩ := (X.2.2.2.2.2.1.2 t0 _ ht).2
  obtain ⟨_, _, -, -, -, e2⟩ := (hK1.2 tys.length (cB, .object Cn) (by simp)).2
  have e3 : cB = cA := Option.some.inj (e2.symm.trans e1)
  subst e3
  exact k q H1 locs ls hP1 hD1 hS1 hl
theorem gg_new (X : gx p s m args c cc nL own Ts D cl tys A) {C : String} {T : u_T} {N' ci index : Nat} (hdg : decode cc pc = .ok (.new index, 3)) (hin : ∀ w ∈ u_ws C T N', w ∈ Ts) (ty : Nat → FieldType) (hty : ∀ k, k < N' → parseFieldDescriptor (T k).2.2.1 = some (ty k)) (hcl : Cond.classLink own index C ∈ Ts) (hinst : Cond.instantiable C N' ∈ Ts) (hini : Cond.initialized C ∈ Ts) (hc : cl[ci]? = some (C, T, N')) {fs : List Value} (hfs : ∀ j, j < N' → defaultValue (ty j) = vp_V fs j) (hcells : cells + 1 ≤ R.cells) (hslots : slots + N' ≤ R.slots) (k : ∀ q : Nat, gg p l e R s m args below meth c (cells + 1) (slots + N') Q D cl A nL (ws ++ [(q, .inr (ci, fs))]) lv (pc + 3) (.ref q :: st)) : gg p l e R s m args below meth c cells slots Q D cl A nL ws lv pc st := fun H locs ls hP hD hS hl => va_new X.1 X.2.1 X.2.2.2.2.1 hin ty hty X.2.2.2.1 (X.2.2.2.2.1 _ hcl) (X.2.2.2.2.1 _ hinst) (X.2.2.2.2.1 _ hini) X.2.2.2.2.2.1 hP hD hS X.2.2.2.2.2.2.1 hc hfs hcells hslots hdg (fun q H1 hP1 hD1 hS1 => k q H1 locs ls hP1 hD1 hS1 hl)
theorem gg_objInit (X : gx p s m args c cc nL own Ts D cl tys A) {idx a : Nat} (hdg : decode cc pc = .ok (.invokespecial idx, 3)) (h1 : Cond.methodLink own idx objectInit ∈ Ts) (h2 : Cond.instanceMethod objectInit ∈ Ts) (h3 : Cond.code objectInit ⟨#[0xb1]⟩ 1 none ∈ Ts) (hf : 1 ≤ R.frames) (hlo : (st.map fun v => v.category).sum + 12 ≤ R.locals) (k : gg p l e R s m args below meth c cells slots Q D cl A nL ws lv (pc + 3) st) : gg p l e R s m args below meth c cells slots Q D cl A nL ws lv pc (.ref a :: st) := by
  intro H locs ls hP hD hS hl
  refine W.objInit X.1 X.2.1 X.2.2.2.1 (X.2.2.2.2.1 _ h1) (X.2.2.2.2.1 _ h2) (X.2.2.2.2.1 _ h3) rfl (by rw [X.2.2.1]; exact hl.1) rfl hdg hf ?_ ?_
  · have h9 : (F0 m pc ls (.ref a :: st)).monitorRoom = 0 := rfl
    rw [h9]
    omega
  · exact k H locs ls hP hD hS hl
theorem gg_iret (X : gx p s m args c cc nL own Ts D cl tys A) {S : Type} {wo : S → va_W} {k n : Nat} {post : Int32 → S → Prop} {v : Int32} (hdg : decode cc pc = .ok (.ireturn, 1)) (hr : meth.sig.returnType = some .int) (hk : meth.locks = false) (u : S) (hu : post v u) (hw : ws = wo u) (h1 : cells ≤ k) (h2 : slots ≤ n) : gg p l e R s m args below meth c cells slots (MQ below (qI D cl post wo A) args s k n A) D cl A nL ws lv pc [.int v] := by
  intro H locs ls hP hD hS hl
  subst hw
  refine W.widen h1 h2 ?_
  exact W.iret X.1 X.2.1 hr (fun t ht hW => ⟨⟨v, u, rfl, hu, by rw [ht]; exact hP, hD⟩, hS.F ht⟩) hS.2.2 hdg (hlocks := hk)
theorem gg_zret (X : gx p s m args c cc nL own Ts D cl tys A) {S : Type} {wo : S → va_W} {k n : Nat} {post : Int32 → S → Prop} {v : Int32} (hdg : decode cc pc = .ok (.ireturn, 1)) (hr : meth.sig.returnType = some .boolean) (hk : meth.locks = false) (hn : narrow .boolean (.int v) = .int v) (u : S) (hu : post v u) (hw : ws = wo u) (h1 : cells ≤ k) (h2 : slots ≤ n) : gg p l e R s m args below meth c cells slots (MQ below (qI D cl post wo A) args s k n A) D cl A nL ws lv pc [.int v] := by
  intro H locs ls hP hD hS hl
  subst hw
  refine W.widen h1 h2 ?_
  exact W.zret X.1 X.2.1 hr hn (fun t ht hW => ⟨⟨v, u, rfl, hu, by rw [ht]; exact hP, hD⟩, hS.F ht⟩) hS.2.2 hdg (hlocks := hk)
theorem gg_lret (X : gx p s m args c cc nL own Ts D cl tys A) {S : Type} {wo : S → va_W} {k n : Nat} {post : Int64 → S → Prop} {v : Int64} (hdg : decode cc pc = .ok (.lreturn, 1)) (hr : meth.sig.returnType = some .long) (hk : meth.locks = false) (u : S) (hu : post v u) (hw : ws = wo u) (h1 : cells ≤ k) (h2 : slots ≤ n) : gg p l e R s m args below meth c cells slots (MQ below (qL D cl post wo A) args s k n A) D cl A nL ws lv pc [.long v] := by
  intro H locs ls hP hD hS hl
  subst hw
  refine W.widen h1 h2 ?_
  exact W.lret X.1 X.2.1 hr (fun t ht hW => ⟨⟨v, u, rfl, hu, by rw [ht]; exact hP, hD⟩, hS.F ht⟩) hS.2.2 hdg (hlocks := hk)
theorem gg_vret (X : gx p s m args c cc nL own Ts D cl tys A) {S : Type} {wo : S → va_W} {k n : Nat} {post : S → Prop} (hdg : decode cc pc = .ok (.return_, 1)) (hr : meth.sig.returnType = none) (hk : meth.locks = false) (u : S) (hu : post u) (hw : ws = wo u) (h1 : cells ≤ k) (h2 : slots ≤ n) : gg p l e R s m args below meth c cells slots (MQ below (qV D cl post wo A) args s k n A) D cl A nL ws lv pc [] := by
  intro H locs ls hP hD hS hl
  subst hw
  refine W.widen h1 h2 ?_
  exact W.vret X.1 X.2.1 hr (fun t ht hW => ⟨⟨u, rfl, hu, by rw [ht]; exact hP, hD⟩, hS.F ht⟩) hS.2.2 hdg (hlocks := hk)
theorem gg_aret (X : gx p s m args c cc nL own Ts D cl tys A) {S : Type} {wo : S → va_W} {k n : Nat} {post : Option Nat → S → Prop} {r : Option Nat} {cn : String} (hdg : decode cc pc = .ok (.areturn, 1)) (hr : meth.sig.returnType = some (.object cn)) (hk : meth.locks = false) (u : S) (hu : post r u) (hw : ws = wo u) (h1 : cells ≤ k) (h2 : slots ≤ n) : gg p l e R s m args below meth c cells slots (MQ below (qQ D cl post wo A) args s k n A) D cl A nL ws lv pc [va_rf r] := by
  intro H locs ls hP hD hS hl
  subst hw
  refine W.widen h1 h2 ?_
  exact W.aret X.1 X.2.1 hr (Or.inl ⟨cn, rfl⟩) (va_rf_or r) (fun t ht hW => ⟨⟨r, u, rfl, hu, by rw [ht]; exact hP, hD⟩, hS.F ht⟩) hS.2.2 hdg (hlocks := hk)
end GG
section GR
variable {p : Program} {l : Launch} {e : Env} {R : Room} {s : State} {m : MethodId} {args : Array Value} {below : List Frame} {meth : Method} {c : Code} {cells slots : Nat} {Q : State → Prop}
variable {cc : ByteArray} {nL : Nat} {own : String} {Ts : List Cond} {D : va_G} {cl : List vw_C} {tys : List (ClassId × FieldType)} {A : Nat → Prop} {ws : va_W} {lv : List (Nat × Value)} {pc : Nat} {st : List Value}

variable {y : MethodName} {wds : List Cond} {rm : Room} {As rest : List Value} {QQ : (Nat → Prop) → Array Value → State → Outcome → State → Prop} {wc : va_W} {tyc : List (ClassId × FieldType)} {bytes : ByteArray} {maxL n index b : Nat} {ret : Option FieldType} {C host : String}
theorem gr_V (X : gx p s m args c cc nL own Ts D cl tys A) (hdg : decode cc pc = .ok (.invokevirtual index, 3)) (hK : va_K D cl tyc s) (hM : mG l y wds rm D cl tyc (.ref b :: As) wc QQ) (cw : CallW R s args own C index y bytes maxL ret wds rm rm.cells rm.slots n) {q0 ci : Nat} {r : vw_C} {fs : List Value} (he : wc[q0]? = some (b, .inr (ci, fs))) (hc : cl[ci]? = some r) (hC : r.1 = C) (hn : As.length = n) (hst : st = As.reverse ++ .ref b :: rest) (hroom : (rest.map fun v => v.category).sum ≤ 8) (hf : cells + rm.cells ≤ R.cells ∧ slots + rm.slots ≤ R.slots) : ∀ (H : Heap) (locs : List Loc) (ls : Array Slot), va_P D cl wc H → va_D A wc → lv_has ls nL lv → va_Run p l e R s m args below meth c H locs cells slots rm.cells rm.slots (F0 m pc ls st) rest (QQ (va_A wc H.size) (Value.ref b :: As).toArray) (va_A wc H.size) := by
  intro H locs ls hP hD hl
  subst hst
  subst hC
  exact va_runV ⟨X.1, X.2.1, X.2.2.1, X.2.2.2.1, X.2.2.2.2.1⟩ (hM H.size) cw ⟨gP_blind, va_recv hK hP hc he, gP_at hK X.2.2.2.2.2.2.2 hP hD⟩ rfl hn hl.1 rfl (lv_room hroom) hdg hf
theorem gr_VN (X : gx p s m args c cc nL own Ts D cl tys A) (hdg : decode cc pc = .ok (.invokevirtual index, 3)) (hK : va_K D cl tyc s) (hM : mG l y wds rm D cl tyc (.ref b :: As) wc QQ) (cw : va_CN R s args own index y host bytes maxL ret wds rm rm.cells rm.slots n ∧ (Cond.instanceMethod y).before args s = true ∧ (Cond.selects C y y).before args s = true) {q0 ci : Nat} {r : vw_C} {fs : List Value} (he : wc[q0]? = some (b, .inr (ci, fs))) (hc : cl[ci]? = some r) (hC : r.1 = C) (hn : As.length = n) (hst : st = As.reverse ++ .ref b :: rest) (hroom : (rest.map fun v => v.category).sum ≤ 8) (hf : cells + rm.cells ≤ R.cells ∧ slots + rm.slots ≤ R.slots) : ∀ (H : Heap) (locs : List Loc) (ls : Array Slot), va_P D cl wc H → va_D A wc → lv_has ls nL lv → va_Run p l e R s m args below meth c H locs cells slots rm.cells rm.slots (F0 m pc ls st) rest (QQ (va_A wc H.size) (Value.ref b :: As).toArray) (va_A wc H.size) := by
  intro H locs ls hP hD hl
  subst hst
  subst hC
  exact va_runVN ⟨X.1, X.2.1, X.2.2.1, X.2.2.2.1, X.2.2.2.2.1⟩ (hM H.size) cw ⟨gP_blind, va_recv hK hP hc he, gP_at hK X.2.2.2.2.2.2.2 hP hD⟩ rfl hn hl.1 rfl (lv_room hroom) hdg hf
theorem gr_S (X : gx p s m args c cc nL own Ts D cl tys A) (hdg : decode cc pc = .ok (.invokestatic index, 3)) (hK : va_K D cl tyc s) (hM : mG l y wds rm D cl tyc As wc QQ) (cw : CallB R s args own index y bytes maxL ret wds rm rm.cells rm.slots n ∧ (Cond.static y).before args s = true) (hn : As.length = n) (hst : st = As.reverse ++ rest) (hroom : (rest.map fun v => v.category).sum ≤ 8) (hf : cells + rm.cells ≤ R.cells ∧ slots + rm.slots ≤ R.slots) : ∀ (H : Heap) (locs : List Loc) (ls : Array Slot), va_P D cl wc H → va_D A wc → lv_has ls nL lv → va_Run p l e R s m args below meth c H locs cells slots rm.cells rm.slots (F0 m pc ls st) rest (QQ (va_A wc H.size) As.toArray) (va_A wc H.size) := by
  intro H locs ls hP hD hl
  subst hst
  exact va_runS ⟨X.1, X.2.1, X.2.2.1, X.2.2.2.1, X.2.2.2.2.1⟩ (hM H.size) cw ⟨gP_blind, gP_at hK X.2.2.2.2.2.2.2 hP hD⟩ rfl hn hl.1 rfl (lv_room hroom) hdg hf
theorem gr_SN (X : gx p s m args c cc nL own Ts D cl tys A) (hdg : decode cc pc = .ok (.invokestatic index, 3)) (hK : va_K D cl tyc s) (hM : mG l y wds rm D cl tyc As wc QQ) (cw : va_CN R s args own index y host bytes maxL ret wds rm rm.cells rm.slots n ∧ (Cond.static y).before args s = true ∧ True) (hn : As.length = n) (hst : st = As.reverse ++ rest) (hroom : (rest.map fun v => v.category).sum ≤ 8) (hf : cells + rm.cells ≤ R.cells ∧ slots + rm.slots ≤ R.slots) : ∀ (H : Heap) (locs : List Loc) (ls : Array Slot), va_P D cl wc H → va_D A wc → lv_has ls nL lv → va_Run p l e R s m args below meth c H locs cells slots rm.cells rm.slots (F0 m pc ls st) rest (QQ (va_A wc H.size) As.toArray) (va_A wc H.size) := by
  intro H locs ls hP hD hl
  subst hst
  exact va_runSN ⟨X.1, X.2.1, X.2.2.1, X.2.2.2.1, X.2.2.2.2.1⟩ (hM H.size) cw ⟨gP_blind, gP_at hK X.2.2.2.2.2.2.2 hP hD⟩ rfl hn hl.1 rfl (lv_room hroom) hdg hf
theorem gr_I (X : gx p s m args c cc nL own Ts D cl tys A) (hdg : decode cc pc = .ok (.invokespecial index, 3)) (hK : va_K D cl tyc s) (hM : mG l y wds rm D cl tyc (.ref b :: As) wc QQ) (cw : CallB R s args own index y bytes maxL none wds rm rm.cells rm.slots n ∧ y.name = "<init>" ∧ (Cond.instanceMethod y).before args s = true) (hn : As.length = n) (hst : st = As.reverse ++ .ref b :: rest) (hroom : (rest.map fun v => v.category).sum ≤ 8) (hf : cells + rm.cells ≤ R.cells ∧ slots + rm.slots ≤ R.slots) : ∀ (H : Heap) (locs : List Loc) (ls : Array Slot), va_P D cl wc H → va_D A wc → lv_has ls nL lv → va_Run p l e R s m args below meth c H locs cells slots rm.cells rm.slots (F0 m pc ls st) rest (QQ (va_A wc H.size) (Value.ref b :: As).toArray) (va_A wc H.size) := by
  intro H locs ls hP hD hl
  subst hst
  exact va_runI ⟨X.1, X.2.1, X.2.2.1, X.2.2.2.1, X.2.2.2.2.1⟩ (hM H.size) cw ⟨gP_blind, gP_at hK X.2.2.2.2.2.2.2 hP hD⟩ rfl hn hl.1 rfl (lv_room hroom) hdg hf
theorem gr_IN (X : gx p s m args c cc nL own Ts D cl tys A) (hdg : decode cc pc = .ok (.invokespecial index, 3)) (hK : va_K D cl tyc s) (hM : mG l y wds rm D cl tyc (.ref b :: As) wc QQ) (cw : va_CN R s args own index y host bytes maxL none wds rm rm.cells rm.slots n ∧ y.name = "<init>" ∧ (Cond.instanceMethod y).before args s = true) (hn : As.length = n) (hst : st = As.reverse ++ .ref b :: rest) (hroom : (rest.map fun v => v.category).sum ≤ 8) (hf : cells + rm.cells ≤ R.cells ∧ slots + rm.slots ≤ R.slots) : ∀ (H : Heap) (locs : List Loc) (ls : Array Slot), va_P D cl wc H → va_D A wc → lv_has ls nL lv → va_Run p l e R s m args below meth c H locs cells slots rm.cells rm.slots (F0 m pc ls st) rest (QQ (va_A wc H.size) (Value.ref b :: As).toArray) (va_A wc H.size) := by
  intro H locs ls hP hD hl
  subst hst
  exact va_runIN ⟨X.1, X.2.1, X.2.2.1, X.2.2.2.1, X.2.2.2.2.1⟩ (hM H.size) cw ⟨gP_blind, gP_at hK X.2.2.2.2.2.2.2 hP hD⟩ rfl hn hl.1 rfl (lv_room hroom) hdg hf
end GR
section GC
variable {p : Program} {l : Launch} {e : Env} {R : Room} {s : State} {m : MethodId} {args : Array Value} {below : List Frame} {meth : Method} {c : Code} {cells slots : Nat} {Q : State → Prop}
variable {cc : ByteArray} {nL : Nat} {own : String} {Ts : List Cond} {D : va_G} {cl : List vw_C} {tys : List (ClassId × FieldType)} {A : Nat → Prop} {ws : va_W} {lv : List (Nat × Value)} {pc : Nat} {st : List Value}

variable {S : Type} {wo : S → va_W} {mc ms : Nat} {a : Array Value} {rest : List Value} {wc wr : va_W}
theorem gc_i (X : gx p s m args c cc nL own Ts D cl tys A) {post : Int32 → S → Prop} (hrun : ∀ (H : Heap) (locs : List Loc) (ls : Array Slot), va_P D cl wc H → va_D A wc → lv_has ls nL lv → va_Run p l e R s m args below meth c H locs cells slots mc ms (F0 m pc ls st) rest (qI D cl post wo (va_A wc H.size) a) (va_A wc H.size)) (kk : ∀ r u, post r u → gg p l e R s m args below meth c (cells + mc) (slots + ms) Q D cl A nL (wo u) lv (pc + 3) (.int r :: rest)) : gg p l e R s m args below meth c cells slots Q D cl A nL wc lv pc st := by
  intro H locs ls hP hD hS hl
  have hF : ∀ q, va_A wc H.size q → A q := by
    intro q h
    rcases h with ⟨k, x, h⟩ | h
    · exact hD.2 k _ h
    · exact X.2.2.2.2.2.2.1 q (Nat.le_trans hS.1 h)
  refine va_calli (hrun H locs ls hP hD hl) hS (fun q _ h => hF q h) hF (fun r u t H1 locs1 ht hvm hp hB hz hk hS1 => ?_)
  obtain ⟨hP1, hD1⟩ := hB
  rw [ht] at hP1
  exact kk r u hp H1 locs1 ls hP1 (hD1.weaken (fun k q _ h => hF q.1 h)) hS1 hl
theorem gc_iL (X : gx p s m args c cc nL own Ts D cl tys A) {post : Int32 → S → Prop} (hrun : ∀ (H : Heap) (locs : List Loc) (ls : Array Slot), va_P D cl wc H → va_D A wc → lv_has ls nL lv → va_Run p l e R s m args below meth c H locs cells slots mc ms (F0 m pc ls st) rest (qI D cl post wo (va_A wc H.size) a) (va_A wc H.size)) (kk : ∀ r u, post r u → gg p l e R s m args below meth c (cells + mc) (slots + ms) Q D cl A nL (wo u ++ wr) lv (pc + 3) (.int r :: rest)) : gg p l e R s m args below meth c cells slots Q D cl A nL (wc ++ wr) lv pc st := by
  intro H locs ls hP hD hS hl
  have hF : ∀ q, va_A wc H.size q → A q := by
    intro q h
    rcases h with ⟨k, x, h⟩ | h
    · exact hD.2 _ _ (gj_at1 h)
    · exact X.2.2.2.2.2.2.1 q (Nat.le_trans hS.1 h)
  refine va_calli (hrun H locs ls hP.left hD.left hl) hS (fun q _ h => hF q h) hF (fun r u t H1 locs1 ht hvm hp hB hz hk hS1 => ?_)
  obtain ⟨hP1, hD1⟩ := hB
  rw [ht] at hP1
  obtain ⟨hP2, hD2⟩ := gj_L hP hD hk hF hP1 hD1
  exact kk r u hp H1 locs1 ls hP2 hD2 hS1 hl
theorem gc_iR (X : gx p s m args c cc nL own Ts D cl tys A) {post : Int32 → S → Prop} (hrun : ∀ (H : Heap) (locs : List Loc) (ls : Array Slot), va_P D cl wc H → va_D A wc → lv_has ls nL lv → va_Run p l e R s m args below meth c H locs cells slots mc ms (F0 m pc ls st) rest (qI D cl post wo (va_A wc H.size) a) (va_A wc H.size)) (kk : ∀ r u, post r u → gg p l e R s m args below meth c (cells + mc) (slots + ms) Q D cl A nL (wr ++ wo u) lv (pc + 3) (.int r :: rest)) : gg p l e R s m args below meth c cells slots Q D cl A nL (wr ++ wc) lv pc st := by
  intro H locs ls hP hD hS hl
  have hF : ∀ q, va_A wc H.size q → A q := by
    intro q h
    rcases h with ⟨k, x, h⟩ | h
    · exact hD.2 _ _ (gj_at h)
    · exact X.2.2.2.2.2.2.1 q (Nat.le_trans hS.1 h)
  refine va_calli (hrun H locs ls hP.right hD.right hl) hS (fun q _ h => hF q h) hF (fun r u t H1 locs1 ht hvm hp hB hz hk hS1 => ?_)
  obtain ⟨hP1, hD1⟩ := hB
  rw [ht] at hP1
  obtain ⟨hP2, hD2⟩ := gj_R hP hD hk hF hP1 hD1
  exact kk r u hp H1 locs1 ls hP2 hD2 hS1 hl
theorem gc_l (X : gx p s m args c cc nL own Ts D cl tys A) {post : Int64 → S → Prop} (hrun : ∀ (H : Heap) (locs : List Loc) (ls : Array Slot), va_P D cl wc H → va_D A wc → lv_has ls nL lv → va_Run p l e R s m args below meth c H locs cells slots mc ms (F0 m pc ls st) rest (qL D cl post wo (va_A wc H.size) a) (va_A wc H.size)) (kk : ∀ r u, post r u → gg p l e R s m args below meth c (cells + mc) (slots + ms) Q D cl A nL (wo u) lv (pc + 3) (.long r :: rest)) : gg p l e R s m args below meth c cells slots Q D cl A nL wc lv pc st := by
  intro H locs ls hP hD hS hl
  have hF : ∀ q, va_A wc H.size q → A q := by
    intro q h
    rcases h with ⟨k, x, h⟩ | h
    · exact hD.2 k _ h
    · exact X.2.2.2.2.2.2.1 q (Nat.le_trans hS.1 h)
  refine va_calll (hrun H locs ls hP hD hl) hS (fun q _ h => hF q h) hF (fun r u t H1 locs1 ht hvm hp hB hz hk hS1 => ?_)
  obtain ⟨hP1, hD1⟩ := hB
  rw [ht] at hP1
  exact kk r u hp H1 locs1 ls hP1 (hD1.weaken (fun k q _ h => hF q.1 h)) hS1 hl
theorem gc_lL (X : gx p s m args c cc nL own Ts D cl tys A) {post : Int64 → S → Prop} (hrun : ∀ (H : Heap) (locs : List Loc) (ls : Array Slot), va_P D cl wc H → va_D A wc → lv_has ls nL lv → va_Run p l e R s m args below meth c H locs cells slots mc ms (F0 m pc ls st) rest (qL D cl post wo (va_A wc H.size) a) (va_A wc H.size)) (kk : ∀ r u, post r u → gg p l e R s m args below meth c (cells + mc) (slots + ms) Q D cl A nL (wo u ++ wr) lv (pc + 3) (.long r :: rest)) : gg p l e R s m args below meth c cells slots Q D cl A nL (wc ++ wr) lv pc st := by
  intro H locs ls hP hD hS hl
  have hF : ∀ q, va_A wc H.size q → A q := by
    intro q h
    rcases h with ⟨k, x, h⟩ | h
    · exact hD.2 _ _ (gj_at1 h)
    · exact X.2.2.2.2.2.2.1 q (Nat.le_trans hS.1 h)
  refine va_calll (hrun H locs ls hP.left hD.left hl) hS (fun q _ h => hF q h) hF (fun r u t H1 locs1 ht hvm hp hB hz hk hS1 => ?_)
  obtain ⟨hP1, hD1⟩ := hB
  rw [ht] at hP1
  obtain ⟨hP2, hD2⟩ := gj_L hP hD hk hF hP1 hD1
  exact kk r u hp H1 locs1 ls hP2 hD2 hS1 hl
theorem gc_lR (X : gx p s m args c cc nL own Ts D cl tys A) {post : Int64 → S → Prop} (hrun : ∀ (H : Heap) (locs : List Loc) (ls : Array Slot), va_P D cl wc H → va_D A wc → lv_has ls nL lv → va_Run p l e R s m args below meth c H locs cells slots mc ms (F0 m pc ls st) rest (qL D cl post wo (va_A wc H.size) a) (va_A wc H.size)) (kk : ∀ r u, post r u → gg p l e R s m args below meth c (cells + mc) (slots + ms) Q D cl A nL (wr ++ wo u) lv (pc + 3) (.long r :: rest)) : gg p l e R s m args below meth c cells slots Q D cl A nL (wr ++ wc) lv pc st := by
  intro H locs ls hP hD hS hl
  have hF : ∀ q, va_A wc H.size q → A q := by
    intro q h
    rcases h with ⟨k, x, h⟩ | h
    · exact hD.2 _ _ (gj_at h)
    · exact X.2.2.2.2.2.2.1 q (Nat.le_trans hS.1 h)
  refine va_calll (hrun H locs ls hP.right hD.right hl) hS (fun q _ h => hF q h) hF (fun r u t H1 locs1 ht hvm hp hB hz hk hS1 => ?_)
  obtain ⟨hP1, hD1⟩ := hB
  rw [ht] at hP1
  obtain ⟨hP2, hD2⟩ := gj_R hP hD hk hF hP1 hD1
  exact kk r u hp H1 locs1 ls hP2 hD2 hS1 hl
theorem gc_v (X : gx p s m args c cc nL own Ts D cl tys A) {post : S → Prop} (hrun : ∀ (H : Heap) (locs : List Loc) (ls : Array Slot), va_P D cl wc H → va_D A wc → lv_has ls nL lv → va_Run p l e R s m args below meth c H locs cells slots mc ms (F0 m pc ls st) rest (qV D cl post wo (va_A wc H.size) a) (va_A wc H.size)) (kk : ∀ u, post u → gg p l e R s m args below meth c (cells + mc) (slots + ms) Q D cl A nL (wo u) lv (pc + 3) (rest)) : gg p l e R s m args below meth c cells slots Q D cl A nL wc lv pc st := by
  intro H locs ls hP hD hS hl
  have hF : ∀ q, va_A wc H.size q → A q := by
    intro q h
    rcases h with ⟨k, x, h⟩ | h
    · exact hD.2 k _ h
    · exact X.2.2.2.2.2.2.1 q (Nat.le_trans hS.1 h)
  refine va_callv (hrun H locs ls hP hD hl) hS (fun q _ h => hF q h) hF (fun u t H1 locs1 ht hvm hp hB hz hk hS1 => ?_)
  obtain ⟨hP1, hD1⟩ := hB
  rw [ht] at hP1
  exact kk u hp H1 locs1 ls hP1 (hD1.weaken (fun k q _ h => hF q.1 h)) hS1 hl
theorem gc_vL (X : gx p s m args c cc nL own Ts D cl tys A) {post : S → Prop} (hrun : ∀ (H : Heap) (locs : List Loc) (ls : Array Slot), va_P D cl wc H → va_D A wc → lv_has ls nL lv → va_Run p l e R s m args below meth c H locs cells slots mc ms (F0 m pc ls st) rest (qV D cl post wo (va_A wc H.size) a) (va_A wc H.size)) (kk : ∀ u, post u → gg p l e R s m args below meth c (cells + mc) (slots + ms) Q D cl A nL (wo u ++ wr) lv (pc + 3) (rest)) : gg p l e R s m args below meth c cells slots Q D cl A nL (wc ++ wr) lv pc st := by
  intro H locs ls hP hD hS hl
  have hF : ∀ q, va_A wc H.size q → A q := by
    intro q h
    rcases h with ⟨k, x, h⟩ | h
    · exact hD.2 _ _ (gj_at1 h)
    · exact X.2.2.2.2.2.2.1 q (Nat.le_trans hS.1 h)
  refine va_callv (hrun H locs ls hP.left hD.left hl) hS (fun q _ h => hF q h) hF (fun u t H1 locs1 ht hvm hp hB hz hk hS1 => ?_)
  obtain ⟨hP1, hD1⟩ := hB
  rw [ht] at hP1
  obtain ⟨hP2, hD2⟩ := gj_L hP hD hk hF hP1 hD1
  exact kk u hp H1 locs1 ls hP2 hD2 hS1 hl
theorem gc_vR (X : gx p s m args c cc nL own Ts D cl tys A) {post : S → Prop} (hrun : ∀ (H : Heap) (locs : List Loc) (ls : Array Slot), va_P D cl wc H → va_D A wc → lv_has ls nL lv → va_Run p l e R s m args below meth c H locs cells slots mc ms (F0 m pc ls st) rest (qV D cl post wo (va_A wc H.size) a) (va_A wc H.size)) (kk : ∀ u, post u → gg p l e R s m args below meth c (cells + mc) (slots + ms) Q D cl A nL (wr ++ wo u) lv (pc + 3) (rest)) : gg p l e R s m args below meth c cells slots Q D cl A nL (wr ++ wc) lv pc st := by
  intro H locs ls hP hD hS hl
  have hF : ∀ q, va_A wc H.size q → A q := by
    intro q h
    rcases h with ⟨k, x, h⟩ | h
    · exact hD.2 _ _ (gj_at h)
    · exact X.2.2.2.2.2.2.1 q (Nat.le_trans hS.1 h)
  refine va_callv (hrun H locs ls hP.right hD.right hl) hS (fun q _ h => hF q h) hF (fun u t H1 locs1 ht hvm hp hB hz hk hS1 => ?_)
  obtain ⟨hP1, hD1⟩ := hB
  rw [ht] at hP1
  obtain ⟨hP2, hD2⟩ := gj_R hP hD hk hF hP1 hD1
  exact kk u hp H1 locs1 ls hP2 hD2 hS1 hl
theorem gc_q (X : gx p s m args c cc nL own Ts D cl tys A) {post : Option Nat → S → Prop} (hrun : ∀ (H : Heap) (locs : List Loc) (ls : Array Slot), va_P D cl wc H → va_D A wc → lv_has ls nL lv → va_Run p l e R s m args below meth c H locs cells slots mc ms (F0 m pc ls st) rest (qQ D cl post wo (va_A wc H.size) a) (va_A wc H.size)) (kk : ∀ r u, post r u → gg p l e R s m args below meth c (cells + mc) (slots + ms) Q D cl A nL (wo u) lv (pc + 3) (va_rf r :: rest)) : gg p l e R s m args below meth c cells slots Q D cl A nL wc lv pc st := by
  intro H locs ls hP hD hS hl
  have hF : ∀ q, va_A wc H.size q → A q := by
    intro q h
    rcases h with ⟨k, x, h⟩ | h
    · exact hD.2 k _ h
    · exact X.2.2.2.2.2.2.1 q (Nat.le_trans hS.1 h)
  refine va_callq (hrun H locs ls hP hD hl) hS (fun q _ h => hF q h) hF (fun r u t H1 locs1 ht hvm hp hB hz hk hS1 => ?_)
  obtain ⟨hP1, hD1⟩ := hB
  rw [ht] at hP1
  exact kk r u hp H1 locs1 ls hP1 (hD1.weaken (fun k q _ h => hF q.1 h)) hS1 hl
theorem gc_qL (X : gx p s m args c cc nL own Ts D cl tys A) {post : Option Nat → S → Prop} (hrun : ∀ (H : Heap) (locs : List Loc) (ls : Array Slot), va_P D cl wc H → va_D A wc → lv_has ls nL lv → va_Run p l e R s m args below meth c H locs cells slots mc ms (F0 m pc ls st) rest (qQ D cl post wo (va_A wc H.size) a) (va_A wc H.size)) (kk : ∀ r u, post r u → gg p l e R s m args below meth c (cells + mc) (slots + ms) Q D cl A nL (wo u ++ wr) lv (pc + 3) (va_rf r :: rest)) : gg p l e R s m args below meth c cells slots Q D cl A nL (wc ++ wr) lv pc st := by
  intro H locs ls hP hD hS hl
  have hF : ∀ q, va_A wc H.size q → A q := by
    intro q h
    rcases h with ⟨k, x, h⟩ | h
    · exact hD.2 _ _ (gj_at1 h)
    · exact X.2.2.2.2.2.2.1 q (Nat.le_trans hS.1 h)
  refine va_callq (hrun H locs ls hP.left hD.left hl) hS (fun q _ h => hF q h) hF (fun r u t H1 locs1 ht hvm hp hB hz hk hS1 => ?_)
  obtain ⟨hP1, hD1⟩ := hB
  rw [ht] at hP1
  obtain ⟨hP2, hD2⟩ := gj_L hP hD hk hF hP1 hD1
  exact kk r u hp H1 locs1 ls hP2 hD2 hS1 hl
theorem gc_qR (X : gx p s m args c cc nL own Ts D cl tys A) {post : Option Nat → S → Prop} (hrun : ∀ (H : Heap) (locs : List Loc) (ls : Array Slot), va_P D cl wc H → va_D A wc → lv_has ls nL lv → va_Run p l e R s m args below meth c H locs cells slots mc ms (F0 m pc ls st) rest (qQ D cl post wo (va_A wc H.size) a) (va_A wc H.size)) (kk : ∀ r u, post r u → gg p l e R s m args below meth c (cells + mc) (slots + ms) Q D cl A nL (wr ++ wo u) lv (pc + 3) (va_rf r :: rest)) : gg p l e R s m args below meth c cells slots Q D cl A nL (wr ++ wc) lv pc st := by
  intro H locs ls hP hD hS hl
  have hF : ∀ q, va_A wc H.size q → A q := by
    intro q h
    rcases h with ⟨k, x, h⟩ | h
    · exact hD.2 _ _ (gj_at h)
    · exact X.2.2.2.2.2.2.1 q (Nat.le_trans hS.1 h)
  refine va_callq (hrun H locs ls hP.right hD.right hl) hS (fun q _ h => hF q h) hF (fun r u t H1 locs1 ht hvm hp hB hz hk hS1 => ?_)
  obtain ⟨hP1, hD1⟩ := hB
  rw [ht] at hP1
  obtain ⟨hP2, hD2⟩ := gj_R hP hD hk hF hP1 hD1
  exact kk r u hp H1 locs1 ls hP2 hD2 hS1 hl
end GC
end
section
/-- what a boolean is on the machine -/
def bI (b : Bool) : Int32 := if b = true then 1 else 0
/-- the pool's rows: a thing and its values, row by row -/
def tl (cJ : ClassId) (th ar sz : Nat → Nat) (rc : Nat → Bool) (vs : Nat → Nat → Int64) : Nat → va_W
  | 0 => []
  | n + 1 => tl cJ th ar sz rc vs n ++ [(th n, .inr (1, [.ref (ar n), .int (nI (sz n)), .int (bI (rc n))])), (ar n, .inl (cJ, 20, .inr (.inl (vs n))))]
theorem tl_len {cJ : ClassId} {th ar sz : Nat → Nat} {rc : Nat → Bool} {vs : Nat → Nat → Int64} (n : Nat) : (tl cJ th ar sz rc vs n).length = 2 * n := by
  induction n with
  | zero => rfl
  | succ n ih => simp only [tl, List.length_append, ih, List.length_cons, List.length_nil]; omega
theorem tl_th {cJ : ClassId} {th ar sz : Nat → Nat} {rc : Nat → Bool} {vs : Nat → Nat → Int64} {n i : Nat} (h : i < n) : (tl cJ th ar sz rc vs n)[2 * i]? = some (th i, .inr (1, [.ref (ar i), .int (nI (sz i)), .int (bI (rc i))])) := by
  induction n with
  | zero => omega
  | succ n ih =>
    by_cases hi : i < n
    · simp only [tl]
      rw [List.getElem?_append_left (by rw [tl_len]; omega)]
      exact ih hi
    · have hin : i = n := by omega
      subst hin
      simp only [tl]
      rw [List.getElem?_append_right (by rw [tl_len]; omega), tl_len, Nat.sub_self]
      rfl
theorem tl_ar {cJ : ClassId} {th ar sz : Nat → Nat} {rc : Nat → Bool} {vs : Nat → Nat → Int64} {n i : Nat} (h : i < n) : (tl cJ th ar sz rc vs n)[2 * i + 1]? = some (ar i, .inl (cJ, 20, .inr (.inl (vs i)))) := by
  induction n with
  | zero => omega
  | succ n ih =>
    by_cases hi : i < n
    · simp only [tl]
      rw [List.getElem?_append_left (by rw [tl_len]; omega)]
      exact ih hi
    · have hin : i = n := by omega
      subst hin
      simp only [tl]
      rw [List.getElem?_append_right (by rw [tl_len]; omega), tl_len, show 2 * i + 1 - 2 * i = 1 by omega]
      rfl
theorem tl_congr {cJ : ClassId} {th ar sz th' ar' sz' : Nat → Nat} {rc rc' : Nat → Bool} {vs vs' : Nat → Nat → Int64} {n : Nat} (h : ∀ i, i < n → th i = th' i ∧ ar i = ar' i ∧ sz i = sz' i ∧ rc i = rc' i ∧ vs i = vs' i) : tl cJ th ar sz rc vs n = tl cJ th' ar' sz' rc' vs' n := by
  induction n with
  | zero => rfl
  | succ n ih =>
    obtain ⟨h1, h2, h3, h4, h5⟩ := h n (Nat.lt_succ_self n)
    simp only [tl]
    rw [ih (fun i hi => h i (Nat.lt_succ_of_lt hi)), h1, h2, h3, h4, h5]
theorem tl_setT {cJ : ClassId} {th ar sz : Nat → Nat} {rc : Nat → Bool} {vs : Nat → Nat → Int64} {n i : Nat} (z : Nat) (b : Bool) (h : i < n) : (tl cJ th ar sz rc vs n).set (2 * i) (th i, .inr (1, [.ref (ar i), .int (nI z), .int (bI b)])) = tl cJ th ar (va_up sz i z) (va_up rc i b) vs n := by
  induction n with
  | zero => omega
  | succ n ih =>
    simp only [tl]
    rw [List.set_append, tl_len]
    by_cases hi : i < n
    · rw [if_pos (by omega), ih hi, va_up_ne _ _ (show n ≠ i by omega), va_up_ne _ _ (show n ≠ i by omega)]
    · have hin : i = n := by omega
      subst hin
      rw [if_neg (by omega), Nat.sub_self, va_up_self, va_up_self]
      rw [tl_congr (th' := th) (ar' := ar) (sz' := va_up sz i z) (rc' := va_up rc i b) (vs' := vs) (fun k hk => ⟨rfl, rfl, (va_up_ne _ _ (show k ≠ i by omega)).symm, (va_up_ne _ _ (show k ≠ i by omega)).symm, rfl⟩)]
      rfl
theorem tl_setA {cJ : ClassId} {th ar sz : Nat → Nat} {rc : Nat → Bool} {vs : Nat → Nat → Int64} {n i : Nat} (g : Nat → Int64) (h : i < n) : (tl cJ th ar sz rc vs n).set (2 * i + 1) (ar i, .inl (cJ, 20, .inr (.inl g))) = tl cJ th ar sz rc (va_up vs i g) n := by
  induction n with
  | zero => omega
  | succ n ih =>
    simp only [tl]
    rw [List.set_append, tl_len]
    by_cases hi : i < n
    · rw [if_pos (by omega), ih hi, va_up_ne _ _ (show n ≠ i by omega)]
    · have hin : i = n := by omega
      subst hin
      rw [if_neg (by omega), show 2 * i + 1 - 2 * i = 1 by omega, va_up_self]
      rw [tl_congr (th' := th) (ar' := ar) (sz' := sz) (rc' := rc) (vs' := va_up vs i g) (fun k hk => ⟨rfl, rfl, rfl, rfl, (va_up_ne _ _ (show k ≠ i by omega)).symm⟩)]
      rfl
/-! the class: what stays (addresses, array kinds, rows, cells) and what moves -/
abbrev CF : Type := Nat × Nat × Nat × Nat × Nat × Nat × ClassId × ClassId × Nat × Nat
def kH (F : CF) : Nat := F.1
def kR (F : CF) : Nat := F.2.1
def kS (F : CF) : Nat := F.2.2.1
def kM (F : CF) : Nat := F.2.2.2.1
def kW (F : CF) : Nat := F.2.2.2.2.1
def kE (F : CF) : Nat := F.2.2.2.2.2.1
def kJ (F : CF) : ClassId := F.2.2.2.2.2.2.1
def kT (F : CF) : ClassId := F.2.2.2.2.2.2.2.1
def kN (F : CF) : Nat := F.2.2.2.2.2.2.2.2.1
def kC (F : CF) : Nat := F.2.2.2.2.2.2.2.2.2
abbrev CS : Type := (Nat → Int64) × (Nat → Int64) × Nat × Nat × Nat × Nat × (Nat → Nat) × (Nat → Nat) × (Nat → Nat) × (Nat → Bool) × (Nat → Nat → Int64) × Nat × Nat × (Nat → Option Nat)
def rG (u : CS) : Nat → Int64 := u.1
def sK (u : CS) : Nat → Int64 := u.2.1
def sT (u : CS) : Nat := u.2.2.1
def mD (u : CS) : Nat := u.2.2.2.1
def fU (u : CS) : Nat := u.2.2.2.2.1
def nU (u : CS) : Nat := u.2.2.2.2.2.1
def tH (u : CS) : Nat → Nat := u.2.2.2.2.2.2.1
def aR (u : CS) : Nat → Nat := u.2.2.2.2.2.2.2.1
def sZ (u : CS) : Nat → Nat := u.2.2.2.2.2.2.2.2.1
def rC (u : CS) : Nat → Bool := u.2.2.2.2.2.2.2.2.2.1
def vS (u : CS) : Nat → Nat → Int64 := u.2.2.2.2.2.2.2.2.2.2.1
def rO (u : CS) : Nat := u.2.2.2.2.2.2.2.2.2.2.2.1
def rL (u : CS) : Nat := u.2.2.2.2.2.2.2.2.2.2.2.2.1
def rE (u : CS) : Nat → Option Nat := u.2.2.2.2.2.2.2.2.2.2.2.2.2
def uR (u : CS) (g : Nat → Int64) : CS := (g, sK u, sT u, mD u, fU u, nU u, tH u, aR u, sZ u, rC u, vS u, rO u, rL u, rE u)
def uS (u : CS) (g : Nat → Int64) : CS := (rG u, g, sT u, mD u, fU u, nU u, tH u, aR u, sZ u, rC u, vS u, rO u, rL u, rE u)
def uT (u : CS) (k : Nat) : CS := (rG u, sK u, k, mD u, fU u, nU u, tH u, aR u, sZ u, rC u, vS u, rO u, rL u, rE u)
def uM (u : CS) (k : Nat) : CS := (rG u, sK u, sT u, k, fU u, nU u, tH u, aR u, sZ u, rC u, vS u, rO u, rL u, rE u)
def uF (u : CS) (k : Nat) : CS := (rG u, sK u, sT u, mD u, k, nU u, tH u, aR u, sZ u, rC u, vS u, rO u, rL u, rE u)
def uP (u : CS) (n : Nat) (th ar sz : Nat → Nat) (rc : Nat → Bool) (vs : Nat → Nat → Int64) : CS := (rG u, sK u, sT u, mD u, fU u, n, th, ar, sz, rc, vs, rO u, rL u, rE u)
def uZ (u : CS) (sz : Nat → Nat) (rc : Nat → Bool) (vs : Nat → Nat → Int64) : CS := (rG u, sK u, sT u, mD u, fU u, nU u, tH u, aR u, sz, rc, vs, rO u, rL u, rE u)
def uO (u : CS) (o r : Nat) (q : Nat → Option Nat) : CS := (rG u, sK u, sT u, mD u, fU u, nU u, tH u, aR u, sZ u, rC u, vS u, o, r, q)
/-- what the rows' array holds -/
def rW (n : Nat) (th : Nat → Nat) : Nat → Option Nat := fun i => if i < n then some (th i) else none
def cW (F : CF) (u : CS) : va_W :=
  (kH F, .inr (2, [.int (nI (kC F)), .ref (kR F), .ref (kS F), .ref (kM F), .int (nI (sT u)), .int (nI (mD u)), .int (nI (fU u))])) ::
  (kR F, .inl (kJ F, 10, .inr (.inl (rG u)))) :: (kS F, .inl (kJ F, 50, .inr (.inl (sK u)))) ::
  (kM F, .inr (0, [.ref (kW F), .ref (kE F), .int (nI (rO u)), .int (nI (rL u))])) ::
  (kW F, .inl (kT F, kN F, .inr (.inr (.inr (.inr (rW (nU u) (tH u))))))) :: (kE F, .inl (kT F, kN F, .inr (.inr (.inr (.inr (rE u)))))) ::
  tl (kJ F) (tH u) (aR u) (sZ u) (rC u) (vS u) (nU u)
abbrev cT (F : CF) : List (ClassId × FieldType) := [(kJ F, .long), (kT F, .object "SliceHeap$Thing")]
theorem cW_th (F : CF) (u : CS) {i : Nat} (h : i < nU u) : (cW F u)[2 * i + 6]? = some (tH u i, .inr (1, [.ref (aR u i), .int (nI (sZ u i)), .int (bI (rC u i))])) := tl_th h
theorem cW_ar (F : CF) (u : CS) {i : Nat} (h : i < nU u) : (cW F u)[2 * i + 7]? = some (aR u i, .inl (kJ F, 20, .inr (.inl (vS u i)))) := tl_ar h
theorem cW_setT (F : CF) (u : CS) {i : Nat} (z : Nat) (b : Bool) (h : i < nU u) : (cW F u).set (2 * i + 6) (tH u i, .inr (1, [.ref (aR u i), .int (nI z), .int (bI b)])) = cW F (uZ u (va_up (sZ u) i z) (va_up (rC u) i b) (vS u)) := by
  show _ :: _ :: _ :: _ :: _ :: _ :: (tl (kJ F) (tH u) (aR u) (sZ u) (rC u) (vS u) (nU u)).set (2 * i) _ = _
  rw [tl_setT z b h]
  rfl
theorem cW_setA (F : CF) (u : CS) {i : Nat} (g : Nat → Int64) (h : i < nU u) : (cW F u).set (2 * i + 7) (aR u i, .inl (kJ F, 20, .inr (.inl g))) = cW F (uZ u (sZ u) (rC u) (va_up (vS u) i g)) := by
  show _ :: _ :: _ :: _ :: _ :: _ :: (tl (kJ F) (tH u) (aR u) (sZ u) (rC u) (vS u) (nU u)).set (2 * i + 1) _ = _
  rw [tl_setA g h]
  rfl
theorem cW_congr (F : CF) (u v : CS) (h1 : rG u = rG v) (h2 : sK u = sK v) (h3 : sT u = sT v) (h4 : mD u = mD v) (h5 : fU u = fU v) (h6 : nU u = nU v) (h7 : rO u = rO v) (h8 : rL u = rL v) (h9 : rE u = rE v) (h : ∀ i, i < nU u → tH u i = tH v i ∧ aR u i = aR v i ∧ sZ u i = sZ v i ∧ rC u i = rC v i ∧ vS u i = vS v i) : cW F u = cW F v := by
  have e : rW (nU u) (tH u) = rW (nU v) (tH v) := by
    rw [← h6]
    funext i
    unfold rW
    by_cases hi : i < nU u
    · rw [if_pos hi, if_pos hi, (h i hi).1]
    · rw [if_neg hi, if_neg hi]
  unfold cW
  rw [h1, h2, h3, h4, h5, h7, h8, h9, e, tl_congr h, h6]
/-! the reference -/
abbrev DF : Type := Nat × Nat × Nat × Nat × Nat × ClassId × ClassId × ClassId × Nat
def dH (F : DF) : Nat := F.1
def dK (F : DF) : Nat := F.2.1
def dV (F : DF) : Nat := F.2.2.1
def dS (F : DF) : Nat := F.2.2.2.1
def dR (F : DF) : Nat := F.2.2.2.2.1
def dB (F : DF) : ClassId := F.2.2.2.2.2.1
def dI (F : DF) : ClassId := F.2.2.2.2.2.2.1
def dZ (F : DF) : ClassId := F.2.2.2.2.2.2.2.1
def dC (F : DF) : Nat := F.2.2.2.2.2.2.2.2
abbrev DS : Type := (Nat → Int32) × (Nat → Int32) × Nat × Nat × Nat × (Nat → Nat) × (Nat → Bool)
def gK (u : DS) : Nat → Int32 := u.1
def gV (u : DS) : Nat → Int32 := u.2.1
def gT (u : DS) : Nat := u.2.2.1
def gM (u : DS) : Nat := u.2.2.2.1
def gF (u : DS) : Nat := u.2.2.2.2.1
def gS (u : DS) : Nat → Nat := u.2.2.2.2.2.1
def gR (u : DS) : Nat → Bool := u.2.2.2.2.2.2
def wV (u : DS) (k v : Nat → Int32) : DS := (k, v, gT u, gM u, gF u, gS u, gR u)
def wT (u : DS) (n : Nat) : DS := (gK u, gV u, n, gM u, gF u, gS u, gR u)
def wM (u : DS) (n : Nat) : DS := (gK u, gV u, gT u, n, gF u, gS u, gR u)
def wF (u : DS) (n : Nat) : DS := (gK u, gV u, gT u, gM u, n, gS u, gR u)
def wS (u : DS) (f : Nat → Nat) : DS := (gK u, gV u, gT u, gM u, gF u, f, gR u)
def wR (u : DS) (f : Nat → Bool) : DS := (gK u, gV u, gT u, gM u, gF u, gS u, f)
def dW (F : DF) (u : DS) : va_W :=
  (dH F, .inr (3, [.int (nI (dC F)), .ref (dK F), .ref (dV F), .int (nI (gT u)), .int (nI (gM u)), .ref (dS F), .ref (dR F), .int (nI (gF u))])) ::
  (dK F, .inl (dB F, 10460, .inl (gK u))) :: (dV F, .inl (dI F, 10460, .inl (gV u))) ::
  (dS F, .inl (dI F, 520, .inl (fun j => nI (gS u j)))) :: (dR F, .inl (dZ F, 520, .inl (fun j => bI (gR u j)))) :: []
abbrev dT (F : DF) : List (ClassId × FieldType) := [(dB F, .byte), (dI F, .int), (dZ F, .boolean)]
theorem upd_nI (f : Nat → Nat) (k z : Nat) : upd (fun j => nI (f j)) k (nI z) = fun j => nI (va_up f k z j) := by
  funext j
  by_cases h : j = k
  · subst h; rw [pk_us, va_up_self]
  · rw [pk_un h, va_up_ne _ _ h]
theorem upd_bI (f : Nat → Bool) (k : Nat) (z : Bool) : upd (fun j => bI (f j)) k (bI z) = fun j => bI (va_up f k z j) := by
  funext j
  by_cases h : j = k
  · subst h; rw [pk_us, va_up_self]
  · rw [pk_un h, va_up_ne _ _ h]
theorem bI_t : bI true = 1 := rfl
theorem bI_f : bI false = 0 := rfl
theorem bI_0 {b : Bool} (h : bI b = 0) : b = false := by
  cases b
  · rfl
  · exact absurd h (by decide)
theorem bI_1 {b : Bool} (h : ¬ bI b = 0) : b = true := by
  cases b
  · exact absurd rfl h
  · rfl
/-- a register, as the calls name it -/
def isR (r : Int32) : Prop := ∃ j : Nat, j < 10 ∧ r = nI j
/-- an object as a value -/
def oB (i : Nat) : Int64 := lN (4294967297 + i)
/-- no object, no number -/
def nO : Int64 := lN 4294967296
end
