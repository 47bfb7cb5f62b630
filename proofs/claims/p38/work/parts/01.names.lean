-- ===== PART A: goes FIRST, ahead of the names: the tables' words, and 'selects' of the private methods out of them =====
/-- a private method of a class that the tables say can be made, by its rows of tables_1 -/
def lw_okq (q : MethodName × Nat) : Prop := (q.1.cls ≠ "java/lang/invoke/MethodHandle" ∧ q.1.cls ≠ "java/lang/invoke/VarHandle") ∧ Cond.instantiable q.1.cls q.2 ∈ tables_1 ∧ Cond.privateMethod q.1 ∈ tables_1 ∧ Cond.instanceMethod q.1 ∈ tables_1
theorem lw_p0 : lw_okq (⟨"ShapeMoves", "isPoint", "(I)Z"⟩, 9) := ⟨⟨by decide +kernel, by decide +kernel⟩, List.mem_of_getElem? (i := 19) (by decide +kernel), List.mem_of_getElem? (i := 17) (by decide +kernel), List.mem_of_getElem? (i := 18) (by decide +kernel)⟩
theorem lw_p1 : lw_okq (⟨"ShapeMoves", "groupNow", "()LShapeMoves$Group;"⟩, 9) := ⟨⟨by decide +kernel, by decide +kernel⟩, List.mem_of_getElem? (i := 19) (by decide +kernel), List.mem_of_getElem? (i := 40) (by decide +kernel), List.mem_of_getElem? (i := 41) (by decide +kernel)⟩
theorem lw_p2 : lw_okq (⟨"ShapeMoves$Shape", "isMovedBy", "(II)Z"⟩, 3) := ⟨⟨by decide +kernel, by decide +kernel⟩, List.mem_of_getElem? (i := 54) (by decide +kernel), List.mem_of_getElem? (i := 52) (by decide +kernel), List.mem_of_getElem? (i := 53) (by decide +kernel)⟩
theorem lw_p3 : lw_okq (⟨"ShapeMoves$Shape", "axisBehind", "(III)I"⟩, 3) := ⟨⟨by decide +kernel, by decide +kernel⟩, List.mem_of_getElem? (i := 54) (by decide +kernel), List.mem_of_getElem? (i := 61) (by decide +kernel), List.mem_of_getElem? (i := 62) (by decide +kernel)⟩
theorem lw_p4 : lw_okq (⟨"ShapeMoves$Group", "findOrbits", "(LShapeMoves$Shape;)V"⟩, 13) := ⟨⟨by decide +kernel, by decide +kernel⟩, List.mem_of_getElem? (i := 79) (by decide +kernel), List.mem_of_getElem? (i := 77) (by decide +kernel), List.mem_of_getElem? (i := 78) (by decide +kernel)⟩
theorem lw_p5 : lw_okq (⟨"ShapeMoves$Group", "findOrbit", "(LShapeMoves$Shape;I)V"⟩, 13) := ⟨⟨by decide +kernel, by decide +kernel⟩, List.mem_of_getElem? (i := 79) (by decide +kernel), List.mem_of_getElem? (i := 82) (by decide +kernel), List.mem_of_getElem? (i := 83) (by decide +kernel)⟩
theorem lw_p6 : lw_okq (⟨"ShapeMoves$Group", "findClasses", "()V"⟩, 13) := ⟨⟨by decide +kernel, by decide +kernel⟩, List.mem_of_getElem? (i := 79) (by decide +kernel), List.mem_of_getElem? (i := 90) (by decide +kernel), List.mem_of_getElem? (i := 91) (by decide +kernel)⟩
theorem lw_p7 : lw_okq (⟨"ShapeMoves$Group", "findClass", "(I)V"⟩, 13) := ⟨⟨by decide +kernel, by decide +kernel⟩, List.mem_of_getElem? (i := 79) (by decide +kernel), List.mem_of_getElem? (i := 94) (by decide +kernel), List.mem_of_getElem? (i := 95) (by decide +kernel)⟩
theorem lw_p8 : lw_okq (⟨"ShapeMoves$Group", "findSigns", "()V"⟩, 13) := ⟨⟨by decide +kernel, by decide +kernel⟩, List.mem_of_getElem? (i := 79) (by decide +kernel), List.mem_of_getElem? (i := 153) (by decide +kernel), List.mem_of_getElem? (i := 154) (by decide +kernel)⟩
theorem lw_p9 : lw_okq (⟨"ShapeMoves$Group", "findMadeOfSquares", "()V"⟩, 13) := ⟨⟨by decide +kernel, by decide +kernel⟩, List.mem_of_getElem? (i := 79) (by decide +kernel), List.mem_of_getElem? (i := 157) (by decide +kernel), List.mem_of_getElem? (i := 158) (by decide +kernel)⟩
theorem lw_p10 : lw_okq (⟨"ShapeMoves$Group", "reach", "(II)V"⟩, 13) := ⟨⟨by decide +kernel, by decide +kernel⟩, List.mem_of_getElem? (i := 79) (by decide +kernel), List.mem_of_getElem? (i := 161) (by decide +kernel), List.mem_of_getElem? (i := 162) (by decide +kernel)⟩
theorem lw_p11 : lw_okq (⟨"ShapeMoves$Group", "addFree", "(I)V"⟩, 13) := ⟨⟨by decide +kernel, by decide +kernel⟩, List.mem_of_getElem? (i := 79) (by decide +kernel), List.mem_of_getElem? (i := 165) (by decide +kernel), List.mem_of_getElem? (i := 166) (by decide +kernel)⟩
theorem lw_p12 : lw_okq (⟨"ShapeMoves", "nearest", "(LShapeMoves$Group;)I"⟩, 9) := ⟨⟨by decide +kernel, by decide +kernel⟩, List.mem_of_getElem? (i := 19) (by decide +kernel), List.mem_of_getElem? (i := 169) (by decide +kernel), List.mem_of_getElem? (i := 170) (by decide +kernel)⟩
theorem lw_p13 : lw_okq (⟨"ShapeMoves", "isAllAsSeen", "(LShapeMoves$Shape;)Z"⟩, 9) := ⟨⟨by decide +kernel, by decide +kernel⟩, List.mem_of_getElem? (i := 19) (by decide +kernel), List.mem_of_getElem? (i := 201) (by decide +kernel), List.mem_of_getElem? (i := 202) (by decide +kernel)⟩
theorem lw_p14 : lw_okq (⟨"ShapeMoves$Shape", "replaceMark", "(I)V"⟩, 3) := ⟨⟨by decide +kernel, by decide +kernel⟩, List.mem_of_getElem? (i := 54) (by decide +kernel), List.mem_of_getElem? (i := 246) (by decide +kernel), List.mem_of_getElem? (i := 247) (by decide +kernel)⟩
theorem lw_p15 : lw_okq (⟨"ShapeMoves$Shape", "takeBy", "(I)V"⟩, 3) := ⟨⟨by decide +kernel, by decide +kernel⟩, List.mem_of_getElem? (i := 54) (by decide +kernel), List.mem_of_getElem? (i := 250) (by decide +kernel), List.mem_of_getElem? (i := 251) (by decide +kernel)⟩
def lw_privs_1 : List (MethodName × Nat) := [(⟨"ShapeMoves", "isPoint", "(I)Z"⟩, 9), (⟨"ShapeMoves", "groupNow", "()LShapeMoves$Group;"⟩, 9), (⟨"ShapeMoves$Shape", "isMovedBy", "(II)Z"⟩, 3), (⟨"ShapeMoves$Shape", "axisBehind", "(III)I"⟩, 3), (⟨"ShapeMoves$Group", "findOrbits", "(LShapeMoves$Shape;)V"⟩, 13), (⟨"ShapeMoves$Group", "findOrbit", "(LShapeMoves$Shape;I)V"⟩, 13), (⟨"ShapeMoves$Group", "findClasses", "()V"⟩, 13), (⟨"ShapeMoves$Group", "findClass", "(I)V"⟩, 13), (⟨"ShapeMoves$Group", "findSigns", "()V"⟩, 13), (⟨"ShapeMoves$Group", "findMadeOfSquares", "()V"⟩, 13), (⟨"ShapeMoves$Group", "reach", "(II)V"⟩, 13), (⟨"ShapeMoves$Group", "addFree", "(I)V"⟩, 13), (⟨"ShapeMoves", "nearest", "(LShapeMoves$Group;)I"⟩, 9), (⟨"ShapeMoves", "isAllAsSeen", "(LShapeMoves$Shape;)Z"⟩, 9), (⟨"ShapeMoves$Shape", "replaceMark", "(I)V"⟩, 3), (⟨"ShapeMoves$Shape", "takeBy", "(I)V"⟩, 3)]
theorem lw_r1 : ∀ q ∈ lw_privs_1, lw_okq q := List.forall_mem_cons.mpr ⟨lw_p0, List.forall_mem_cons.mpr ⟨lw_p1, List.forall_mem_cons.mpr ⟨lw_p2, List.forall_mem_cons.mpr ⟨lw_p3, List.forall_mem_cons.mpr ⟨lw_p4, List.forall_mem_cons.mpr ⟨lw_p5, List.forall_mem_cons.mpr ⟨lw_p6, List.forall_mem_cons.mpr ⟨lw_p7, List.forall_mem_cons.mpr ⟨lw_p8, List.forall_mem_cons.mpr ⟨lw_p9, List.forall_mem_cons.mpr ⟨lw_p10, List.forall_mem_cons.mpr ⟨lw_p11, List.forall_mem_cons.mpr ⟨lw_p12, List.forall_mem_cons.mpr ⟨lw_p13, List.forall_mem_cons.mpr ⟨lw_p14, List.forall_mem_cons.mpr ⟨lw_p15, fun _ h => absurd h List.not_mem_nil⟩⟩⟩⟩⟩⟩⟩⟩⟩⟩⟩⟩⟩⟩⟩⟩
theorem lw_p16 : lw_okq (⟨"ShapeMoves$Shape", "setPlace", "(IIII)V"⟩, 3) := ⟨⟨by decide +kernel, by decide +kernel⟩, List.mem_of_getElem? (i := 54) (by decide +kernel), List.mem_of_getElem? (i := 254) (by decide +kernel), List.mem_of_getElem? (i := 255) (by decide +kernel)⟩
theorem lw_p17 : lw_okq (⟨"ShapeMoves$Shape", "markAll", "(I)V"⟩, 3) := ⟨⟨by decide +kernel, by decide +kernel⟩, List.mem_of_getElem? (i := 54) (by decide +kernel), List.mem_of_getElem? (i := 258) (by decide +kernel), List.mem_of_getElem? (i := 259) (by decide +kernel)⟩
def lw_privs_2 : List (MethodName × Nat) := [(⟨"ShapeMoves$Shape", "setPlace", "(IIII)V"⟩, 3), (⟨"ShapeMoves$Shape", "markAll", "(I)V"⟩, 3)]
theorem lw_r2 : ∀ q ∈ lw_privs_2, lw_okq q := List.forall_mem_cons.mpr ⟨lw_p16, List.forall_mem_cons.mpr ⟨lw_p17, fun _ h => absurd h List.not_mem_nil⟩⟩
def lw_privs : List (MethodName × Nat) := lw_privs_1 ++ (lw_privs_2)
def lw_tbl : List Cond := k2_sels lw_privs ++ tables_1
theorem lw_privs_ok : ∀ q ∈ lw_privs, lw_okq q := by
  show ∀ q ∈ lw_privs_1 ++ (lw_privs_2), lw_okq q
  exact List.forall_mem_append.mpr ⟨lw_r1, lw_r2⟩

def RX0 : String := "ShapeMoves$Group"
def TX0 : u_T := fun k => match k with
  | 0 => ("ShapeMoves$Group", "members", "[Z", true)
  | 1 => ("ShapeMoves$Group", "byNumber", "[I", true)
  | 2 => ("ShapeMoves$Group", "size", "I", false)
  | 3 => ("ShapeMoves$Group", "stay", "[I", true)
  | 4 => ("ShapeMoves$Group", "orbits", "[I", true)
  | 5 => ("ShapeMoves$Group", "orbitsInAll", "I", false)
  | 6 => ("ShapeMoves$Group", "classLeast", "[I", true)
  | 7 => ("ShapeMoves$Group", "classList", "[I", true)
  | 8 => ("ShapeMoves$Group", "classes", "I", false)
  | 9 => ("ShapeMoves$Group", "parts", "[I", true)
  | 10 => ("ShapeMoves$Group", "reached", "[I", true)
  | 11 => ("ShapeMoves$Group", "reachedInAll", "I", false)
  | _ => ("ShapeMoves$Group", "signs", "I", false)
def tyX0 : Nat → FieldType := fun k => match k with
  | 0 => .array .boolean
  | 1 => .array .int
  | 2 => .int
  | 3 => .array .int
  | 4 => .array .int
  | 5 => .int
  | 6 => .array .int
  | 7 => .array .int
  | 8 => .int
  | 9 => .array .int
  | 10 => .array .int
  | 11 => .int
  | _ => .int
abbrev wsX00 : List Cond := u_ws RX0 TX0 13
theorem nmX0 : ∀ a, a < 13 → ∀ b, b < 13 → a ≠ b → (TX0 a).2.1 ≠ (TX0 b).2.1 := by decide +kernel
theorem tyX0_ok : ∀ k, k < 13 → parseFieldDescriptor (TX0 k).2.2.1 = some (tyX0 k) := by decide +kernel
abbrev cX0_init : ByteArray := prog_2_method_1_code
def yX0_init : MethodName := ⟨RX0, "<init>", "()V"⟩
abbrev cX0_find : ByteArray := prog_2_method_2_code
def yX0_find : MethodName := ⟨RX0, "find", "(LShapeMoves$Shape;)V"⟩
abbrev cX0_findOrbits : ByteArray := prog_2_method_3_code
def yX0_findOrbits : MethodName := ⟨RX0, "findOrbits", "(LShapeMoves$Shape;)V"⟩
abbrev cX0_findOrbit : ByteArray := prog_2_method_4_code
def yX0_findOrbit : MethodName := ⟨RX0, "findOrbit", "(LShapeMoves$Shape;I)V"⟩
abbrev cX0_findClasses : ByteArray := prog_2_method_5_code
def yX0_findClasses : MethodName := ⟨RX0, "findClasses", "()V"⟩
abbrev cX0_findClass : ByteArray := prog_2_method_6_code
def yX0_findClass : MethodName := ⟨RX0, "findClass", "(I)V"⟩
abbrev cX0_isHanded : ByteArray := prog_2_method_8_code
def yX0_isHanded : MethodName := ⟨RX0, "isHanded", "()Z"⟩
abbrev cX0_ordersTogether : ByteArray := prog_2_method_9_code
def yX0_ordersTogether : MethodName := ⟨RX0, "ordersTogether", "()I"⟩
abbrev cX0_signsInAll : ByteArray := prog_2_method_12_code
def yX0_signsInAll : MethodName := ⟨RX0, "signsInAll", "()I"⟩
abbrev cX0_findSigns : ByteArray := prog_2_method_14_code
def yX0_findSigns : MethodName := ⟨RX0, "findSigns", "()V"⟩
abbrev cX0_findMadeOfSquares : ByteArray := prog_2_method_15_code
def yX0_findMadeOfSquares : MethodName := ⟨RX0, "findMadeOfSquares", "()V"⟩
abbrev cX0_reach : ByteArray := prog_2_method_16_code
def yX0_reach : MethodName := ⟨RX0, "reach", "(II)V"⟩
abbrev cX0_addFree : ByteArray := prog_2_method_17_code
def yX0_addFree : MethodName := ⟨RX0, "addFree", "(I)V"⟩
def RX1 : String := "ShapeMoves$Moves"
def TX1 : u_T := fun k => match k with
  | _ => ("", "", "", false)
def tyX1 : Nat → FieldType := fun k => match k with
  | _ => .int
abbrev wsX10 : List Cond := u_ws RX1 TX1 0
theorem nmX1 : ∀ a, a < 0 → ∀ b, b < 0 → a ≠ b → (TX1 a).2.1 ≠ (TX1 b).2.1 := by decide +kernel
theorem tyX1_ok : ∀ k, k < 0 → parseFieldDescriptor (TX1 k).2.2.1 = some (tyX1 k) := by decide +kernel
abbrev cX1_isMove : ByteArray := prog_3_method_2_code
def yX1_isMove : MethodName := ⟨RX1, "isMove", "(I)Z"⟩
abbrev cX1_axisAt : ByteArray := prog_3_method_3_code
def yX1_axisAt : MethodName := ⟨RX1, "axisAt", "(II)I"⟩
abbrev cX1_signBit : ByteArray := prog_3_method_4_code
def yX1_signBit : MethodName := ⟨RX1, "signBit", "(II)I"⟩
abbrev cX1_multiply : ByteArray := prog_3_method_5_code
def yX1_multiply : MethodName := ⟨RX1, "multiply", "(II)I"⟩
abbrev cX1_invert : ByteArray := prog_3_method_6_code
def yX1_invert : MethodName := ⟨RX1, "invert", "(I)I"⟩
abbrev cX1_orderOf : ByteArray := prog_3_method_7_code
def yX1_orderOf : MethodName := ⟨RX1, "orderOf", "(I)I"⟩
abbrev cX1_turnOf : ByteArray := prog_3_method_9_code
def yX1_turnOf : MethodName := ⟨RX1, "turnOf", "(I)I"⟩
def RX2 : String := "ShapeMoves$Rows"
def TX2 : u_T := fun k => match k with
  | 0 => ("ShapeMoves$Rows", "first", "[I", true)
  | 1 => ("ShapeMoves$Rows", "second", "[I", true)
  | _ => ("ShapeMoves$Rows", "size", "I", false)
def tyX2 : Nat → FieldType := fun k => match k with
  | 0 => .array .int
  | 1 => .array .int
  | _ => .int
abbrev wsX20 : List Cond := u_ws RX2 TX2 3
theorem nmX2 : ∀ a, a < 3 → ∀ b, b < 3 → a ≠ b → (TX2 a).2.1 ≠ (TX2 b).2.1 := by decide +kernel
theorem tyX2_ok : ∀ k, k < 3 → parseFieldDescriptor (TX2 k).2.2.1 = some (tyX2 k) := by decide +kernel
abbrev cX2_init : ByteArray := prog_4_method_1_code
def yX2_init : MethodName := ⟨RX2, "<init>", "(I)V"⟩
abbrev cX2_isFull : ByteArray := prog_4_method_2_code
def yX2_isFull : MethodName := ⟨RX2, "isFull", "()Z"⟩
abbrev cX2_add : ByteArray := prog_4_method_3_code
def yX2_add : MethodName := ⟨RX2, "add", "(II)I"⟩
abbrev cX2_empty : ByteArray := prog_4_method_4_code
def yX2_empty : MethodName := ⟨RX2, "empty", "()I"⟩
abbrev cX2_become : ByteArray := prog_4_method_5_code
def yX2_become : MethodName := ⟨RX2, "become", "(LShapeMoves$Rows;)V"⟩
def RX3 : String := "ShapeMoves$Setup"
def TX3 : u_T := fun k => match k with
  | 0 => ("ShapeMoves$Setup", "shape", "LShapeMoves$Shape;", true)
  | 1 => ("ShapeMoves$Setup", "seen", "LShapeMoves$Rows;", true)
  | 2 => ("ShapeMoves$Setup", "events", "LShapeMoves$Rows;", true)
  | _ => ("ShapeMoves$Setup", "book", "LShapeMoves$Rows;", true)
def tyX3 : Nat → FieldType := fun k => match k with
  | 0 => .object "ShapeMoves$Shape"
  | 1 => .object "ShapeMoves$Rows"
  | 2 => .object "ShapeMoves$Rows"
  | _ => .object "ShapeMoves$Rows"
abbrev wsX30 : List Cond := u_ws RX3 TX3 4
theorem nmX3 : ∀ a, a < 4 → ∀ b, b < 4 → a ≠ b → (TX3 a).2.1 ≠ (TX3 b).2.1 := by decide +kernel
theorem tyX3_ok : ∀ k, k < 4 → parseFieldDescriptor (TX3 k).2.2.1 = some (tyX3 k) := by decide +kernel
abbrev cX3_init : ByteArray := prog_5_method_1_code
def yX3_init : MethodName := ⟨RX3, "<init>", "()V"⟩
abbrev cX3_become : ByteArray := prog_5_method_2_code
def yX3_become : MethodName := ⟨RX3, "become", "(LShapeMoves$Setup;)V"⟩
def RX4 : String := "ShapeMoves$Shape"
def TX4 : u_T := fun k => match k with
  | 0 => ("ShapeMoves$Shape", "places", "[I", true)
  | 1 => ("ShapeMoves$Shape", "marks", "[I", true)
  | _ => ("ShapeMoves$Shape", "size", "I", false)
def tyX4 : Nat → FieldType := fun k => match k with
  | 0 => .array .int
  | 1 => .array .int
  | _ => .int
abbrev wsX40 : List Cond := u_ws RX4 TX4 3
theorem nmX4 : ∀ a, a < 3 → ∀ b, b < 3 → a ≠ b → (TX4 a).2.1 ≠ (TX4 b).2.1 := by decide +kernel
theorem tyX4_ok : ∀ k, k < 3 → parseFieldDescriptor (TX4 k).2.2.1 = some (tyX4 k) := by decide +kernel
abbrev cX4_init : ByteArray := prog_6_method_1_code
def yX4_init : MethodName := ⟨RX4, "<init>", "()V"⟩
abbrev cX4_become : ByteArray := prog_6_method_2_code
def yX4_become : MethodName := ⟨RX4, "become", "(LShapeMoves$Shape;)V"⟩
abbrev cX4_add : ByteArray := prog_6_method_3_code
def yX4_add : MethodName := ⟨RX4, "add", "(IIII)I"⟩
abbrev cX4_setPlace : ByteArray := prog_6_method_4_code
def yX4_setPlace : MethodName := ⟨RX4, "setPlace", "(IIII)V"⟩
abbrev cX4_remove : ByteArray := prog_6_method_5_code
def yX4_remove : MethodName := ⟨RX4, "remove", "(I)V"⟩
abbrev cX4_pointAt : ByteArray := prog_6_method_6_code
def yX4_pointAt : MethodName := ⟨RX4, "pointAt", "(III)I"⟩
abbrev cX4_axisBehind : ByteArray := prog_6_method_7_code
def yX4_axisBehind : MethodName := ⟨RX4, "axisBehind", "(III)I"⟩
abbrev cX4_pointBehind : ByteArray := prog_6_method_8_code
def yX4_pointBehind : MethodName := ⟨RX4, "pointBehind", "(II)I"⟩
abbrev cX4_isMovedBy : ByteArray := prog_6_method_9_code
def yX4_isMovedBy : MethodName := ⟨RX4, "isMovedBy", "(II)Z"⟩
abbrev cX4_movedBy : ByteArray := prog_6_method_10_code
def yX4_movedBy : MethodName := ⟨RX4, "movedBy", "(I)I"⟩
abbrev cX4_isKeptBy : ByteArray := prog_6_method_11_code
def yX4_isKeptBy : MethodName := ⟨RX4, "isKeptBy", "(I)Z"⟩
abbrev cX4_keepers : ByteArray := prog_6_method_12_code
def yX4_keepers : MethodName := ⟨RX4, "keepers", "()I"⟩
abbrev cX4_happen : ByteArray := prog_6_method_13_code
def yX4_happen : MethodName := ⟨RX4, "happen", "(II)V"⟩
abbrev cX4_replaceMark : ByteArray := prog_6_method_14_code
def yX4_replaceMark : MethodName := ⟨RX4, "replaceMark", "(I)V"⟩
abbrev cX4_takeBy : ByteArray := prog_6_method_15_code
def yX4_takeBy : MethodName := ⟨RX4, "takeBy", "(I)V"⟩
abbrev cX4_markAll : ByteArray := prog_6_method_16_code
def yX4_markAll : MethodName := ⟨RX4, "markAll", "(I)V"⟩
def RX5 : String := "ShapeMoves$Tape"
def TX5 : u_T := fun k => match k with
  | 0 => ("ShapeMoves$Tape", "items", "[J", true)
  | 1 => ("ShapeMoves$Tape", "sort", "I", false)
  | _ => ("ShapeMoves$Tape", "size", "I", false)
def tyX5 : Nat → FieldType := fun k => match k with
  | 0 => .array .long
  | 1 => .int
  | _ => .int
abbrev wsX50 : List Cond := u_ws RX5 TX5 3
theorem nmX5 : ∀ a, a < 3 → ∀ b, b < 3 → a ≠ b → (TX5 a).2.1 ≠ (TX5 b).2.1 := by decide +kernel
theorem tyX5_ok : ∀ k, k < 3 → parseFieldDescriptor (TX5 k).2.2.1 = some (tyX5 k) := by decide +kernel
abbrev cX5_init : ByteArray := prog_7_method_1_code
def yX5_init : MethodName := ⟨RX5, "<init>", "()V"⟩
abbrev cX5_become : ByteArray := prog_7_method_2_code
def yX5_become : MethodName := ⟨RX5, "become", "(II)V"⟩
abbrev cX5_hasPlace : ByteArray := prog_7_method_3_code
def yX5_hasPlace : MethodName := ⟨RX5, "hasPlace", "(I)Z"⟩
abbrev cX5_asItem : ByteArray := prog_7_method_5_code
def yX5_asItem : MethodName := ⟨RX5, "asItem", "(J)J"⟩
def RX6 : String := "ShapeMoves$Text"
def TX6 : u_T := fun k => match k with
  | 0 => ("ShapeMoves$Text", "signs", "[B", true)
  | 1 => ("ShapeMoves$Text", "size", "I", false)
  | 2 => ("ShapeMoves$Text", "place", "I", false)
  | 3 => ("ShapeMoves$Text", "parts", "[I", true)
  | _ => ("ShapeMoves$Text", "clauses", "I", false)
def tyX6 : Nat → FieldType := fun k => match k with
  | 0 => .array .byte
  | 1 => .int
  | 2 => .int
  | 3 => .array .int
  | _ => .int
abbrev wsX60 : List Cond := u_ws RX6 TX6 5
theorem nmX6 : ∀ a, a < 5 → ∀ b, b < 5 → a ≠ b → (TX6 a).2.1 ≠ (TX6 b).2.1 := by decide +kernel
theorem tyX6_ok : ∀ k, k < 5 → parseFieldDescriptor (TX6 k).2.2.1 = some (tyX6 k) := by decide +kernel
abbrev cX6_init : ByteArray := prog_8_method_1_code
def yX6_init : MethodName := ⟨RX6, "<init>", "()V"⟩
def RX7 : String := "ShapeMoves"
def TX7 : u_T := fun k => match k with
  | 0 => ("ShapeMoves", "now", "LShapeMoves$Setup;", true)
  | 1 => ("ShapeMoves", "imaged", "LShapeMoves$Setup;", true)
  | 2 => ("ShapeMoves", "isImaged", "Z", false)
  | 3 => ("ShapeMoves", "nowGroup", "LShapeMoves$Group;", true)
  | 4 => ("ShapeMoves", "isGroupOld", "Z", false)
  | 5 => ("ShapeMoves", "trial", "LShapeMoves$Shape;", true)
  | 6 => ("ShapeMoves", "trialGroup", "LShapeMoves$Group;", true)
  | 7 => ("ShapeMoves", "text", "LShapeMoves$Text;", true)
  | _ => ("ShapeMoves", "tapes", "[LShapeMoves$Tape;", true)
def tyX7 : Nat → FieldType := fun k => match k with
  | 0 => .object "ShapeMoves$Setup"
  | 1 => .object "ShapeMoves$Setup"
  | 2 => .boolean
  | 3 => .object "ShapeMoves$Group"
  | 4 => .boolean
  | 5 => .object "ShapeMoves$Shape"
  | 6 => .object "ShapeMoves$Group"
  | 7 => .object "ShapeMoves$Text"
  | _ => .array (.object "ShapeMoves$Tape")
abbrev wsX70 : List Cond := u_ws RX7 TX7 9
theorem nmX7 : ∀ a, a < 9 → ∀ b, b < 9 → a ≠ b → (TX7 a).2.1 ≠ (TX7 b).2.1 := by decide +kernel
theorem tyX7_ok : ∀ k, k < 9 → parseFieldDescriptor (TX7 k).2.2.1 = some (tyX7 k) := by decide +kernel
abbrev cX7_init : ByteArray := prog_1_method_1_code
def yX7_init : MethodName := ⟨RX7, "<init>", "()V"⟩
abbrev cX7_point : ByteArray := prog_1_method_2_code
def yX7_point : MethodName := ⟨RX7, "point", "(IIII)I"⟩
abbrev cX7_mark : ByteArray := prog_1_method_3_code
def yX7_mark : MethodName := ⟨RX7, "mark", "(II)I"⟩
abbrev cX7_drop : ByteArray := prog_1_method_4_code
def yX7_drop : MethodName := ⟨RX7, "drop", "(I)I"⟩
abbrev cX7_of : ByteArray := prog_1_method_5_code
def yX7_of : MethodName := ⟨RX7, "of", "(II)I"⟩
abbrev cX7_move : ByteArray := prog_1_method_11_code
def yX7_move : MethodName := ⟨RX7, "move", "(II)I"⟩
abbrev cX7_takes : ByteArray := prog_1_method_13_code
def yX7_takes : MethodName := ⟨RX7, "takes", "(II)I"⟩
abbrev cX7_told : ByteArray := prog_1_method_14_code
def yX7_told : MethodName := ⟨RX7, "told", "(I)I"⟩
abbrev cX7_nearest : ByteArray := prog_1_method_15_code
def yX7_nearest : MethodName := ⟨RX7, "nearest", "(LShapeMoves$Group;)I"⟩
abbrev cX7_group : ByteArray := prog_1_method_16_code
def yX7_group : MethodName := ⟨RX7, "group", "(I)I"⟩
abbrev cX7_see : ByteArray := prog_1_method_24_code
def yX7_see : MethodName := ⟨RX7, "see", "(IZ)I"⟩
abbrev cX7_fits : ByteArray := prog_1_method_25_code
def yX7_fits : MethodName := ⟨RX7, "fits", "(II)I"⟩
abbrev cX7_isAllAsSeen : ByteArray := prog_1_method_26_code
def yX7_isAllAsSeen : MethodName := ⟨RX7, "isAllAsSeen", "(LShapeMoves$Shape;)Z"⟩
abbrev cX7_odds : ByteArray := prog_1_method_27_code
def yX7_odds : MethodName := ⟨RX7, "odds", "(III)J"⟩
abbrev cX7_mean : ByteArray := prog_1_method_28_code
def yX7_mean : MethodName := ⟨RX7, "mean", "(I)J"⟩
abbrev cX7_partOfFraction : ByteArray := prog_1_method_29_code
def yX7_partOfFraction : MethodName := ⟨RX7, "partOfFraction", "(III)I"⟩
abbrev cX7_event : ByteArray := prog_1_method_30_code
def yX7_event : MethodName := ⟨RX7, "event", "(II)I"⟩
abbrev cX7_isForEvent : ByteArray := prog_1_method_31_code
def yX7_isForEvent : MethodName := ⟨RX7, "isForEvent", "(II)Z"⟩
abbrev cX7_after : ByteArray := prog_1_method_32_code
def yX7_after : MethodName := ⟨RX7, "after", "(I)I"⟩
abbrev cX7_book : ByteArray := prog_1_method_33_code
def yX7_book : MethodName := ⟨RX7, "book", "(II)I"⟩
abbrev cX7_looked : ByteArray := prog_1_method_34_code
def yX7_looked : MethodName := ⟨RX7, "looked", "()I"⟩
abbrev cX7_judge : ByteArray := prog_1_method_35_code
def yX7_judge : MethodName := ⟨RX7, "judge", "(II)I"⟩
abbrev cX7_image : ByteArray := prog_1_method_36_code
def yX7_image : MethodName := ⟨RX7, "image", "()I"⟩
abbrev cX7_undo : ByteArray := prog_1_method_37_code
def yX7_undo : MethodName := ⟨RX7, "undo", "()I"⟩
abbrev cX7_count : ByteArray := prog_1_method_38_code
def yX7_count : MethodName := ⟨RX7, "count", "(I)I"⟩
abbrev cX7_tape : ByteArray := prog_1_method_39_code
def yX7_tape : MethodName := ⟨RX7, "tape", "(III)I"⟩
abbrev cX7_item : ByteArray := prog_1_method_40_code
def yX7_item : MethodName := ⟨RX7, "item", "(IIJ)I"⟩
abbrev cX7_groupNow : ByteArray := prog_1_method_43_code
def yX7_groupNow : MethodName := ⟨RX7, "groupNow", "()LShapeMoves$Group;"⟩
abbrev cX7_isPoint : ByteArray := prog_1_method_44_code
def yX7_isPoint : MethodName := ⟨RX7, "isPoint", "(I)Z"⟩
abbrev cX7_isPlace : ByteArray := prog_1_method_45_code
def yX7_isPlace : MethodName := ⟨RX7, "isPlace", "(III)Z"⟩
abbrev cX7_isAxis : ByteArray := prog_1_method_46_code
def yX7_isAxis : MethodName := ⟨RX7, "isAxis", "(I)Z"⟩
abbrev cX7_isMark : ByteArray := prog_1_method_47_code
def yX7_isMark : MethodName := ⟨RX7, "isMark", "(I)Z"⟩
abbrev cX7_isPart : ByteArray := prog_1_method_49_code
def yX7_isPart : MethodName := ⟨RX7, "isPart", "(I)Z"⟩
abbrev cX7_isTape : ByteArray := prog_1_method_50_code
def yX7_isTape : MethodName := ⟨RX7, "isTape", "(I)Z"⟩
def RX8 : String := "ShapeMovesModel"
def TX8 : u_T := fun k => match k with
  | _ => ("", "", "", false)
def tyX8 : Nat → FieldType := fun k => match k with
  | _ => .int
abbrev wsX80 : List Cond := u_ws RX8 TX8 0
theorem nmX8 : ∀ a, a < 0 → ∀ b, b < 0 → a ≠ b → (TX8 a).2.1 ≠ (TX8 b).2.1 := by decide +kernel
theorem tyX8_ok : ∀ k, k < 0 → parseFieldDescriptor (TX8 k).2.2.1 = some (tyX8 k) := by decide +kernel
def RJ6 : String := "java/lang/Integer"
def TJ6 : u_T := fun k => match k with
  | _ => ("", "", "", false)
def tyJ6 : Nat → FieldType := fun k => match k with
  | _ => .int
abbrev wsJ60 : List Cond := u_ws RJ6 TJ6 0
theorem nmJ6 : ∀ a, a < 0 → ∀ b, b < 0 → a ≠ b → (TJ6 a).2.1 ≠ (TJ6 b).2.1 := by decide +kernel
theorem tyJ6_ok : ∀ k, k < 0 → parseFieldDescriptor (TJ6 k).2.2.1 = some (tyJ6 k) := by decide +kernel
abbrev cJ6_bitCount_0f7a4 : ByteArray := prog_11_method_49_code
def yJ6_bitCount_0f7a4 : MethodName := ⟨RJ6, "bitCount", "(I)I"⟩
def RJ9 : String := "java/lang/Math"
def TJ9 : u_T := fun k => match k with
  | _ => ("", "", "", false)
def tyJ9 : Nat → FieldType := fun k => match k with
  | _ => .int
abbrev wsJ90 : List Cond := u_ws RJ9 TJ9 0
theorem nmJ9 : ∀ a, a < 0 → ∀ b, b < 0 → a ≠ b → (TJ9 a).2.1 ≠ (TJ9 b).2.1 := by decide +kernel
theorem tyJ9_ok : ∀ k, k < 0 → parseFieldDescriptor (TJ9 k).2.2.1 = some (tyJ9 k) := by decide +kernel
abbrev cJ9_min_7cf53 : ByteArray := prog_12_method_69_code
def yJ9_min_7cf53 : MethodName := ⟨RJ9, "min", "(II)I"⟩
def RJ10 : String := "java/lang/System"
def TJ10 : u_T := fun k => match k with
  | _ => ("", "", "", false)
def tyJ10 : Nat → FieldType := fun k => match k with
  | _ => .int
theorem nmJ10 : ∀ a, a < 0 → ∀ b, b < 0 → a ≠ b → (TJ10 a).2.1 ≠ (TJ10 b).2.1 := by decide +kernel
def RL : String := "ShapeMovesLaw"
abbrev cL_at : ByteArray := method_2_code
def yL_at : MethodName := ⟨RL, "at", "([II)I"⟩
abbrev cL_build : ByteArray := method_3_code
def yL_build : MethodName := ⟨RL, "build", "([I)LShapeMoves;"⟩
abbrev cL_law : ByteArray := code
def yL_law : MethodName := ⟨RL, "law", "([I)Z"⟩
abbrev vwCl : List vw_C := [(RX0, TX0, 13), (RX2, TX2, 3), (RX3, TX3, 4), (RX4, TX4, 3), (RX5, TX5, 3), (RX6, TX6, 5), (RX7, TX7, 9)]
theorem inX0 : ∀ w ∈ wsX00, w ∈ lw_tbl := by decide +kernel
theorem inX2 : ∀ w ∈ wsX20, w ∈ lw_tbl := by decide +kernel
theorem inX3 : ∀ w ∈ wsX30, w ∈ lw_tbl := by decide +kernel
theorem inX4 : ∀ w ∈ wsX40, w ∈ lw_tbl := by decide +kernel
theorem inX5 : ∀ w ∈ wsX50, w ∈ lw_tbl := by decide +kernel
theorem inX6 : ∀ w ∈ wsX60, w ∈ lw_tbl := by decide +kernel
theorem inX7 : ∀ w ∈ wsX70, w ∈ lw_tbl := by decide +kernel
