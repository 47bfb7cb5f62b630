section
-- ===== PART A: goes FIRST, ahead of the names: the tables' words, and 'selects' of the private methods out of them =====
/-- a private method of a class that the tables say can be made, by its rows of tables_1 -/
def lw_okq (q : MethodName × Nat) : Prop := (q.1.cls ≠ "java/lang/invoke/MethodHandle" ∧ q.1.cls ≠ "java/lang/invoke/VarHandle") ∧ Cond.instantiable q.1.cls q.2 ∈ tables_1 ∧ Cond.privateMethod q.1 ∈ tables_1 ∧ Cond.instanceMethod q.1 ∈ tables_1
theorem lw_p0 : lw_okq (⟨"ShapeMoves$Shape", "setPlace", "(IIII)V"⟩, 3) := ⟨⟨by decide +kernel, by decide +kernel⟩, List.mem_of_getElem? (i := 32) (by decide +kernel), List.mem_of_getElem? (i := 240) (by decide +kernel), List.mem_of_getElem? (i := 241) (by decide +kernel)⟩
theorem lw_p1 : lw_okq (⟨"ShapeMoves", "isPoint", "(I)Z"⟩, 9) := ⟨⟨by decide +kernel, by decide +kernel⟩, List.mem_of_getElem? (i := 18) (by decide +kernel), List.mem_of_getElem? (i := 248) (by decide +kernel), List.mem_of_getElem? (i := 249) (by decide +kernel)⟩
theorem lw_p2 : lw_okq (⟨"ShapeMoves", "groupNow", "()LShapeMoves$Group;"⟩, 9) := ⟨⟨by decide +kernel, by decide +kernel⟩, List.mem_of_getElem? (i := 18) (by decide +kernel), List.mem_of_getElem? (i := 267) (by decide +kernel), List.mem_of_getElem? (i := 268) (by decide +kernel)⟩
theorem lw_p3 : lw_okq (⟨"ShapeMoves$Shape", "isMovedBy", "(II)Z"⟩, 3) := ⟨⟨by decide +kernel, by decide +kernel⟩, List.mem_of_getElem? (i := 32) (by decide +kernel), List.mem_of_getElem? (i := 279) (by decide +kernel), List.mem_of_getElem? (i := 280) (by decide +kernel)⟩
theorem lw_p4 : lw_okq (⟨"ShapeMoves$Shape", "axisBehind", "(III)I"⟩, 3) := ⟨⟨by decide +kernel, by decide +kernel⟩, List.mem_of_getElem? (i := 32) (by decide +kernel), List.mem_of_getElem? (i := 287) (by decide +kernel), List.mem_of_getElem? (i := 288) (by decide +kernel)⟩
theorem lw_p5 : lw_okq (⟨"ShapeMoves$Group", "findOrbits", "(LShapeMoves$Shape;)V"⟩, 13) := ⟨⟨by decide +kernel, by decide +kernel⟩, List.mem_of_getElem? (i := 89) (by decide +kernel), List.mem_of_getElem? (i := 300) (by decide +kernel), List.mem_of_getElem? (i := 301) (by decide +kernel)⟩
theorem lw_p6 : lw_okq (⟨"ShapeMoves$Group", "findOrbit", "(LShapeMoves$Shape;I)V"⟩, 13) := ⟨⟨by decide +kernel, by decide +kernel⟩, List.mem_of_getElem? (i := 89) (by decide +kernel), List.mem_of_getElem? (i := 304) (by decide +kernel), List.mem_of_getElem? (i := 305) (by decide +kernel)⟩
theorem lw_p7 : lw_okq (⟨"ShapeMoves$Group", "findClasses", "()V"⟩, 13) := ⟨⟨by decide +kernel, by decide +kernel⟩, List.mem_of_getElem? (i := 89) (by decide +kernel), List.mem_of_getElem? (i := 312) (by decide +kernel), List.mem_of_getElem? (i := 313) (by decide +kernel)⟩
theorem lw_p8 : lw_okq (⟨"ShapeMoves$Group", "findClass", "(I)V"⟩, 13) := ⟨⟨by decide +kernel, by decide +kernel⟩, List.mem_of_getElem? (i := 89) (by decide +kernel), List.mem_of_getElem? (i := 316) (by decide +kernel), List.mem_of_getElem? (i := 317) (by decide +kernel)⟩
theorem lw_p9 : lw_okq (⟨"ShapeMoves$Text", "takeSign", "(C)Z"⟩, 5) := ⟨⟨by decide +kernel, by decide +kernel⟩, List.mem_of_getElem? (i := 146) (by decide +kernel), List.mem_of_getElem? (i := 350) (by decide +kernel), List.mem_of_getElem? (i := 351) (by decide +kernel)⟩
theorem lw_p10 : lw_okq (⟨"ShapeMoves$Text", "takeClause", "(I)Z"⟩, 5) := ⟨⟨by decide +kernel, by decide +kernel⟩, List.mem_of_getElem? (i := 146) (by decide +kernel), List.mem_of_getElem? (i := 354) (by decide +kernel), List.mem_of_getElem? (i := 355) (by decide +kernel)⟩
theorem lw_p11 : lw_okq (⟨"ShapeMoves$Text", "takeAxis", "(I)Z"⟩, 5) := ⟨⟨by decide +kernel, by decide +kernel⟩, List.mem_of_getElem? (i := 146) (by decide +kernel), List.mem_of_getElem? (i := 358) (by decide +kernel), List.mem_of_getElem? (i := 359) (by decide +kernel)⟩
theorem lw_p12 : lw_okq (⟨"ShapeMoves$Text", "takeDigit", "(I)Z"⟩, 5) := ⟨⟨by decide +kernel, by decide +kernel⟩, List.mem_of_getElem? (i := 146) (by decide +kernel), List.mem_of_getElem? (i := 362) (by decide +kernel), List.mem_of_getElem? (i := 363) (by decide +kernel)⟩
theorem lw_p13 : lw_okq (⟨"ShapeMoves", "doClause", "(I)Z"⟩, 9) := ⟨⟨by decide +kernel, by decide +kernel⟩, List.mem_of_getElem? (i := 18) (by decide +kernel), List.mem_of_getElem? (i := 366) (by decide +kernel), List.mem_of_getElem? (i := 367) (by decide +kernel)⟩
theorem lw_p14 : lw_okq (⟨"ShapeMoves$Group", "findSigns", "()V"⟩, 13) := ⟨⟨by decide +kernel, by decide +kernel⟩, List.mem_of_getElem? (i := 89) (by decide +kernel), List.mem_of_getElem? (i := 435) (by decide +kernel), List.mem_of_getElem? (i := 436) (by decide +kernel)⟩
theorem lw_p15 : lw_okq (⟨"ShapeMoves$Group", "findMadeOfSquares", "()V"⟩, 13) := ⟨⟨by decide +kernel, by decide +kernel⟩, List.mem_of_getElem? (i := 89) (by decide +kernel), List.mem_of_getElem? (i := 439) (by decide +kernel), List.mem_of_getElem? (i := 440) (by decide +kernel)⟩
def lw_privs_1 : List (MethodName × Nat) := [(⟨"ShapeMoves$Shape", "setPlace", "(IIII)V"⟩, 3), (⟨"ShapeMoves", "isPoint", "(I)Z"⟩, 9), (⟨"ShapeMoves", "groupNow", "()LShapeMoves$Group;"⟩, 9), (⟨"ShapeMoves$Shape", "isMovedBy", "(II)Z"⟩, 3), (⟨"ShapeMoves$Shape", "axisBehind", "(III)I"⟩, 3), (⟨"ShapeMoves$Group", "findOrbits", "(LShapeMoves$Shape;)V"⟩, 13), (⟨"ShapeMoves$Group", "findOrbit", "(LShapeMoves$Shape;I)V"⟩, 13), (⟨"ShapeMoves$Group", "findClasses", "()V"⟩, 13), (⟨"ShapeMoves$Group", "findClass", "(I)V"⟩, 13), (⟨"ShapeMoves$Text", "takeSign", "(C)Z"⟩, 5), (⟨"ShapeMoves$Text", "takeClause", "(I)Z"⟩, 5), (⟨"ShapeMoves$Text", "takeAxis", "(I)Z"⟩, 5), (⟨"ShapeMoves$Text", "takeDigit", "(I)Z"⟩, 5), (⟨"ShapeMoves", "doClause", "(I)Z"⟩, 9), (⟨"ShapeMoves$Group", "findSigns", "()V"⟩, 13), (⟨"ShapeMoves$Group", "findMadeOfSquares", "()V"⟩, 13)]
theorem lw_r1 : ∀ q ∈ lw_privs_1, lw_okq q := List.forall_mem_cons.mpr ⟨lw_p0, List.forall_mem_cons.mpr ⟨lw_p1, List.forall_mem_cons.mpr ⟨lw_p2, List.forall_mem_cons.mpr ⟨lw_p3, List.forall_mem_cons.mpr ⟨lw_p4, List.forall_mem_cons.mpr ⟨lw_p5, List.forall_mem_cons.mpr ⟨lw_p6, List.forall_mem_cons.mpr ⟨lw_p7, List.forall_mem_cons.mpr ⟨lw_p8, List.forall_mem_cons.mpr ⟨lw_p9, List.forall_mem_cons.mpr ⟨lw_p10, List.forall_mem_cons.mpr ⟨lw_p11, List.forall_mem_cons.mpr ⟨lw_p12, List.forall_mem_cons.mpr ⟨lw_p13, List.forall_mem_cons.mpr ⟨lw_p14, List.forall_mem_cons.mpr ⟨lw_p15, fun _ h => absurd h List.not_mem_nil⟩⟩⟩⟩⟩⟩⟩⟩⟩⟩⟩⟩⟩⟩⟩⟩
theorem lw_p16 : lw_okq (⟨"ShapeMoves$Group", "reach", "(II)V"⟩, 13) := ⟨⟨by decide +kernel, by decide +kernel⟩, List.mem_of_getElem? (i := 89) (by decide +kernel), List.mem_of_getElem? (i := 443) (by decide +kernel), List.mem_of_getElem? (i := 444) (by decide +kernel)⟩
theorem lw_p17 : lw_okq (⟨"ShapeMoves$Group", "addFree", "(I)V"⟩, 13) := ⟨⟨by decide +kernel, by decide +kernel⟩, List.mem_of_getElem? (i := 89) (by decide +kernel), List.mem_of_getElem? (i := 447) (by decide +kernel), List.mem_of_getElem? (i := 448) (by decide +kernel)⟩
theorem lw_p18 : lw_okq (⟨"ShapeMoves", "nearest", "(LShapeMoves$Group;)I"⟩, 9) := ⟨⟨by decide +kernel, by decide +kernel⟩, List.mem_of_getElem? (i := 18) (by decide +kernel), List.mem_of_getElem? (i := 451) (by decide +kernel), List.mem_of_getElem? (i := 452) (by decide +kernel)⟩
theorem lw_p19 : lw_okq (⟨"ShapeMoves", "isAllAsSeen", "(LShapeMoves$Shape;)Z"⟩, 9) := ⟨⟨by decide +kernel, by decide +kernel⟩, List.mem_of_getElem? (i := 18) (by decide +kernel), List.mem_of_getElem? (i := 533) (by decide +kernel), List.mem_of_getElem? (i := 534) (by decide +kernel)⟩
theorem lw_p20 : lw_okq (⟨"ShapeMoves$Shape", "replaceMark", "(I)V"⟩, 3) := ⟨⟨by decide +kernel, by decide +kernel⟩, List.mem_of_getElem? (i := 32) (by decide +kernel), List.mem_of_getElem? (i := 578) (by decide +kernel), List.mem_of_getElem? (i := 579) (by decide +kernel)⟩
theorem lw_p21 : lw_okq (⟨"ShapeMoves$Shape", "takeBy", "(I)V"⟩, 3) := ⟨⟨by decide +kernel, by decide +kernel⟩, List.mem_of_getElem? (i := 32) (by decide +kernel), List.mem_of_getElem? (i := 582) (by decide +kernel), List.mem_of_getElem? (i := 583) (by decide +kernel)⟩
theorem lw_p22 : lw_okq (⟨"ShapeMoves$Shape", "markAll", "(I)V"⟩, 3) := ⟨⟨by decide +kernel, by decide +kernel⟩, List.mem_of_getElem? (i := 32) (by decide +kernel), List.mem_of_getElem? (i := 586) (by decide +kernel), List.mem_of_getElem? (i := 587) (by decide +kernel)⟩
theorem lw_p23 : lw_okq (⟨"ShapeMovesModel", "comes", "(IIII)I"⟩, 22) := ⟨⟨by decide +kernel, by decide +kernel⟩, List.mem_of_getElem? (i := 660) (by decide +kernel), List.mem_of_getElem? (i := 737) (by decide +kernel), List.mem_of_getElem? (i := 738) (by decide +kernel)⟩
theorem lw_p24 : lw_okq (⟨"ShapeMovesModel", "pointAt", "(III)I"⟩, 22) := ⟨⟨by decide +kernel, by decide +kernel⟩, List.mem_of_getElem? (i := 660) (by decide +kernel), List.mem_of_getElem? (i := 747) (by decide +kernel), List.mem_of_getElem? (i := 748) (by decide +kernel)⟩
theorem lw_p25 : lw_okq (⟨"ShapeMovesModel", "isPoint", "(I)Z"⟩, 22) := ⟨⟨by decide +kernel, by decide +kernel⟩, List.mem_of_getElem? (i := 660) (by decide +kernel), List.mem_of_getElem? (i := 755) (by decide +kernel), List.mem_of_getElem? (i := 756) (by decide +kernel)⟩
theorem lw_p26 : lw_okq (⟨"ShapeMovesModel", "markOf", "(I)I"⟩, 22) := ⟨⟨by decide +kernel, by decide +kernel⟩, List.mem_of_getElem? (i := 660) (by decide +kernel), List.mem_of_getElem? (i := 759) (by decide +kernel), List.mem_of_getElem? (i := 760) (by decide +kernel)⟩
theorem lw_p27 : lw_okq (⟨"ShapeMovesModel", "finds", "()V"⟩, 22) := ⟨⟨by decide +kernel, by decide +kernel⟩, List.mem_of_getElem? (i := 660) (by decide +kernel), List.mem_of_getElem? (i := 771) (by decide +kernel), List.mem_of_getElem? (i := 772) (by decide +kernel)⟩
theorem lw_p28 : lw_okq (⟨"ShapeMovesModel", "movedMany", "(I)I"⟩, 22) := ⟨⟨by decide +kernel, by decide +kernel⟩, List.mem_of_getElem? (i := 660) (by decide +kernel), List.mem_of_getElem? (i := 775) (by decide +kernel), List.mem_of_getElem? (i := 776) (by decide +kernel)⟩
theorem lw_p29 : lw_okq (⟨"ShapeMovesModel", "goesTo", "(II)I"⟩, 22) := ⟨⟨by decide +kernel, by decide +kernel⟩, List.mem_of_getElem? (i := 660) (by decide +kernel), List.mem_of_getElem? (i := 779) (by decide +kernel), List.mem_of_getElem? (i := 780) (by decide +kernel)⟩
theorem lw_p30 : lw_okq (⟨"ShapeMovesModel", "moved", "(III)I"⟩, 22) := ⟨⟨by decide +kernel, by decide +kernel⟩, List.mem_of_getElem? (i := 660) (by decide +kernel), List.mem_of_getElem? (i := 783) (by decide +kernel), List.mem_of_getElem? (i := 784) (by decide +kernel)⟩
theorem lw_p31 : lw_okq (⟨"ShapeMovesModel", "orbitOf", "(I)I"⟩, 22) := ⟨⟨by decide +kernel, by decide +kernel⟩, List.mem_of_getElem? (i := 660) (by decide +kernel), List.mem_of_getElem? (i := 834) (by decide +kernel), List.mem_of_getElem? (i := 835) (by decide +kernel)⟩
def lw_privs_2 : List (MethodName × Nat) := [(⟨"ShapeMoves$Group", "reach", "(II)V"⟩, 13), (⟨"ShapeMoves$Group", "addFree", "(I)V"⟩, 13), (⟨"ShapeMoves", "nearest", "(LShapeMoves$Group;)I"⟩, 9), (⟨"ShapeMoves", "isAllAsSeen", "(LShapeMoves$Shape;)Z"⟩, 9), (⟨"ShapeMoves$Shape", "replaceMark", "(I)V"⟩, 3), (⟨"ShapeMoves$Shape", "takeBy", "(I)V"⟩, 3), (⟨"ShapeMoves$Shape", "markAll", "(I)V"⟩, 3), (⟨"ShapeMovesModel", "comes", "(IIII)I"⟩, 22), (⟨"ShapeMovesModel", "pointAt", "(III)I"⟩, 22), (⟨"ShapeMovesModel", "isPoint", "(I)Z"⟩, 22), (⟨"ShapeMovesModel", "markOf", "(I)I"⟩, 22), (⟨"ShapeMovesModel", "finds", "()V"⟩, 22), (⟨"ShapeMovesModel", "movedMany", "(I)I"⟩, 22), (⟨"ShapeMovesModel", "goesTo", "(II)I"⟩, 22), (⟨"ShapeMovesModel", "moved", "(III)I"⟩, 22), (⟨"ShapeMovesModel", "orbitOf", "(I)I"⟩, 22)]
theorem lw_r2 : ∀ q ∈ lw_privs_2, lw_okq q := List.forall_mem_cons.mpr ⟨lw_p16, List.forall_mem_cons.mpr ⟨lw_p17, List.forall_mem_cons.mpr ⟨lw_p18, List.forall_mem_cons.mpr ⟨lw_p19, List.forall_mem_cons.mpr ⟨lw_p20, List.forall_mem_cons.mpr ⟨lw_p21, List.forall_mem_cons.mpr ⟨lw_p22, List.forall_mem_cons.mpr ⟨lw_p23, List.forall_mem_cons.mpr ⟨lw_p24, List.forall_mem_cons.mpr ⟨lw_p25, List.forall_mem_cons.mpr ⟨lw_p26, List.forall_mem_cons.mpr ⟨lw_p27, List.forall_mem_cons.mpr ⟨lw_p28, List.forall_mem_cons.mpr ⟨lw_p29, List.forall_mem_cons.mpr ⟨lw_p30, List.forall_mem_cons.mpr ⟨lw_p31, fun _ h => absurd h List.not_mem_nil⟩⟩⟩⟩⟩⟩⟩⟩⟩⟩⟩⟩⟩⟩⟩⟩
theorem lw_p32 : lw_okq (⟨"ShapeMovesModel", "clause", "()V"⟩, 22) := ⟨⟨by decide +kernel, by decide +kernel⟩, List.mem_of_getElem? (i := 660) (by decide +kernel), List.mem_of_getElem? (i := 852) (by decide +kernel), List.mem_of_getElem? (i := 853) (by decide +kernel)⟩
theorem lw_p33 : lw_okq (⟨"ShapeMovesModel", "here", "()I"⟩, 22) := ⟨⟨by decide +kernel, by decide +kernel⟩, List.mem_of_getElem? (i := 660) (by decide +kernel), List.mem_of_getElem? (i := 856) (by decide +kernel), List.mem_of_getElem? (i := 857) (by decide +kernel)⟩
theorem lw_p34 : lw_okq (⟨"ShapeMovesModel", "number", "()I"⟩, 22) := ⟨⟨by decide +kernel, by decide +kernel⟩, List.mem_of_getElem? (i := 660) (by decide +kernel), List.mem_of_getElem? (i := 860) (by decide +kernel), List.mem_of_getElem? (i := 861) (by decide +kernel)⟩
theorem lw_p35 : lw_okq (⟨"ShapeMovesModel", "digit", "()I"⟩, 22) := ⟨⟨by decide +kernel, by decide +kernel⟩, List.mem_of_getElem? (i := 660) (by decide +kernel), List.mem_of_getElem? (i := 864) (by decide +kernel), List.mem_of_getElem? (i := 865) (by decide +kernel)⟩
theorem lw_p36 : lw_okq (⟨"ShapeMovesModel", "comma", "()V"⟩, 22) := ⟨⟨by decide +kernel, by decide +kernel⟩, List.mem_of_getElem? (i := 660) (by decide +kernel), List.mem_of_getElem? (i := 870) (by decide +kernel), List.mem_of_getElem? (i := 871) (by decide +kernel)⟩
theorem lw_p37 : lw_okq (⟨"ShapeMovesModel", "done", "(I)I"⟩, 22) := ⟨⟨by decide +kernel, by decide +kernel⟩, List.mem_of_getElem? (i := 660) (by decide +kernel), List.mem_of_getElem? (i := 874) (by decide +kernel), List.mem_of_getElem? (i := 875) (by decide +kernel)⟩
theorem lw_p38 : lw_okq (⟨"ShapeMovesModel", "findsSigns", "()V"⟩, 22) := ⟨⟨by decide +kernel, by decide +kernel⟩, List.mem_of_getElem? (i := 660) (by decide +kernel), List.mem_of_getElem? (i := 922) (by decide +kernel), List.mem_of_getElem? (i := 923) (by decide +kernel)⟩
theorem lw_p39 : lw_okq (⟨"ShapeMovesModel", "findsMakers", "()V"⟩, 22) := ⟨⟨by decide +kernel, by decide +kernel⟩, List.mem_of_getElem? (i := 660) (by decide +kernel), List.mem_of_getElem? (i := 926) (by decide +kernel), List.mem_of_getElem? (i := 927) (by decide +kernel)⟩
theorem lw_p40 : lw_okq (⟨"ShapeMovesModel", "makesMore", "()Z"⟩, 22) := ⟨⟨by decide +kernel, by decide +kernel⟩, List.mem_of_getElem? (i := 660) (by decide +kernel), List.mem_of_getElem? (i := 930) (by decide +kernel), List.mem_of_getElem? (i := 931) (by decide +kernel)⟩
theorem lw_p41 : lw_okq (⟨"ShapeMovesModel", "isSign", "(I)Z"⟩, 22) := ⟨⟨by decide +kernel, by decide +kernel⟩, List.mem_of_getElem? (i := 660) (by decide +kernel), List.mem_of_getElem? (i := 934) (by decide +kernel), List.mem_of_getElem? (i := 935) (by decide +kernel)⟩
theorem lw_p42 : lw_okq (⟨"ShapeMovesModel", "spreads", "(I)Z"⟩, 22) := ⟨⟨by decide +kernel, by decide +kernel⟩, List.mem_of_getElem? (i := 660) (by decide +kernel), List.mem_of_getElem? (i := 938) (by decide +kernel), List.mem_of_getElem? (i := 939) (by decide +kernel)⟩
theorem lw_p43 : lw_okq (⟨"ShapeMovesModel", "toldSign", "(II)I"⟩, 22) := ⟨⟨by decide +kernel, by decide +kernel⟩, List.mem_of_getElem? (i := 660) (by decide +kernel), List.mem_of_getElem? (i := 942) (by decide +kernel), List.mem_of_getElem? (i := 943) (by decide +kernel)⟩
theorem lw_p44 : lw_okq (⟨"ShapeMovesModel", "classes", "()I"⟩, 22) := ⟨⟨by decide +kernel, by decide +kernel⟩, List.mem_of_getElem? (i := 660) (by decide +kernel), List.mem_of_getElem? (i := 946) (by decide +kernel), List.mem_of_getElem? (i := 947) (by decide +kernel)⟩
theorem lw_p45 : lw_okq (⟨"ShapeMovesModel", "classNumber", "(I)I"⟩, 22) := ⟨⟨by decide +kernel, by decide +kernel⟩, List.mem_of_getElem? (i := 660) (by decide +kernel), List.mem_of_getElem? (i := 950) (by decide +kernel), List.mem_of_getElem? (i := 951) (by decide +kernel)⟩
theorem lw_p46 : lw_okq (⟨"ShapeMovesModel", "leastOf", "(I)I"⟩, 22) := ⟨⟨by decide +kernel, by decide +kernel⟩, List.mem_of_getElem? (i := 660) (by decide +kernel), List.mem_of_getElem? (i := 954) (by decide +kernel), List.mem_of_getElem? (i := 955) (by decide +kernel)⟩
theorem lw_p47 : lw_okq (⟨"ShapeMovesModel", "orbits", "()I"⟩, 22) := ⟨⟨by decide +kernel, by decide +kernel⟩, List.mem_of_getElem? (i := 660) (by decide +kernel), List.mem_of_getElem? (i := 958) (by decide +kernel), List.mem_of_getElem? (i := 959) (by decide +kernel)⟩
def lw_privs_3 : List (MethodName × Nat) := [(⟨"ShapeMovesModel", "clause", "()V"⟩, 22), (⟨"ShapeMovesModel", "here", "()I"⟩, 22), (⟨"ShapeMovesModel", "number", "()I"⟩, 22), (⟨"ShapeMovesModel", "digit", "()I"⟩, 22), (⟨"ShapeMovesModel", "comma", "()V"⟩, 22), (⟨"ShapeMovesModel", "done", "(I)I"⟩, 22), (⟨"ShapeMovesModel", "findsSigns", "()V"⟩, 22), (⟨"ShapeMovesModel", "findsMakers", "()V"⟩, 22), (⟨"ShapeMovesModel", "makesMore", "()Z"⟩, 22), (⟨"ShapeMovesModel", "isSign", "(I)Z"⟩, 22), (⟨"ShapeMovesModel", "spreads", "(I)Z"⟩, 22), (⟨"ShapeMovesModel", "toldSign", "(II)I"⟩, 22), (⟨"ShapeMovesModel", "classes", "()I"⟩, 22), (⟨"ShapeMovesModel", "classNumber", "(I)I"⟩, 22), (⟨"ShapeMovesModel", "leastOf", "(I)I"⟩, 22), (⟨"ShapeMovesModel", "orbits", "()I"⟩, 22)]
theorem lw_r3 : ∀ q ∈ lw_privs_3, lw_okq q := List.forall_mem_cons.mpr ⟨lw_p32, List.forall_mem_cons.mpr ⟨lw_p33, List.forall_mem_cons.mpr ⟨lw_p34, List.forall_mem_cons.mpr ⟨lw_p35, List.forall_mem_cons.mpr ⟨lw_p36, List.forall_mem_cons.mpr ⟨lw_p37, List.forall_mem_cons.mpr ⟨lw_p38, List.forall_mem_cons.mpr ⟨lw_p39, List.forall_mem_cons.mpr ⟨lw_p40, List.forall_mem_cons.mpr ⟨lw_p41, List.forall_mem_cons.mpr ⟨lw_p42, List.forall_mem_cons.mpr ⟨lw_p43, List.forall_mem_cons.mpr ⟨lw_p44, List.forall_mem_cons.mpr ⟨lw_p45, List.forall_mem_cons.mpr ⟨lw_p46, List.forall_mem_cons.mpr ⟨lw_p47, fun _ h => absurd h List.not_mem_nil⟩⟩⟩⟩⟩⟩⟩⟩⟩⟩⟩⟩⟩⟩⟩⟩
theorem lw_p48 : lw_okq (⟨"ShapeMovesModel", "isHanded", "()Z"⟩, 22) := ⟨⟨by decide +kernel, by decide +kernel⟩, List.mem_of_getElem? (i := 660) (by decide +kernel), List.mem_of_getElem? (i := 962) (by decide +kernel), List.mem_of_getElem? (i := 963) (by decide +kernel)⟩
theorem lw_p49 : lw_okq (⟨"ShapeMovesModel", "nearest", "()I"⟩, 22) := ⟨⟨by decide +kernel, by decide +kernel⟩, List.mem_of_getElem? (i := 660) (by decide +kernel), List.mem_of_getElem? (i := 966) (by decide +kernel), List.mem_of_getElem? (i := 967) (by decide +kernel)⟩
theorem lw_p50 : lw_okq (⟨"ShapeMovesModel", "classMany", "(I)I"⟩, 22) := ⟨⟨by decide +kernel, by decide +kernel⟩, List.mem_of_getElem? (i := 660) (by decide +kernel), List.mem_of_getElem? (i := 978) (by decide +kernel), List.mem_of_getElem? (i := 979) (by decide +kernel)⟩
theorem lw_p51 : lw_okq (⟨"ShapeMovesModel", "motionOf", "(II)I"⟩, 22) := ⟨⟨by decide +kernel, by decide +kernel⟩, List.mem_of_getElem? (i := 660) (by decide +kernel), List.mem_of_getElem? (i := 994) (by decide +kernel), List.mem_of_getElem? (i := 995) (by decide +kernel)⟩
theorem lw_p52 : lw_okq (⟨"ShapeMovesModel", "hasOf", "(II)I"⟩, 22) := ⟨⟨by decide +kernel, by decide +kernel⟩, List.mem_of_getElem? (i := 660) (by decide +kernel), List.mem_of_getElem? (i := 1006) (by decide +kernel), List.mem_of_getElem? (i := 1007) (by decide +kernel)⟩
theorem lw_p53 : lw_okq (⟨"ShapeMovesModel", "isSeen", "()Z"⟩, 22) := ⟨⟨by decide +kernel, by decide +kernel⟩, List.mem_of_getElem? (i := 660) (by decide +kernel), List.mem_of_getElem? (i := 1023) (by decide +kernel), List.mem_of_getElem? (i := 1024) (by decide +kernel)⟩
theorem lw_p54 : lw_okq (⟨"ShapeMovesModel", "happens", "(II)V"⟩, 22) := ⟨⟨by decide +kernel, by decide +kernel⟩, List.mem_of_getElem? (i := 660) (by decide +kernel), List.mem_of_getElem? (i := 1053) (by decide +kernel), List.mem_of_getElem? (i := 1054) (by decide +kernel)⟩
theorem lw_p55 : lw_okq (⟨"ShapeMovesModel", "goesBy", "(II)V"⟩, 22) := ⟨⟨by decide +kernel, by decide +kernel⟩, List.mem_of_getElem? (i := 660) (by decide +kernel), List.mem_of_getElem? (i := 1057) (by decide +kernel), List.mem_of_getElem? (i := 1058) (by decide +kernel)⟩
def lw_privs_4 : List (MethodName × Nat) := [(⟨"ShapeMovesModel", "isHanded", "()Z"⟩, 22), (⟨"ShapeMovesModel", "nearest", "()I"⟩, 22), (⟨"ShapeMovesModel", "classMany", "(I)I"⟩, 22), (⟨"ShapeMovesModel", "motionOf", "(II)I"⟩, 22), (⟨"ShapeMovesModel", "hasOf", "(II)I"⟩, 22), (⟨"ShapeMovesModel", "isSeen", "()Z"⟩, 22), (⟨"ShapeMovesModel", "happens", "(II)V"⟩, 22), (⟨"ShapeMovesModel", "goesBy", "(II)V"⟩, 22)]
theorem lw_r4 : ∀ q ∈ lw_privs_4, lw_okq q := List.forall_mem_cons.mpr ⟨lw_p48, List.forall_mem_cons.mpr ⟨lw_p49, List.forall_mem_cons.mpr ⟨lw_p50, List.forall_mem_cons.mpr ⟨lw_p51, List.forall_mem_cons.mpr ⟨lw_p52, List.forall_mem_cons.mpr ⟨lw_p53, List.forall_mem_cons.mpr ⟨lw_p54, List.forall_mem_cons.mpr ⟨lw_p55, fun _ h => absurd h List.not_mem_nil⟩⟩⟩⟩⟩⟩⟩⟩
def lw_privs : List (MethodName × Nat) := lw_privs_1 ++ (lw_privs_2 ++ (lw_privs_3 ++ (lw_privs_4)))
def lw_tbl : List Cond := k2_sels lw_privs ++ tables_1
theorem lw_privs_ok : ∀ q ∈ lw_privs, lw_okq q := by
  show ∀ q ∈ lw_privs_1 ++ (lw_privs_2 ++ (lw_privs_3 ++ (lw_privs_4))), lw_okq q
  exact List.forall_mem_append.mpr ⟨lw_r1, List.forall_mem_append.mpr ⟨lw_r2, List.forall_mem_append.mpr ⟨lw_r3, lw_r4⟩⟩⟩

def RX0 : String := "ShapeMoves$Group"
def TX0 : u_T := fun k => match k with
  | 0 => ("ShapeMoves$Group", "members", "[Z", true)
  | 1 => ("ShapeMoves$Group", "byNumber", "[I", true)
  | 2 => ("ShapeMoves$Group", "size", "I", false)
  | 3 => ("ShapeMoves$Group", "stay", "[I", true)
  | 4 => ("ShapeMoves$Group", "orbits", "[I", true)
  | 5 => ("ShapeMoves$Group", "orbitsInAll", "I", false)
  | 6 => ("ShapeMoves$Group", "classLeast", "[I", true)
  | 7 => ("ShapeMoves$Group", "classList", "[I", true)
  | 8 => ("ShapeMoves$Group", "classes", "I", false)
  | 9 => ("ShapeMoves$Group", "parts", "[I", true)
  | 10 => ("ShapeMoves$Group", "reached", "[I", true)
  | 11 => ("ShapeMoves$Group", "reachedInAll", "I", false)
  | _ => ("ShapeMoves$Group", "signs", "I", false)
def tyX0 : Nat → FieldType := fun k => match k with
  | 0 => .array .boolean
  | 1 => .array .int
  | 2 => .int
  | 3 => .array .int
  | 4 => .array .int
  | 5 => .int
  | 6 => .array .int
  | 7 => .array .int
  | 8 => .int
  | 9 => .array .int
  | 10 => .array .int
  | 11 => .int
  | _ => .int
abbrev wsX00 : List Cond := u_ws RX0 TX0 13
theorem nmX0 : ∀ a, a < 13 → ∀ b, b < 13 → a ≠ b → (TX0 a).2.1 ≠ (TX0 b).2.1 := by decide +kernel
theorem tyX0_ok : ∀ k, k < 13 → parseFieldDescriptor (TX0 k).2.2.1 = some (tyX0 k) := by decide +kernel
abbrev cX0_init : ByteArray := prog_2_method_1_code
def yX0_init : MethodName := ⟨RX0, "<init>", "()V"⟩
abbrev cX0_find : ByteArray := prog_2_method_2_code
def yX0_find : MethodName := ⟨RX0, "find", "(LShapeMoves$Shape;)V"⟩
abbrev cX0_findOrbits : ByteArray := prog_2_method_3_code
def yX0_findOrbits : MethodName := ⟨RX0, "findOrbits", "(LShapeMoves$Shape;)V"⟩
abbrev cX0_findOrbit : ByteArray := prog_2_method_4_code
def yX0_findOrbit : MethodName := ⟨RX0, "findOrbit", "(LShapeMoves$Shape;I)V"⟩
abbrev cX0_findClasses : ByteArray := prog_2_method_5_code
def yX0_findClasses : MethodName := ⟨RX0, "findClasses", "()V"⟩
abbrev cX0_findClass : ByteArray := prog_2_method_6_code
def yX0_findClass : MethodName := ⟨RX0, "findClass", "(I)V"⟩
abbrev cX0_sizeOfClass : ByteArray := prog_2_method_7_code
def yX0_sizeOfClass : MethodName := ⟨RX0, "sizeOfClass", "(I)I"⟩
abbrev cX0_isHanded : ByteArray := prog_2_method_8_code
def yX0_isHanded : MethodName := ⟨RX0, "isHanded", "()Z"⟩
abbrev cX0_ordersTogether : ByteArray := prog_2_method_9_code
def yX0_ordersTogether : MethodName := ⟨RX0, "ordersTogether", "()I"⟩
abbrev cX0_motionOf : ByteArray := prog_2_method_10_code
def yX0_motionOf : MethodName := ⟨RX0, "motionOf", "(II)I"⟩
abbrev cX0_timesOf : ByteArray := prog_2_method_11_code
def yX0_timesOf : MethodName := ⟨RX0, "timesOf", "(II)I"⟩
abbrev cX0_signsInAll : ByteArray := prog_2_method_12_code
def yX0_signsInAll : MethodName := ⟨RX0, "signsInAll", "()I"⟩
abbrev cX0_signOf : ByteArray := prog_2_method_13_code
def yX0_signOf : MethodName := ⟨RX0, "signOf", "(II)I"⟩
abbrev cX0_findSigns : ByteArray := prog_2_method_14_code
def yX0_findSigns : MethodName := ⟨RX0, "findSigns", "()V"⟩
abbrev cX0_findMadeOfSquares : ByteArray := prog_2_method_15_code
def yX0_findMadeOfSquares : MethodName := ⟨RX0, "findMadeOfSquares", "()V"⟩
abbrev cX0_reach : ByteArray := prog_2_method_16_code
def yX0_reach : MethodName := ⟨RX0, "reach", "(II)V"⟩
abbrev cX0_addFree : ByteArray := prog_2_method_17_code
def yX0_addFree : MethodName := ⟨RX0, "addFree", "(I)V"⟩
def RX1 : String := "ShapeMoves$Moves"
def TX1 : u_T := fun k => match k with
  | _ => ("", "", "", false)
def tyX1 : Nat → FieldType := fun k => match k with
  | _ => .int
abbrev wsX10 : List Cond := u_ws RX1 TX1 0
theorem nmX1 : ∀ a, a < 0 → ∀ b, b < 0 → a ≠ b → (TX1 a).2.1 ≠ (TX1 b).2.1 := by decide +kernel
theorem tyX1_ok : ∀ k, k < 0 → parseFieldDescriptor (TX1 k).2.2.1 = some (tyX1 k) := by decide +kernel
abbrev cX1_isMove : ByteArray := prog_3_method_2_code
def yX1_isMove : MethodName := ⟨RX1, "isMove", "(I)Z"⟩
abbrev cX1_axisAt : ByteArray := prog_3_method_3_code
def yX1_axisAt : MethodName := ⟨RX1, "axisAt", "(II)I"⟩
abbrev cX1_signBit : ByteArray := prog_3_method_4_code
def yX1_signBit : MethodName := ⟨RX1, "signBit", "(II)I"⟩
abbrev cX1_multiply : ByteArray := prog_3_method_5_code
def yX1_multiply : MethodName := ⟨RX1, "multiply", "(II)I"⟩
abbrev cX1_invert : ByteArray := prog_3_method_6_code
def yX1_invert : MethodName := ⟨RX1, "invert", "(I)I"⟩
abbrev cX1_orderOf : ByteArray := prog_3_method_7_code
def yX1_orderOf : MethodName := ⟨RX1, "orderOf", "(I)I"⟩
abbrev cX1_traceOf : ByteArray := prog_3_method_8_code
def yX1_traceOf : MethodName := ⟨RX1, "traceOf", "(I)I"⟩
abbrev cX1_turnOf : ByteArray := prog_3_method_9_code
def yX1_turnOf : MethodName := ⟨RX1, "turnOf", "(I)I"⟩
def RX2 : String := "ShapeMoves$Rows"
def TX2 : u_T := fun k => match k with
  | 0 => ("ShapeMoves$Rows", "first", "[I", true)
  | 1 => ("ShapeMoves$Rows", "second", "[I", true)
  | _ => ("ShapeMoves$Rows", "size", "I", false)
def tyX2 : Nat → FieldType := fun k => match k with
  | 0 => .array .int
  | 1 => .array .int
  | _ => .int
abbrev wsX20 : List Cond := u_ws RX2 TX2 3
theorem nmX2 : ∀ a, a < 3 → ∀ b, b < 3 → a ≠ b → (TX2 a).2.1 ≠ (TX2 b).2.1 := by decide +kernel
theorem tyX2_ok : ∀ k, k < 3 → parseFieldDescriptor (TX2 k).2.2.1 = some (tyX2 k) := by decide +kernel
abbrev cX2_init : ByteArray := prog_4_method_1_code
def yX2_init : MethodName := ⟨RX2, "<init>", "(I)V"⟩
abbrev cX2_isFull : ByteArray := prog_4_method_2_code
def yX2_isFull : MethodName := ⟨RX2, "isFull", "()Z"⟩
abbrev cX2_add : ByteArray := prog_4_method_3_code
def yX2_add : MethodName := ⟨RX2, "add", "(II)I"⟩
abbrev cX2_empty : ByteArray := prog_4_method_4_code
def yX2_empty : MethodName := ⟨RX2, "empty", "()I"⟩
abbrev cX2_become : ByteArray := prog_4_method_5_code
def yX2_become : MethodName := ⟨RX2, "become", "(LShapeMoves$Rows;)V"⟩
def RX3 : String := "ShapeMoves$Setup"
def TX3 : u_T := fun k => match k with
  | 0 => ("ShapeMoves$Setup", "shape", "LShapeMoves$Shape;", true)
  | 1 => ("ShapeMoves$Setup", "seen", "LShapeMoves$Rows;", true)
  | 2 => ("ShapeMoves$Setup", "events", "LShapeMoves$Rows;", true)
  | _ => ("ShapeMoves$Setup", "book", "LShapeMoves$Rows;", true)
def tyX3 : Nat → FieldType := fun k => match k with
  | 0 => .object "ShapeMoves$Shape"
  | 1 => .object "ShapeMoves$Rows"
  | 2 => .object "ShapeMoves$Rows"
  | _ => .object "ShapeMoves$Rows"
abbrev wsX30 : List Cond := u_ws RX3 TX3 4
theorem nmX3 : ∀ a, a < 4 → ∀ b, b < 4 → a ≠ b → (TX3 a).2.1 ≠ (TX3 b).2.1 := by decide +kernel
theorem tyX3_ok : ∀ k, k < 4 → parseFieldDescriptor (TX3 k).2.2.1 = some (tyX3 k) := by decide +kernel
abbrev cX3_init : ByteArray := prog_5_method_1_code
def yX3_init : MethodName := ⟨RX3, "<init>", "()V"⟩
abbrev cX3_become : ByteArray := prog_5_method_2_code
def yX3_become : MethodName := ⟨RX3, "become", "(LShapeMoves$Setup;)V"⟩
def RX4 : String := "ShapeMoves$Shape"
def TX4 : u_T := fun k => match k with
  | 0 => ("ShapeMoves$Shape", "places", "[I", true)
  | 1 => ("ShapeMoves$Shape", "marks", "[I", true)
  | _ => ("ShapeMoves$Shape", "size", "I", false)
def tyX4 : Nat → FieldType := fun k => match k with
  | 0 => .array .int
  | 1 => .array .int
  | _ => .int
abbrev wsX40 : List Cond := u_ws RX4 TX4 3
theorem nmX4 : ∀ a, a < 3 → ∀ b, b < 3 → a ≠ b → (TX4 a).2.1 ≠ (TX4 b).2.1 := by decide +kernel
theorem tyX4_ok : ∀ k, k < 3 → parseFieldDescriptor (TX4 k).2.2.1 = some (tyX4 k) := by decide +kernel
abbrev cX4_init : ByteArray := prog_6_method_1_code
def yX4_init : MethodName := ⟨RX4, "<init>", "()V"⟩
abbrev cX4_become : ByteArray := prog_6_method_2_code
def yX4_become : MethodName := ⟨RX4, "become", "(LShapeMoves$Shape;)V"⟩
abbrev cX4_add : ByteArray := prog_6_method_3_code
def yX4_add : MethodName := ⟨RX4, "add", "(IIII)I"⟩
abbrev cX4_setPlace : ByteArray := prog_6_method_4_code
def yX4_setPlace : MethodName := ⟨RX4, "setPlace", "(IIII)V"⟩
abbrev cX4_remove : ByteArray := prog_6_method_5_code
def yX4_remove : MethodName := ⟨RX4, "remove", "(I)V"⟩
abbrev cX4_pointAt : ByteArray := prog_6_method_6_code
def yX4_pointAt : MethodName := ⟨RX4, "pointAt", "(III)I"⟩
abbrev cX4_axisBehind : ByteArray := prog_6_method_7_code
def yX4_axisBehind : MethodName := ⟨RX4, "axisBehind", "(III)I"⟩
abbrev cX4_pointBehind : ByteArray := prog_6_method_8_code
def yX4_pointBehind : MethodName := ⟨RX4, "pointBehind", "(II)I"⟩
abbrev cX4_isMovedBy : ByteArray := prog_6_method_9_code
def yX4_isMovedBy : MethodName := ⟨RX4, "isMovedBy", "(II)Z"⟩
abbrev cX4_movedBy : ByteArray := prog_6_method_10_code
def yX4_movedBy : MethodName := ⟨RX4, "movedBy", "(I)I"⟩
abbrev cX4_isKeptBy : ByteArray := prog_6_method_11_code
def yX4_isKeptBy : MethodName := ⟨RX4, "isKeptBy", "(I)Z"⟩
abbrev cX4_keepers : ByteArray := prog_6_method_12_code
def yX4_keepers : MethodName := ⟨RX4, "keepers", "()I"⟩
abbrev cX4_happen : ByteArray := prog_6_method_13_code
def yX4_happen : MethodName := ⟨RX4, "happen", "(II)V"⟩
abbrev cX4_replaceMark : ByteArray := prog_6_method_14_code
def yX4_replaceMark : MethodName := ⟨RX4, "replaceMark", "(I)V"⟩
abbrev cX4_takeBy : ByteArray := prog_6_method_15_code
def yX4_takeBy : MethodName := ⟨RX4, "takeBy", "(I)V"⟩
abbrev cX4_markAll : ByteArray := prog_6_method_16_code
def yX4_markAll : MethodName := ⟨RX4, "markAll", "(I)V"⟩
def RX5 : String := "ShapeMoves$Tape"
def TX5 : u_T := fun k => match k with
  | 0 => ("ShapeMoves$Tape", "items", "[J", true)
  | 1 => ("ShapeMoves$Tape", "sort", "I", false)
  | _ => ("ShapeMoves$Tape", "size", "I", false)
def tyX5 : Nat → FieldType := fun k => match k with
  | 0 => .array .long
  | 1 => .int
  | _ => .int
abbrev wsX50 : List Cond := u_ws RX5 TX5 3
theorem nmX5 : ∀ a, a < 3 → ∀ b, b < 3 → a ≠ b → (TX5 a).2.1 ≠ (TX5 b).2.1 := by decide +kernel
theorem tyX5_ok : ∀ k, k < 3 → parseFieldDescriptor (TX5 k).2.2.1 = some (tyX5 k) := by decide +kernel
abbrev cX5_init : ByteArray := prog_7_method_1_code
def yX5_init : MethodName := ⟨RX5, "<init>", "()V"⟩
abbrev cX5_become : ByteArray := prog_7_method_2_code
def yX5_become : MethodName := ⟨RX5, "become", "(II)V"⟩
abbrev cX5_hasPlace : ByteArray := prog_7_method_3_code
def yX5_hasPlace : MethodName := ⟨RX5, "hasPlace", "(I)Z"⟩
abbrev cX5_hasRun : ByteArray := prog_7_method_4_code
def yX5_hasRun : MethodName := ⟨RX5, "hasRun", "(II)Z"⟩
abbrev cX5_asItem : ByteArray := prog_7_method_5_code
def yX5_asItem : MethodName := ⟨RX5, "asItem", "(J)J"⟩
def RX6 : String := "ShapeMoves$Text"
def TX6 : u_T := fun k => match k with
  | 0 => ("ShapeMoves$Text", "signs", "[B", true)
  | 1 => ("ShapeMoves$Text", "size", "I", false)
  | 2 => ("ShapeMoves$Text", "place", "I", false)
  | 3 => ("ShapeMoves$Text", "parts", "[I", true)
  | _ => ("ShapeMoves$Text", "clauses", "I", false)
def tyX6 : Nat → FieldType := fun k => match k with
  | 0 => .array .byte
  | 1 => .int
  | 2 => .int
  | 3 => .array .int
  | _ => .int
abbrev wsX60 : List Cond := u_ws RX6 TX6 5
theorem nmX6 : ∀ a, a < 5 → ∀ b, b < 5 → a ≠ b → (TX6 a).2.1 ≠ (TX6 b).2.1 := by decide +kernel
theorem tyX6_ok : ∀ k, k < 5 → parseFieldDescriptor (TX6 k).2.2.1 = some (tyX6 k) := by decide +kernel
abbrev cX6_init : ByteArray := prog_8_method_1_code
def yX6_init : MethodName := ⟨RX6, "<init>", "()V"⟩
abbrev cX6_add : ByteArray := prog_8_method_2_code
def yX6_add : MethodName := ⟨RX6, "add", "(I)I"⟩
abbrev cX6_part : ByteArray := prog_8_method_3_code
def yX6_part : MethodName := ⟨RX6, "part", "(II)I"⟩
abbrev cX6_parse : ByteArray := prog_8_method_4_code
def yX6_parse : MethodName := ⟨RX6, "parse", "()I"⟩
abbrev cX6_takeClause : ByteArray := prog_8_method_5_code
def yX6_takeClause : MethodName := ⟨RX6, "takeClause", "(I)Z"⟩
abbrev cX6_takeAxis : ByteArray := prog_8_method_6_code
def yX6_takeAxis : MethodName := ⟨RX6, "takeAxis", "(I)Z"⟩
abbrev cX6_takeDigit : ByteArray := prog_8_method_7_code
def yX6_takeDigit : MethodName := ⟨RX6, "takeDigit", "(I)Z"⟩
abbrev cX6_takeSign : ByteArray := prog_8_method_8_code
def yX6_takeSign : MethodName := ⟨RX6, "takeSign", "(C)Z"⟩
def RX7 : String := "ShapeMoves"
def TX7 : u_T := fun k => match k with
  | 0 => ("ShapeMoves", "now", "LShapeMoves$Setup;", true)
  | 1 => ("ShapeMoves", "imaged", "LShapeMoves$Setup;", true)
  | 2 => ("ShapeMoves", "isImaged", "Z", false)
  | 3 => ("ShapeMoves", "nowGroup", "LShapeMoves$Group;", true)
  | 4 => ("ShapeMoves", "isGroupOld", "Z", false)
  | 5 => ("ShapeMoves", "trial", "LShapeMoves$Shape;", true)
  | 6 => ("ShapeMoves", "trialGroup", "LShapeMoves$Group;", true)
  | 7 => ("ShapeMoves", "text", "LShapeMoves$Text;", true)
  | _ => ("ShapeMoves", "tapes", "[LShapeMoves$Tape;", true)
def tyX7 : Nat → FieldType := fun k => match k with
  | 0 => .object "ShapeMoves$Setup"
  | 1 => .object "ShapeMoves$Setup"
  | 2 => .boolean
  | 3 => .object "ShapeMoves$Group"
  | 4 => .boolean
  | 5 => .object "ShapeMoves$Shape"
  | 6 => .object "ShapeMoves$Group"
  | 7 => .object "ShapeMoves$Text"
  | _ => .array (.object "ShapeMoves$Tape")
abbrev wsX70 : List Cond := u_ws RX7 TX7 9
theorem nmX7 : ∀ a, a < 9 → ∀ b, b < 9 → a ≠ b → (TX7 a).2.1 ≠ (TX7 b).2.1 := by decide +kernel
theorem tyX7_ok : ∀ k, k < 9 → parseFieldDescriptor (TX7 k).2.2.1 = some (tyX7 k) := by decide +kernel
abbrev cX7_init : ByteArray := prog_1_method_1_code
def yX7_init : MethodName := ⟨RX7, "<init>", "()V"⟩
abbrev cX7_point : ByteArray := prog_1_method_2_code
def yX7_point : MethodName := ⟨RX7, "point", "(IIII)I"⟩
abbrev cX7_mark : ByteArray := prog_1_method_3_code
def yX7_mark : MethodName := ⟨RX7, "mark", "(II)I"⟩
abbrev cX7_drop : ByteArray := prog_1_method_4_code
def yX7_drop : MethodName := ⟨RX7, "drop", "(I)I"⟩
abbrev cX7_of : ByteArray := prog_1_method_5_code
def yX7_of : MethodName := ⟨RX7, "of", "(II)I"⟩
abbrev cX7_at : ByteArray := prog_1_method_6_code
def yX7_at : MethodName := ⟨RX7, "at", "(III)I"⟩
abbrev cX7_feed : ByteArray := prog_1_method_7_code
def yX7_feed : MethodName := ⟨RX7, "feed", "(I)I"⟩
abbrev cX7_read : ByteArray := prog_1_method_8_code
def yX7_read : MethodName := ⟨RX7, "read", "()I"⟩
abbrev cX7_doClause : ByteArray := prog_1_method_9_code
def yX7_doClause : MethodName := ⟨RX7, "doClause", "(I)Z"⟩
abbrev cX7_product : ByteArray := prog_1_method_10_code
def yX7_product : MethodName := ⟨RX7, "product", "(II)I"⟩
abbrev cX7_move : ByteArray := prog_1_method_11_code
def yX7_move : MethodName := ⟨RX7, "move", "(II)I"⟩
abbrev cX7_trace : ByteArray := prog_1_method_12_code
def yX7_trace : MethodName := ⟨RX7, "trace", "(II)I"⟩
abbrev cX7_takes : ByteArray := prog_1_method_13_code
def yX7_takes : MethodName := ⟨RX7, "takes", "(II)I"⟩
abbrev cX7_told : ByteArray := prog_1_method_14_code
def yX7_told : MethodName := ⟨RX7, "told", "(I)I"⟩
abbrev cX7_nearest : ByteArray := prog_1_method_15_code
def yX7_nearest : MethodName := ⟨RX7, "nearest", "(LShapeMoves$Group;)I"⟩
abbrev cX7_group : ByteArray := prog_1_method_16_code
def yX7_group : MethodName := ⟨RX7, "group", "(I)I"⟩
abbrev cX7_classOf : ByteArray := prog_1_method_17_code
def yX7_classOf : MethodName := ⟨RX7, "classOf", "(II)I"⟩
abbrev cX7_classAt : ByteArray := prog_1_method_18_code
def yX7_classAt : MethodName := ⟨RX7, "classAt", "(I)I"⟩
abbrev cX7_motion : ByteArray := prog_1_method_19_code
def yX7_motion : MethodName := ⟨RX7, "motion", "(II)I"⟩
abbrev cX7_sign : ByteArray := prog_1_method_20_code
def yX7_sign : MethodName := ⟨RX7, "sign", "(II)I"⟩
abbrev cX7_has : ByteArray := prog_1_method_21_code
def yX7_has : MethodName := ⟨RX7, "has", "(II)I"⟩
abbrev cX7_active : ByteArray := prog_1_method_22_code
def yX7_active : MethodName := ⟨RX7, "active", "(I)I"⟩
abbrev cX7_isActive : ByteArray := prog_1_method_23_code
def yX7_isActive : MethodName := ⟨RX7, "isActive", "(LShapeMoves$Group;II)Z"⟩
abbrev cX7_see : ByteArray := prog_1_method_24_code
def yX7_see : MethodName := ⟨RX7, "see", "(IZ)I"⟩
abbrev cX7_fits : ByteArray := prog_1_method_25_code
def yX7_fits : MethodName := ⟨RX7, "fits", "(II)I"⟩
abbrev cX7_isAllAsSeen : ByteArray := prog_1_method_26_code
def yX7_isAllAsSeen : MethodName := ⟨RX7, "isAllAsSeen", "(LShapeMoves$Shape;)Z"⟩
abbrev cX7_odds : ByteArray := prog_1_method_27_code
def yX7_odds : MethodName := ⟨RX7, "odds", "(III)J"⟩
abbrev cX7_mean : ByteArray := prog_1_method_28_code
def yX7_mean : MethodName := ⟨RX7, "mean", "(I)J"⟩
abbrev cX7_partOfFraction : ByteArray := prog_1_method_29_code
def yX7_partOfFraction : MethodName := ⟨RX7, "partOfFraction", "(III)I"⟩
abbrev cX7_event : ByteArray := prog_1_method_30_code
def yX7_event : MethodName := ⟨RX7, "event", "(II)I"⟩
abbrev cX7_isForEvent : ByteArray := prog_1_method_31_code
def yX7_isForEvent : MethodName := ⟨RX7, "isForEvent", "(II)Z"⟩
abbrev cX7_after : ByteArray := prog_1_method_32_code
def yX7_after : MethodName := ⟨RX7, "after", "(I)I"⟩
abbrev cX7_book : ByteArray := prog_1_method_33_code
def yX7_book : MethodName := ⟨RX7, "book", "(II)I"⟩
abbrev cX7_looked : ByteArray := prog_1_method_34_code
def yX7_looked : MethodName := ⟨RX7, "looked", "()I"⟩
abbrev cX7_judge : ByteArray := prog_1_method_35_code
def yX7_judge : MethodName := ⟨RX7, "judge", "(II)I"⟩
abbrev cX7_image : ByteArray := prog_1_method_36_code
def yX7_image : MethodName := ⟨RX7, "image", "()I"⟩
abbrev cX7_undo : ByteArray := prog_1_method_37_code
def yX7_undo : MethodName := ⟨RX7, "undo", "()I"⟩
abbrev cX7_count : ByteArray := prog_1_method_38_code
def yX7_count : MethodName := ⟨RX7, "count", "(I)I"⟩
abbrev cX7_tape : ByteArray := prog_1_method_39_code
def yX7_tape : MethodName := ⟨RX7, "tape", "(III)I"⟩
abbrev cX7_item : ByteArray := prog_1_method_40_code
def yX7_item : MethodName := ⟨RX7, "item", "(IIJ)I"⟩
abbrev cX7_peek : ByteArray := prog_1_method_41_code
def yX7_peek : MethodName := ⟨RX7, "peek", "(II)J"⟩
abbrev cX7_shift : ByteArray := prog_1_method_42_code
def yX7_shift : MethodName := ⟨RX7, "shift", "(IIIII)I"⟩
abbrev cX7_groupNow : ByteArray := prog_1_method_43_code
def yX7_groupNow : MethodName := ⟨RX7, "groupNow", "()LShapeMoves$Group;"⟩
abbrev cX7_isPoint : ByteArray := prog_1_method_44_code
def yX7_isPoint : MethodName := ⟨RX7, "isPoint", "(I)Z"⟩
abbrev cX7_isPlace : ByteArray := prog_1_method_45_code
def yX7_isPlace : MethodName := ⟨RX7, "isPlace", "(III)Z"⟩
abbrev cX7_isAxis : ByteArray := prog_1_method_46_code
def yX7_isAxis : MethodName := ⟨RX7, "isAxis", "(I)Z"⟩
abbrev cX7_isMark : ByteArray := prog_1_method_47_code
def yX7_isMark : MethodName := ⟨RX7, "isMark", "(I)Z"⟩
abbrev cX7_isMotion : ByteArray := prog_1_method_48_code
def yX7_isMotion : MethodName := ⟨RX7, "isMotion", "(I)Z"⟩
abbrev cX7_isPart : ByteArray := prog_1_method_49_code
def yX7_isPart : MethodName := ⟨RX7, "isPart", "(I)Z"⟩
abbrev cX7_isTape : ByteArray := prog_1_method_50_code
def yX7_isTape : MethodName := ⟨RX7, "isTape", "(I)Z"⟩
def RX8 : String := "ShapeMovesModel"
def TX8 : u_T := fun k => match k with
  | 0 => ("ShapeMovesModel", "w", "[I", true)
  | 1 => ("ShapeMovesModel", "aside", "[I", true)
  | 2 => ("ShapeMovesModel", "kept", "[I", true)
  | 3 => ("ShapeMovesModel", "hasImage", "Z", false)
  | 4 => ("ShapeMovesModel", "group", "[I", true)
  | 5 => ("ShapeMovesModel", "isIn", "[Z", true)
  | 6 => ("ShapeMovesModel", "size", "I", false)
  | 7 => ("ShapeMovesModel", "makers", "[I", true)
  | 8 => ("ShapeMovesModel", "makerMany", "I", false)
  | 9 => ("ShapeMovesModel", "made", "[Z", true)
  | 10 => ("ShapeMovesModel", "sign", "[I", true)
  | 11 => ("ShapeMovesModel", "signs", "[I", true)
  | 12 => ("ShapeMovesModel", "signMany", "I", false)
  | 13 => ("ShapeMovesModel", "text", "[I", true)
  | 14 => ("ShapeMovesModel", "length", "I", false)
  | 15 => ("ShapeMovesModel", "place", "I", false)
  | 16 => ("ShapeMovesModel", "isWrong", "Z", false)
  | 17 => ("ShapeMovesModel", "told", "[I", true)
  | 18 => ("ShapeMovesModel", "toldMany", "I", false)
  | 19 => ("ShapeMovesModel", "sorts", "[I", true)
  | 20 => ("ShapeMovesModel", "sizes", "[I", true)
  | _ => ("ShapeMovesModel", "items", "[J", true)
def tyX8 : Nat → FieldType := fun k => match k with
  | 0 => .array .int
  | 1 => .array .int
  | 2 => .array .int
  | 3 => .boolean
  | 4 => .array .int
  | 5 => .array .boolean
  | 6 => .int
  | 7 => .array .int
  | 8 => .int
  | 9 => .array .boolean
  | 10 => .array .int
  | 11 => .array .int
  | 12 => .int
  | 13 => .array .int
  | 14 => .int
  | 15 => .int
  | 16 => .boolean
  | 17 => .array .int
  | 18 => .int
  | 19 => .array .int
  | 20 => .array .int
  | _ => .array .long
abbrev wsX80 : List Cond := u_ws RX8 TX8 22
theorem nmX8 : ∀ a, a < 22 → ∀ b, b < 22 → a ≠ b → (TX8 a).2.1 ≠ (TX8 b).2.1 := by decide +kernel
theorem tyX8_ok : ∀ k, k < 22 → parseFieldDescriptor (TX8 k).2.2.1 = some (tyX8 k) := by decide +kernel
abbrev cX8_init : ByteArray := prog_10_method_1_code
def yX8_init : MethodName := ⟨RX8, "<init>", "()V"⟩
abbrev cX8_in : ByteArray := prog_10_method_2_code
def yX8_in : MethodName := ⟨RX8, "in", "(JJJ)Z"⟩
abbrev cX8_copies : ByteArray := prog_10_method_3_code
def yX8_copies : MethodName := ⟨RX8, "copies", "([I[I)V"⟩
abbrev cX8_isPoint : ByteArray := prog_10_method_4_code
def yX8_isPoint : MethodName := ⟨RX8, "isPoint", "(I)Z"⟩
abbrev cX8_isMove : ByteArray := prog_10_method_5_code
def yX8_isMove : MethodName := ⟨RX8, "isMove", "(I)Z"⟩
abbrev cX8_axis : ByteArray := prog_10_method_6_code
def yX8_axis : MethodName := ⟨RX8, "axis", "(II)I"⟩
abbrev cX8_bit : ByteArray := prog_10_method_7_code
def yX8_bit : MethodName := ⟨RX8, "bit", "(II)I"⟩
abbrev cX8_wayOf : ByteArray := prog_10_method_8_code
def yX8_wayOf : MethodName := ⟨RX8, "wayOf", "(III)I"⟩
abbrev cX8_times : ByteArray := prog_10_method_9_code
def yX8_times : MethodName := ⟨RX8, "times", "(II)I"⟩
abbrev cX8_inverse : ByteArray := prog_10_method_10_code
def yX8_inverse : MethodName := ⟨RX8, "inverse", "(I)I"⟩
abbrev cX8_orderOf : ByteArray := prog_10_method_11_code
def yX8_orderOf : MethodName := ⟨RX8, "orderOf", "(I)I"⟩
abbrev cX8_traceOf : ByteArray := prog_10_method_12_code
def yX8_traceOf : MethodName := ⟨RX8, "traceOf", "(I)I"⟩
abbrev cX8_turnOf : ByteArray := prog_10_method_13_code
def yX8_turnOf : MethodName := ⟨RX8, "turnOf", "(I)I"⟩
abbrev cX8_pointAt : ByteArray := prog_10_method_14_code
def yX8_pointAt : MethodName := ⟨RX8, "pointAt", "(III)I"⟩
abbrev cX8_moved : ByteArray := prog_10_method_15_code
def yX8_moved : MethodName := ⟨RX8, "moved", "(III)I"⟩
abbrev cX8_goesTo : ByteArray := prog_10_method_16_code
def yX8_goesTo : MethodName := ⟨RX8, "goesTo", "(II)I"⟩
abbrev cX8_markOf : ByteArray := prog_10_method_17_code
def yX8_markOf : MethodName := ⟨RX8, "markOf", "(I)I"⟩
abbrev cX8_movedMany : ByteArray := prog_10_method_18_code
def yX8_movedMany : MethodName := ⟨RX8, "movedMany", "(I)I"⟩
abbrev cX8_finds : ByteArray := prog_10_method_19_code
def yX8_finds : MethodName := ⟨RX8, "finds", "()V"⟩
abbrev cX8_leastOf : ByteArray := prog_10_method_20_code
def yX8_leastOf : MethodName := ⟨RX8, "leastOf", "(I)I"⟩
abbrev cX8_classMany : ByteArray := prog_10_method_21_code
def yX8_classMany : MethodName := ⟨RX8, "classMany", "(I)I"⟩
abbrev cX8_classNumber : ByteArray := prog_10_method_22_code
def yX8_classNumber : MethodName := ⟨RX8, "classNumber", "(I)I"⟩
abbrev cX8_classes : ByteArray := prog_10_method_23_code
def yX8_classes : MethodName := ⟨RX8, "classes", "()I"⟩
abbrev cX8_orbitOf : ByteArray := prog_10_method_24_code
def yX8_orbitOf : MethodName := ⟨RX8, "orbitOf", "(I)I"⟩
abbrev cX8_orbits : ByteArray := prog_10_method_25_code
def yX8_orbits : MethodName := ⟨RX8, "orbits", "()I"⟩
abbrev cX8_isHanded : ByteArray := prog_10_method_26_code
def yX8_isHanded : MethodName := ⟨RX8, "isHanded", "()Z"⟩
abbrev cX8_nearest : ByteArray := prog_10_method_27_code
def yX8_nearest : MethodName := ⟨RX8, "nearest", "()I"⟩
abbrev cX8_makesMore : ByteArray := prog_10_method_28_code
def yX8_makesMore : MethodName := ⟨RX8, "makesMore", "()Z"⟩
abbrev cX8_findsMakers : ByteArray := prog_10_method_29_code
def yX8_findsMakers : MethodName := ⟨RX8, "findsMakers", "()V"⟩
abbrev cX8_toldSign : ByteArray := prog_10_method_30_code
def yX8_toldSign : MethodName := ⟨RX8, "toldSign", "(II)I"⟩
abbrev cX8_spreads : ByteArray := prog_10_method_31_code
def yX8_spreads : MethodName := ⟨RX8, "spreads", "(I)Z"⟩
abbrev cX8_isSign : ByteArray := prog_10_method_32_code
def yX8_isSign : MethodName := ⟨RX8, "isSign", "(I)Z"⟩
abbrev cX8_findsSigns : ByteArray := prog_10_method_33_code
def yX8_findsSigns : MethodName := ⟨RX8, "findsSigns", "()V"⟩
abbrev cX8_motionOf : ByteArray := prog_10_method_34_code
def yX8_motionOf : MethodName := ⟨RX8, "motionOf", "(II)I"⟩
abbrev cX8_hasOf : ByteArray := prog_10_method_35_code
def yX8_hasOf : MethodName := ⟨RX8, "hasOf", "(II)I"⟩
abbrev cX8_comes : ByteArray := prog_10_method_36_code
def yX8_comes : MethodName := ⟨RX8, "comes", "(IIII)I"⟩
abbrev cX8_point : ByteArray := prog_10_method_37_code
def yX8_point : MethodName := ⟨RX8, "point", "(IIII)I"⟩
abbrev cX8_mark : ByteArray := prog_10_method_38_code
def yX8_mark : MethodName := ⟨RX8, "mark", "(II)I"⟩
abbrev cX8_drop : ByteArray := prog_10_method_39_code
def yX8_drop : MethodName := ⟨RX8, "drop", "(I)I"⟩
abbrev cX8_of : ByteArray := prog_10_method_40_code
def yX8_of : MethodName := ⟨RX8, "of", "(II)I"⟩
abbrev cX8_at : ByteArray := prog_10_method_41_code
def yX8_at : MethodName := ⟨RX8, "at", "(III)I"⟩
abbrev cX8_feed : ByteArray := prog_10_method_42_code
def yX8_feed : MethodName := ⟨RX8, "feed", "(I)I"⟩
abbrev cX8_here : ByteArray := prog_10_method_43_code
def yX8_here : MethodName := ⟨RX8, "here", "()I"⟩
abbrev cX8_digit : ByteArray := prog_10_method_44_code
def yX8_digit : MethodName := ⟨RX8, "digit", "()I"⟩
abbrev cX8_comma : ByteArray := prog_10_method_45_code
def yX8_comma : MethodName := ⟨RX8, "comma", "()V"⟩
abbrev cX8_number : ByteArray := prog_10_method_46_code
def yX8_number : MethodName := ⟨RX8, "number", "()I"⟩
abbrev cX8_clause : ByteArray := prog_10_method_47_code
def yX8_clause : MethodName := ⟨RX8, "clause", "()V"⟩
abbrev cX8_done : ByteArray := prog_10_method_48_code
def yX8_done : MethodName := ⟨RX8, "done", "(I)I"⟩
abbrev cX8_read : ByteArray := prog_10_method_49_code
def yX8_read : MethodName := ⟨RX8, "read", "()I"⟩
abbrev cX8_product : ByteArray := prog_10_method_50_code
def yX8_product : MethodName := ⟨RX8, "product", "(II)I"⟩
abbrev cX8_move : ByteArray := prog_10_method_51_code
def yX8_move : MethodName := ⟨RX8, "move", "(II)I"⟩
abbrev cX8_trace : ByteArray := prog_10_method_52_code
def yX8_trace : MethodName := ⟨RX8, "trace", "(II)I"⟩
abbrev cX8_takes : ByteArray := prog_10_method_53_code
def yX8_takes : MethodName := ⟨RX8, "takes", "(II)I"⟩
abbrev cX8_told : ByteArray := prog_10_method_54_code
def yX8_told : MethodName := ⟨RX8, "told", "(I)I"⟩
abbrev cX8_group : ByteArray := prog_10_method_55_code
def yX8_group : MethodName := ⟨RX8, "group", "(I)I"⟩
abbrev cX8_classOf : ByteArray := prog_10_method_56_code
def yX8_classOf : MethodName := ⟨RX8, "classOf", "(II)I"⟩
abbrev cX8_classAt : ByteArray := prog_10_method_57_code
def yX8_classAt : MethodName := ⟨RX8, "classAt", "(I)I"⟩
abbrev cX8_motion : ByteArray := prog_10_method_58_code
def yX8_motion : MethodName := ⟨RX8, "motion", "(II)I"⟩
abbrev cX8_sign : ByteArray := prog_10_method_59_code
def yX8_sign : MethodName := ⟨RX8, "sign", "(II)I"⟩
abbrev cX8_has : ByteArray := prog_10_method_60_code
def yX8_has : MethodName := ⟨RX8, "has", "(II)I"⟩
abbrev cX8_active : ByteArray := prog_10_method_61_code
def yX8_active : MethodName := ⟨RX8, "active", "(I)I"⟩
abbrev cX8_see : ByteArray := prog_10_method_62_code
def yX8_see : MethodName := ⟨RX8, "see", "(IZ)I"⟩
abbrev cX8_isSeen : ByteArray := prog_10_method_63_code
def yX8_isSeen : MethodName := ⟨RX8, "isSeen", "()Z"⟩
abbrev cX8_fits : ByteArray := prog_10_method_64_code
def yX8_fits : MethodName := ⟨RX8, "fits", "(II)I"⟩
abbrev cX8_lowest : ByteArray := prog_10_method_65_code
def yX8_lowest : MethodName := ⟨RX8, "lowest", "(JJI)J"⟩
abbrev cX8_odds : ByteArray := prog_10_method_66_code
def yX8_odds : MethodName := ⟨RX8, "odds", "(III)J"⟩
abbrev cX8_mean : ByteArray := prog_10_method_67_code
def yX8_mean : MethodName := ⟨RX8, "mean", "(I)J"⟩
abbrev cX8_mostOf : ByteArray := prog_10_method_68_code
def yX8_mostOf : MethodName := ⟨RX8, "mostOf", "(I)I"⟩
abbrev cX8_event : ByteArray := prog_10_method_69_code
def yX8_event : MethodName := ⟨RX8, "event", "(II)I"⟩
abbrev cX8_goesBy : ByteArray := prog_10_method_70_code
def yX8_goesBy : MethodName := ⟨RX8, "goesBy", "(II)V"⟩
abbrev cX8_happens : ByteArray := prog_10_method_71_code
def yX8_happens : MethodName := ⟨RX8, "happens", "(II)V"⟩
abbrev cX8_after : ByteArray := prog_10_method_72_code
def yX8_after : MethodName := ⟨RX8, "after", "(I)I"⟩
abbrev cX8_book : ByteArray := prog_10_method_73_code
def yX8_book : MethodName := ⟨RX8, "book", "(II)I"⟩
abbrev cX8_looked : ByteArray := prog_10_method_74_code
def yX8_looked : MethodName := ⟨RX8, "looked", "()I"⟩
abbrev cX8_judge : ByteArray := prog_10_method_75_code
def yX8_judge : MethodName := ⟨RX8, "judge", "(II)I"⟩
abbrev cX8_image : ByteArray := prog_10_method_76_code
def yX8_image : MethodName := ⟨RX8, "image", "()I"⟩
abbrev cX8_undo : ByteArray := prog_10_method_77_code
def yX8_undo : MethodName := ⟨RX8, "undo", "()I"⟩
abbrev cX8_count : ByteArray := prog_10_method_78_code
def yX8_count : MethodName := ⟨RX8, "count", "(I)I"⟩
abbrev cX8_isTape : ByteArray := prog_10_method_79_code
def yX8_isTape : MethodName := ⟨RX8, "isTape", "(I)Z"⟩
abbrev cX8_tape : ByteArray := prog_10_method_80_code
def yX8_tape : MethodName := ⟨RX8, "tape", "(III)I"⟩
abbrev cX8_narrowed : ByteArray := prog_10_method_81_code
def yX8_narrowed : MethodName := ⟨RX8, "narrowed", "(IJ)J"⟩
abbrev cX8_item : ByteArray := prog_10_method_82_code
def yX8_item : MethodName := ⟨RX8, "item", "(IIJ)I"⟩
abbrev cX8_peek : ByteArray := prog_10_method_83_code
def yX8_peek : MethodName := ⟨RX8, "peek", "(II)J"⟩
abbrev cX8_shift : ByteArray := prog_10_method_84_code
def yX8_shift : MethodName := ⟨RX8, "shift", "(IIIII)I"⟩
def RJ6 : String := "java/lang/Integer"
def TJ6 : u_T := fun k => match k with
  | _ => ("", "", "", false)
def tyJ6 : Nat → FieldType := fun k => match k with
  | _ => .int
abbrev wsJ60 : List Cond := u_ws RJ6 TJ6 0
theorem nmJ6 : ∀ a, a < 0 → ∀ b, b < 0 → a ≠ b → (TJ6 a).2.1 ≠ (TJ6 b).2.1 := by decide +kernel
theorem tyJ6_ok : ∀ k, k < 0 → parseFieldDescriptor (TJ6 k).2.2.1 = some (tyJ6 k) := by decide +kernel
abbrev cJ6_bitCount_0f7a4 : ByteArray := prog_11_method_49_code
def yJ6_bitCount_0f7a4 : MethodName := ⟨RJ6, "bitCount", "(I)I"⟩
def RJ9 : String := "java/lang/Math"
def TJ9 : u_T := fun k => match k with
  | _ => ("", "", "", false)
def tyJ9 : Nat → FieldType := fun k => match k with
  | _ => .int
abbrev wsJ90 : List Cond := u_ws RJ9 TJ9 0
theorem nmJ9 : ∀ a, a < 0 → ∀ b, b < 0 → a ≠ b → (TJ9 a).2.1 ≠ (TJ9 b).2.1 := by decide +kernel
theorem tyJ9_ok : ∀ k, k < 0 → parseFieldDescriptor (TJ9 k).2.2.1 = some (tyJ9 k) := by decide +kernel
abbrev cJ9_max_7cf53 : ByteArray := prog_12_method_65_code
def yJ9_max_7cf53 : MethodName := ⟨RJ9, "max", "(II)I"⟩
abbrev cJ9_min_7cf53 : ByteArray := prog_12_method_69_code
def yJ9_min_7cf53 : MethodName := ⟨RJ9, "min", "(II)I"⟩
def RJ0 : String := "java/lang/String"
def TJ0 : u_T := fun k => match k with
  | _ => ("", "", "", false)
def tyJ0 : Nat → FieldType := fun k => match k with
  | _ => .int
abbrev wsJ00 : List Cond := u_ws RJ0 TJ0 0
theorem nmJ0 : ∀ a, a < 0 → ∀ b, b < 0 → a ≠ b → (TJ0 a).2.1 ≠ (TJ0 b).2.1 := by decide +kernel
theorem tyJ0_ok : ∀ k, k < 0 → parseFieldDescriptor (TJ0 k).2.2.1 = some (tyJ0 k) := by decide +kernel
abbrev cJ0_charAt_5068e : ByteArray := prog_13_method_56_code
def yJ0_charAt_5068e : MethodName := ⟨RJ0, "charAt", "(I)C"⟩
abbrev cJ0_isLatin1_aae02 : ByteArray := prog_13_method_154_code
def yJ0_isLatin1_aae02 : MethodName := ⟨RJ0, "isLatin1", "()Z"⟩
abbrev cJ0_checkIndex_df160 : ByteArray := prog_13_method_155_code
def yJ0_checkIndex_df160 : MethodName := ⟨RJ0, "checkIndex", "(II)V"⟩
def RJ1 : String := "java/lang/StringLatin1"
def TJ1 : u_T := fun k => match k with
  | _ => ("", "", "", false)
def tyJ1 : Nat → FieldType := fun k => match k with
  | _ => .int
abbrev wsJ10 : List Cond := u_ws RJ1 TJ1 0
theorem nmJ1 : ∀ a, a < 0 → ∀ b, b < 0 → a ≠ b → (TJ1 a).2.1 ≠ (TJ1 b).2.1 := by decide +kernel
theorem tyJ1_ok : ∀ k, k < 0 → parseFieldDescriptor (TJ1 k).2.2.1 = some (tyJ1 k) := by decide +kernel
abbrev cJ1_charAt_3b067 : ByteArray := prog_14_method_2_code
def yJ1_charAt_3b067 : MethodName := ⟨RJ1, "charAt", "([BI)C"⟩
def RJ2 : String := "java/lang/StringUTF16"
def TJ2 : u_T := fun k => match k with
  | _ => ("", "", "", false)
def tyJ2 : Nat → FieldType := fun k => match k with
  | _ => .int
abbrev wsJ20 : List Cond := u_ws RJ2 TJ2 0
theorem nmJ2 : ∀ a, a < 0 → ∀ b, b < 0 → a ≠ b → (TJ2 a).2.1 ≠ (TJ2 b).2.1 := by decide +kernel
theorem tyJ2_ok : ∀ k, k < 0 → parseFieldDescriptor (TJ2 k).2.2.1 = some (tyJ2 k) := by decide +kernel
abbrev cJ2_getChar_3b067 : ByteArray := prog_15_method_5_code
def yJ2_getChar_3b067 : MethodName := ⟨RJ2, "getChar", "([BI)C"⟩
abbrev cJ2_length_9d52b : ByteArray := prog_15_method_6_code
def yJ2_length_9d52b : MethodName := ⟨RJ2, "length", "([B)I"⟩
abbrev cJ2_charAt_3b067 : ByteArray := prog_15_method_83_code
def yJ2_charAt_3b067 : MethodName := ⟨RJ2, "charAt", "([BI)C"⟩
abbrev cJ2_checkIndex_2214a : ByteArray := prog_15_method_91_code
def yJ2_checkIndex_2214a : MethodName := ⟨RJ2, "checkIndex", "(I[B)V"⟩
def RJ10 : String := "java/lang/System"
def TJ10 : u_T := fun k => match k with
  | _ => ("", "", "", false)
def tyJ10 : Nat → FieldType := fun k => match k with
  | _ => .int
theorem nmJ10 : ∀ a, a < 0 → ∀ b, b < 0 → a ≠ b → (TJ10 a).2.1 ≠ (TJ10 b).2.1 := by decide +kernel
def RJ3 : String := "jdk/internal/util/Preconditions"
def TJ3 : u_T := fun k => match k with
  | _ => ("", "", "", false)
def tyJ3 : Nat → FieldType := fun k => match k with
  | _ => .int
abbrev wsJ30 : List Cond := u_ws RJ3 TJ3 0
theorem nmJ3 : ∀ a, a < 0 → ∀ b, b < 0 → a ≠ b → (TJ3 a).2.1 ≠ (TJ3 b).2.1 := by decide +kernel
theorem tyJ3_ok : ∀ k, k < 0 → parseFieldDescriptor (TJ3 k).2.2.1 = some (tyJ3 k) := by decide +kernel
abbrev cJ3_checkIndex_8e157 : ByteArray := prog_17_method_11_code
def yJ3_checkIndex_8e157 : MethodName := ⟨RJ3, "checkIndex", "(IILjava/util/function/BiFunction;)I"⟩
def RL : String := "ShapeMovesLaw"
abbrev cL_law : ByteArray := code
abbrev vwCl : List vw_C := [(RX0, TX0, 13), (RX2, TX2, 3), (RX3, TX3, 4), (RX4, TX4, 3), (RX5, TX5, 3), (RX6, TX6, 5), (RX7, TX7, 9), (RX8, TX8, 22)]
theorem inX0 : ∀ w ∈ wsX00, w ∈ lw_tbl := by decide +kernel
theorem inX2 : ∀ w ∈ wsX20, w ∈ lw_tbl := by decide +kernel
theorem inX3 : ∀ w ∈ wsX30, w ∈ lw_tbl := by decide +kernel
theorem inX4 : ∀ w ∈ wsX40, w ∈ lw_tbl := by decide +kernel
theorem inX5 : ∀ w ∈ wsX50, w ∈ lw_tbl := by decide +kernel
theorem inX6 : ∀ w ∈ wsX60, w ∈ lw_tbl := by decide +kernel
theorem inX7 : ∀ w ∈ wsX70, w ∈ lw_tbl := by decide +kernel
theorem inX8 : ∀ w ∈ wsX80, w ∈ lw_tbl := by decide +kernel
end
section
theorem dL_law_0 : decode cL_law 0 = .ok (.new 7, 3) := by decide +kernel
theorem dL_law_3 : decode cL_law 3 = .ok (.dup, 1) := by decide +kernel
theorem dL_law_4 : decode cL_law 4 = .ok (.invokespecial 9, 3) := by decide +kernel
theorem dL_law_7 : decode cL_law 7 = .ok (.astore_n 1, 1) := by decide +kernel
theorem dL_law_8 : decode cL_law 8 = .ok (.new 10, 3) := by decide +kernel
theorem dL_law_11 : decode cL_law 11 = .ok (.dup, 1) := by decide +kernel
theorem dL_law_12 : decode cL_law 12 = .ok (.invokespecial 12, 3) := by decide +kernel
theorem dL_law_15 : decode cL_law 15 = .ok (.astore_n 2, 1) := by decide +kernel
theorem dL_law_16 : decode cL_law 16 = .ok (.iconst 0, 1) := by decide +kernel
theorem dL_law_17 : decode cL_law 17 = .ok (.istore_n 3, 1) := by decide +kernel
theorem dL_law_18 : decode cL_law 18 = .ok (.iload_n 3, 1) := by decide +kernel
theorem dL_law_19 : decode cL_law 19 = .ok (.aload_n 0, 1) := by decide +kernel
theorem dL_law_20 : decode cL_law 20 = .ok (.arraylength, 1) := by decide +kernel
theorem dL_law_21 : decode cL_law 21 = .ok (.bipush 6, 2) := by decide +kernel
theorem dL_law_23 : decode cL_law 23 = .ok (.isub, 1) := by decide +kernel
theorem dL_law_24 : decode cL_law 24 = .ok (.if_icmp .gt 1294, 3) := by decide +kernel
theorem dL_law_27 : decode cL_law 27 = .ok (.aload_n 0, 1) := by decide +kernel
theorem dL_law_28 : decode cL_law 28 = .ok (.iload_n 3, 1) := by decide +kernel
theorem dL_law_29 : decode cL_law 29 = .ok (.iaload, 1) := by decide +kernel
theorem dL_law_30 : decode cL_law 30 = .ok (.bipush 63, 2) := by decide +kernel
theorem dL_law_32 : decode cL_law 32 = .ok (.iand, 1) := by decide +kernel
theorem dL_law_33 : decode cL_law 33 = .ok (.tableswitch 1279 0 34 #[155, 208, 241, 264, 297, 340, 363, 376, 409, 442, 475, 508, 531, 554, 587, 610, 643, 676, 709, 732, 781, 814, 858, 882, 915, 938, 971, 984, 1017, 1030, 1043, 1066, 1109, 1182, 1216], 155) := by decide +kernel
theorem dL_law_188 : decode cL_law 188 = .ok (.aload_n 1, 1) := by decide +kernel
theorem dL_law_189 : decode cL_law 189 = .ok (.aload_n 0, 1) := by decide +kernel
theorem dL_law_190 : decode cL_law 190 = .ok (.iload_n 3, 1) := by decide +kernel
theorem dL_law_191 : decode cL_law 191 = .ok (.iconst 1, 1) := by decide +kernel
theorem dL_law_192 : decode cL_law 192 = .ok (.iadd, 1) := by decide +kernel
theorem dL_law_193 : decode cL_law 193 = .ok (.iaload, 1) := by decide +kernel
theorem dL_law_194 : decode cL_law 194 = .ok (.aload_n 0, 1) := by decide +kernel
theorem dL_law_195 : decode cL_law 195 = .ok (.iload_n 3, 1) := by decide +kernel
theorem dL_law_196 : decode cL_law 196 = .ok (.iconst 2, 1) := by decide +kernel
theorem dL_law_197 : decode cL_law 197 = .ok (.iadd, 1) := by decide +kernel
theorem dL_law_198 : decode cL_law 198 = .ok (.iaload, 1) := by decide +kernel
theorem dL_law_199 : decode cL_law 199 = .ok (.aload_n 0, 1) := by decide +kernel
theorem dL_law_200 : decode cL_law 200 = .ok (.iload_n 3, 1) := by decide +kernel
theorem dL_law_201 : decode cL_law 201 = .ok (.iconst 3, 1) := by decide +kernel
theorem dL_law_202 : decode cL_law 202 = .ok (.iadd, 1) := by decide +kernel
theorem dL_law_203 : decode cL_law 203 = .ok (.iaload, 1) := by decide +kernel
theorem dL_law_204 : decode cL_law 204 = .ok (.aload_n 0, 1) := by decide +kernel
theorem dL_law_205 : decode cL_law 205 = .ok (.iload_n 3, 1) := by decide +kernel
theorem dL_law_206 : decode cL_law 206 = .ok (.iconst 4, 1) := by decide +kernel
theorem dL_law_207 : decode cL_law 207 = .ok (.iadd, 1) := by decide +kernel
theorem dL_law_208 : decode cL_law 208 = .ok (.iaload, 1) := by decide +kernel
theorem dL_law_209 : decode cL_law 209 = .ok (.invokevirtual 13, 3) := by decide +kernel
theorem dL_law_212 : decode cL_law 212 = .ok (.aload_n 2, 1) := by decide +kernel
theorem dL_law_213 : decode cL_law 213 = .ok (.aload_n 0, 1) := by decide +kernel
theorem dL_law_214 : decode cL_law 214 = .ok (.iload_n 3, 1) := by decide +kernel
theorem dL_law_215 : decode cL_law 215 = .ok (.iconst 1, 1) := by decide +kernel
theorem dL_law_216 : decode cL_law 216 = .ok (.iadd, 1) := by decide +kernel
theorem dL_law_217 : decode cL_law 217 = .ok (.iaload, 1) := by decide +kernel
theorem dL_law_218 : decode cL_law 218 = .ok (.aload_n 0, 1) := by decide +kernel
theorem dL_law_219 : decode cL_law 219 = .ok (.iload_n 3, 1) := by decide +kernel
theorem dL_law_220 : decode cL_law 220 = .ok (.iconst 2, 1) := by decide +kernel
theorem dL_law_221 : decode cL_law 221 = .ok (.iadd, 1) := by decide +kernel
theorem dL_law_222 : decode cL_law 222 = .ok (.iaload, 1) := by decide +kernel
theorem dL_law_223 : decode cL_law 223 = .ok (.aload_n 0, 1) := by decide +kernel
theorem dL_law_224 : decode cL_law 224 = .ok (.iload_n 3, 1) := by decide +kernel
theorem dL_law_225 : decode cL_law 225 = .ok (.iconst 3, 1) := by decide +kernel
theorem dL_law_226 : decode cL_law 226 = .ok (.iadd, 1) := by decide +kernel
theorem dL_law_227 : decode cL_law 227 = .ok (.iaload, 1) := by decide +kernel
theorem dL_law_228 : decode cL_law 228 = .ok (.aload_n 0, 1) := by decide +kernel
theorem dL_law_229 : decode cL_law 229 = .ok (.iload_n 3, 1) := by decide +kernel
theorem dL_law_230 : decode cL_law 230 = .ok (.iconst 4, 1) := by decide +kernel
theorem dL_law_231 : decode cL_law 231 = .ok (.iadd, 1) := by decide +kernel
theorem dL_law_232 : decode cL_law 232 = .ok (.iaload, 1) := by decide +kernel
theorem dL_law_233 : decode cL_law 233 = .ok (.invokevirtual 17, 3) := by decide +kernel
theorem dL_law_236 : decode cL_law 236 = .ok (.if_icmp .eq 1076, 3) := by decide +kernel
theorem dL_law_239 : decode cL_law 239 = .ok (.iconst 0, 1) := by decide +kernel
theorem dL_law_240 : decode cL_law 240 = .ok (.ireturn, 1) := by decide +kernel
theorem dL_law_241 : decode cL_law 241 = .ok (.aload_n 1, 1) := by decide +kernel
theorem dL_law_242 : decode cL_law 242 = .ok (.aload_n 0, 1) := by decide +kernel
theorem dL_law_243 : decode cL_law 243 = .ok (.iload_n 3, 1) := by decide +kernel
theorem dL_law_244 : decode cL_law 244 = .ok (.iconst 1, 1) := by decide +kernel
theorem dL_law_245 : decode cL_law 245 = .ok (.iadd, 1) := by decide +kernel
theorem dL_law_246 : decode cL_law 246 = .ok (.iaload, 1) := by decide +kernel
theorem dL_law_247 : decode cL_law 247 = .ok (.aload_n 0, 1) := by decide +kernel
theorem dL_law_248 : decode cL_law 248 = .ok (.iload_n 3, 1) := by decide +kernel
theorem dL_law_249 : decode cL_law 249 = .ok (.iconst 2, 1) := by decide +kernel
theorem dL_law_250 : decode cL_law 250 = .ok (.iadd, 1) := by decide +kernel
theorem dL_law_251 : decode cL_law 251 = .ok (.iaload, 1) := by decide +kernel
theorem dL_law_252 : decode cL_law 252 = .ok (.invokevirtual 18, 3) := by decide +kernel
theorem dL_law_255 : decode cL_law 255 = .ok (.aload_n 2, 1) := by decide +kernel
theorem dL_law_256 : decode cL_law 256 = .ok (.aload_n 0, 1) := by decide +kernel
theorem dL_law_257 : decode cL_law 257 = .ok (.iload_n 3, 1) := by decide +kernel
theorem dL_law_258 : decode cL_law 258 = .ok (.iconst 1, 1) := by decide +kernel
theorem dL_law_259 : decode cL_law 259 = .ok (.iadd, 1) := by decide +kernel
theorem dL_law_260 : decode cL_law 260 = .ok (.iaload, 1) := by decide +kernel
theorem dL_law_261 : decode cL_law 261 = .ok (.aload_n 0, 1) := by decide +kernel
theorem dL_law_262 : decode cL_law 262 = .ok (.iload_n 3, 1) := by decide +kernel
theorem dL_law_263 : decode cL_law 263 = .ok (.iconst 2, 1) := by decide +kernel
theorem dL_law_264 : decode cL_law 264 = .ok (.iadd, 1) := by decide +kernel
theorem dL_law_265 : decode cL_law 265 = .ok (.iaload, 1) := by decide +kernel
theorem dL_law_266 : decode cL_law 266 = .ok (.invokevirtual 22, 3) := by decide +kernel
theorem dL_law_269 : decode cL_law 269 = .ok (.if_icmp .eq 1043, 3) := by decide +kernel
theorem dL_law_272 : decode cL_law 272 = .ok (.iconst 0, 1) := by decide +kernel
theorem dL_law_273 : decode cL_law 273 = .ok (.ireturn, 1) := by decide +kernel
theorem dL_law_274 : decode cL_law 274 = .ok (.aload_n 1, 1) := by decide +kernel
theorem dL_law_275 : decode cL_law 275 = .ok (.aload_n 0, 1) := by decide +kernel
theorem dL_law_276 : decode cL_law 276 = .ok (.iload_n 3, 1) := by decide +kernel
theorem dL_law_277 : decode cL_law 277 = .ok (.iconst 1, 1) := by decide +kernel
theorem dL_law_278 : decode cL_law 278 = .ok (.iadd, 1) := by decide +kernel
theorem dL_law_279 : decode cL_law 279 = .ok (.iaload, 1) := by decide +kernel
theorem dL_law_280 : decode cL_law 280 = .ok (.invokevirtual 23, 3) := by decide +kernel
theorem dL_law_283 : decode cL_law 283 = .ok (.aload_n 2, 1) := by decide +kernel
theorem dL_law_284 : decode cL_law 284 = .ok (.aload_n 0, 1) := by decide +kernel
theorem dL_law_285 : decode cL_law 285 = .ok (.iload_n 3, 1) := by decide +kernel
theorem dL_law_286 : decode cL_law 286 = .ok (.iconst 1, 1) := by decide +kernel
theorem dL_law_287 : decode cL_law 287 = .ok (.iadd, 1) := by decide +kernel
theorem dL_law_288 : decode cL_law 288 = .ok (.iaload, 1) := by decide +kernel
theorem dL_law_289 : decode cL_law 289 = .ok (.invokevirtual 27, 3) := by decide +kernel
theorem dL_law_292 : decode cL_law 292 = .ok (.if_icmp .eq 1020, 3) := by decide +kernel
theorem dL_law_295 : decode cL_law 295 = .ok (.iconst 0, 1) := by decide +kernel
theorem dL_law_296 : decode cL_law 296 = .ok (.ireturn, 1) := by decide +kernel
theorem dL_law_297 : decode cL_law 297 = .ok (.aload_n 1, 1) := by decide +kernel
theorem dL_law_298 : decode cL_law 298 = .ok (.aload_n 0, 1) := by decide +kernel
theorem dL_law_299 : decode cL_law 299 = .ok (.iload_n 3, 1) := by decide +kernel
theorem dL_law_300 : decode cL_law 300 = .ok (.iconst 1, 1) := by decide +kernel
theorem dL_law_301 : decode cL_law 301 = .ok (.iadd, 1) := by decide +kernel
theorem dL_law_302 : decode cL_law 302 = .ok (.iaload, 1) := by decide +kernel
theorem dL_law_303 : decode cL_law 303 = .ok (.aload_n 0, 1) := by decide +kernel
theorem dL_law_304 : decode cL_law 304 = .ok (.iload_n 3, 1) := by decide +kernel
theorem dL_law_305 : decode cL_law 305 = .ok (.iconst 2, 1) := by decide +kernel
theorem dL_law_306 : decode cL_law 306 = .ok (.iadd, 1) := by decide +kernel
theorem dL_law_307 : decode cL_law 307 = .ok (.iaload, 1) := by decide +kernel
theorem dL_law_308 : decode cL_law 308 = .ok (.invokevirtual 28, 3) := by decide +kernel
theorem dL_law_311 : decode cL_law 311 = .ok (.aload_n 2, 1) := by decide +kernel
theorem dL_law_312 : decode cL_law 312 = .ok (.aload_n 0, 1) := by decide +kernel
theorem dL_law_313 : decode cL_law 313 = .ok (.iload_n 3, 1) := by decide +kernel
theorem dL_law_314 : decode cL_law 314 = .ok (.iconst 1, 1) := by decide +kernel
theorem dL_law_315 : decode cL_law 315 = .ok (.iadd, 1) := by decide +kernel
theorem dL_law_316 : decode cL_law 316 = .ok (.iaload, 1) := by decide +kernel
theorem dL_law_317 : decode cL_law 317 = .ok (.aload_n 0, 1) := by decide +kernel
theorem dL_law_318 : decode cL_law 318 = .ok (.iload_n 3, 1) := by decide +kernel
theorem dL_law_319 : decode cL_law 319 = .ok (.iconst 2, 1) := by decide +kernel
theorem dL_law_320 : decode cL_law 320 = .ok (.iadd, 1) := by decide +kernel
theorem dL_law_321 : decode cL_law 321 = .ok (.iaload, 1) := by decide +kernel
theorem dL_law_322 : decode cL_law 322 = .ok (.invokevirtual 31, 3) := by decide +kernel
theorem dL_law_325 : decode cL_law 325 = .ok (.if_icmp .eq 987, 3) := by decide +kernel
theorem dL_law_328 : decode cL_law 328 = .ok (.iconst 0, 1) := by decide +kernel
theorem dL_law_329 : decode cL_law 329 = .ok (.ireturn, 1) := by decide +kernel
theorem dL_law_330 : decode cL_law 330 = .ok (.aload_n 1, 1) := by decide +kernel
theorem dL_law_331 : decode cL_law 331 = .ok (.aload_n 0, 1) := by decide +kernel
theorem dL_law_332 : decode cL_law 332 = .ok (.iload_n 3, 1) := by decide +kernel
theorem dL_law_333 : decode cL_law 333 = .ok (.iconst 1, 1) := by decide +kernel
theorem dL_law_334 : decode cL_law 334 = .ok (.iadd, 1) := by decide +kernel
theorem dL_law_335 : decode cL_law 335 = .ok (.iaload, 1) := by decide +kernel
theorem dL_law_336 : decode cL_law 336 = .ok (.aload_n 0, 1) := by decide +kernel
theorem dL_law_337 : decode cL_law 337 = .ok (.iload_n 3, 1) := by decide +kernel
theorem dL_law_338 : decode cL_law 338 = .ok (.iconst 2, 1) := by decide +kernel
theorem dL_law_339 : decode cL_law 339 = .ok (.iadd, 1) := by decide +kernel
theorem dL_law_340 : decode cL_law 340 = .ok (.iaload, 1) := by decide +kernel
theorem dL_law_341 : decode cL_law 341 = .ok (.aload_n 0, 1) := by decide +kernel
theorem dL_law_342 : decode cL_law 342 = .ok (.iload_n 3, 1) := by decide +kernel
theorem dL_law_343 : decode cL_law 343 = .ok (.iconst 3, 1) := by decide +kernel
theorem dL_law_344 : decode cL_law 344 = .ok (.iadd, 1) := by decide +kernel
theorem dL_law_345 : decode cL_law 345 = .ok (.iaload, 1) := by decide +kernel
theorem dL_law_346 : decode cL_law 346 = .ok (.invokevirtual 32, 3) := by decide +kernel
theorem dL_law_349 : decode cL_law 349 = .ok (.aload_n 2, 1) := by decide +kernel
theorem dL_law_350 : decode cL_law 350 = .ok (.aload_n 0, 1) := by decide +kernel
theorem dL_law_351 : decode cL_law 351 = .ok (.iload_n 3, 1) := by decide +kernel
theorem dL_law_352 : decode cL_law 352 = .ok (.iconst 1, 1) := by decide +kernel
theorem dL_law_353 : decode cL_law 353 = .ok (.iadd, 1) := by decide +kernel
theorem dL_law_354 : decode cL_law 354 = .ok (.iaload, 1) := by decide +kernel
theorem dL_law_355 : decode cL_law 355 = .ok (.aload_n 0, 1) := by decide +kernel
theorem dL_law_356 : decode cL_law 356 = .ok (.iload_n 3, 1) := by decide +kernel
theorem dL_law_357 : decode cL_law 357 = .ok (.iconst 2, 1) := by decide +kernel
theorem dL_law_358 : decode cL_law 358 = .ok (.iadd, 1) := by decide +kernel
theorem dL_law_359 : decode cL_law 359 = .ok (.iaload, 1) := by decide +kernel
theorem dL_law_360 : decode cL_law 360 = .ok (.aload_n 0, 1) := by decide +kernel
theorem dL_law_361 : decode cL_law 361 = .ok (.iload_n 3, 1) := by decide +kernel
theorem dL_law_362 : decode cL_law 362 = .ok (.iconst 3, 1) := by decide +kernel
theorem dL_law_363 : decode cL_law 363 = .ok (.iadd, 1) := by decide +kernel
theorem dL_law_364 : decode cL_law 364 = .ok (.iaload, 1) := by decide +kernel
theorem dL_law_365 : decode cL_law 365 = .ok (.invokevirtual 36, 3) := by decide +kernel
theorem dL_law_368 : decode cL_law 368 = .ok (.if_icmp .eq 944, 3) := by decide +kernel
theorem dL_law_371 : decode cL_law 371 = .ok (.iconst 0, 1) := by decide +kernel
theorem dL_law_372 : decode cL_law 372 = .ok (.ireturn, 1) := by decide +kernel
theorem dL_law_373 : decode cL_law 373 = .ok (.aload_n 1, 1) := by decide +kernel
theorem dL_law_374 : decode cL_law 374 = .ok (.aload_n 0, 1) := by decide +kernel
theorem dL_law_375 : decode cL_law 375 = .ok (.iload_n 3, 1) := by decide +kernel
theorem dL_law_376 : decode cL_law 376 = .ok (.iconst 1, 1) := by decide +kernel
theorem dL_law_377 : decode cL_law 377 = .ok (.iadd, 1) := by decide +kernel
theorem dL_law_378 : decode cL_law 378 = .ok (.iaload, 1) := by decide +kernel
theorem dL_law_379 : decode cL_law 379 = .ok (.invokevirtual 37, 3) := by decide +kernel
theorem dL_law_382 : decode cL_law 382 = .ok (.aload_n 2, 1) := by decide +kernel
theorem dL_law_383 : decode cL_law 383 = .ok (.aload_n 0, 1) := by decide +kernel
theorem dL_law_384 : decode cL_law 384 = .ok (.iload_n 3, 1) := by decide +kernel
theorem dL_law_385 : decode cL_law 385 = .ok (.iconst 1, 1) := by decide +kernel
theorem dL_law_386 : decode cL_law 386 = .ok (.iadd, 1) := by decide +kernel
theorem dL_law_387 : decode cL_law 387 = .ok (.iaload, 1) := by decide +kernel
theorem dL_law_388 : decode cL_law 388 = .ok (.invokevirtual 40, 3) := by decide +kernel
theorem dL_law_391 : decode cL_law 391 = .ok (.if_icmp .eq 921, 3) := by decide +kernel
theorem dL_law_394 : decode cL_law 394 = .ok (.iconst 0, 1) := by decide +kernel
theorem dL_law_395 : decode cL_law 395 = .ok (.ireturn, 1) := by decide +kernel
theorem dL_law_396 : decode cL_law 396 = .ok (.aload_n 1, 1) := by decide +kernel
theorem dL_law_397 : decode cL_law 397 = .ok (.invokevirtual 41, 3) := by decide +kernel
theorem dL_law_400 : decode cL_law 400 = .ok (.aload_n 2, 1) := by decide +kernel
theorem dL_law_401 : decode cL_law 401 = .ok (.invokevirtual 45, 3) := by decide +kernel
theorem dL_law_404 : decode cL_law 404 = .ok (.if_icmp .eq 908, 3) := by decide +kernel
theorem dL_law_407 : decode cL_law 407 = .ok (.iconst 0, 1) := by decide +kernel
theorem dL_law_408 : decode cL_law 408 = .ok (.ireturn, 1) := by decide +kernel
theorem dL_law_409 : decode cL_law 409 = .ok (.aload_n 1, 1) := by decide +kernel
theorem dL_law_410 : decode cL_law 410 = .ok (.aload_n 0, 1) := by decide +kernel
theorem dL_law_411 : decode cL_law 411 = .ok (.iload_n 3, 1) := by decide +kernel
theorem dL_law_412 : decode cL_law 412 = .ok (.iconst 1, 1) := by decide +kernel
theorem dL_law_413 : decode cL_law 413 = .ok (.iadd, 1) := by decide +kernel
theorem dL_law_414 : decode cL_law 414 = .ok (.iaload, 1) := by decide +kernel
theorem dL_law_415 : decode cL_law 415 = .ok (.aload_n 0, 1) := by decide +kernel
theorem dL_law_416 : decode cL_law 416 = .ok (.iload_n 3, 1) := by decide +kernel
theorem dL_law_417 : decode cL_law 417 = .ok (.iconst 2, 1) := by decide +kernel
theorem dL_law_418 : decode cL_law 418 = .ok (.iadd, 1) := by decide +kernel
theorem dL_law_419 : decode cL_law 419 = .ok (.iaload, 1) := by decide +kernel
theorem dL_law_420 : decode cL_law 420 = .ok (.invokevirtual 46, 3) := by decide +kernel
theorem dL_law_423 : decode cL_law 423 = .ok (.aload_n 2, 1) := by decide +kernel
theorem dL_law_424 : decode cL_law 424 = .ok (.aload_n 0, 1) := by decide +kernel
theorem dL_law_425 : decode cL_law 425 = .ok (.iload_n 3, 1) := by decide +kernel
theorem dL_law_426 : decode cL_law 426 = .ok (.iconst 1, 1) := by decide +kernel
theorem dL_law_427 : decode cL_law 427 = .ok (.iadd, 1) := by decide +kernel
theorem dL_law_428 : decode cL_law 428 = .ok (.iaload, 1) := by decide +kernel
theorem dL_law_429 : decode cL_law 429 = .ok (.aload_n 0, 1) := by decide +kernel
theorem dL_law_430 : decode cL_law 430 = .ok (.iload_n 3, 1) := by decide +kernel
theorem dL_law_431 : decode cL_law 431 = .ok (.iconst 2, 1) := by decide +kernel
theorem dL_law_432 : decode cL_law 432 = .ok (.iadd, 1) := by decide +kernel
theorem dL_law_433 : decode cL_law 433 = .ok (.iaload, 1) := by decide +kernel
theorem dL_law_434 : decode cL_law 434 = .ok (.invokevirtual 49, 3) := by decide +kernel
theorem dL_law_437 : decode cL_law 437 = .ok (.if_icmp .eq 875, 3) := by decide +kernel
theorem dL_law_440 : decode cL_law 440 = .ok (.iconst 0, 1) := by decide +kernel
theorem dL_law_441 : decode cL_law 441 = .ok (.ireturn, 1) := by decide +kernel
theorem dL_law_442 : decode cL_law 442 = .ok (.aload_n 1, 1) := by decide +kernel
theorem dL_law_443 : decode cL_law 443 = .ok (.aload_n 0, 1) := by decide +kernel
theorem dL_law_444 : decode cL_law 444 = .ok (.iload_n 3, 1) := by decide +kernel
theorem dL_law_445 : decode cL_law 445 = .ok (.iconst 1, 1) := by decide +kernel
theorem dL_law_446 : decode cL_law 446 = .ok (.iadd, 1) := by decide +kernel
theorem dL_law_447 : decode cL_law 447 = .ok (.iaload, 1) := by decide +kernel
theorem dL_law_448 : decode cL_law 448 = .ok (.aload_n 0, 1) := by decide +kernel
theorem dL_law_449 : decode cL_law 449 = .ok (.iload_n 3, 1) := by decide +kernel
theorem dL_law_450 : decode cL_law 450 = .ok (.iconst 2, 1) := by decide +kernel
theorem dL_law_451 : decode cL_law 451 = .ok (.iadd, 1) := by decide +kernel
theorem dL_law_452 : decode cL_law 452 = .ok (.iaload, 1) := by decide +kernel
theorem dL_law_453 : decode cL_law 453 = .ok (.invokevirtual 50, 3) := by decide +kernel
theorem dL_law_456 : decode cL_law 456 = .ok (.aload_n 2, 1) := by decide +kernel
theorem dL_law_457 : decode cL_law 457 = .ok (.aload_n 0, 1) := by decide +kernel
theorem dL_law_458 : decode cL_law 458 = .ok (.iload_n 3, 1) := by decide +kernel
theorem dL_law_459 : decode cL_law 459 = .ok (.iconst 1, 1) := by decide +kernel
theorem dL_law_460 : decode cL_law 460 = .ok (.iadd, 1) := by decide +kernel
theorem dL_law_461 : decode cL_law 461 = .ok (.iaload, 1) := by decide +kernel
theorem dL_law_462 : decode cL_law 462 = .ok (.aload_n 0, 1) := by decide +kernel
theorem dL_law_463 : decode cL_law 463 = .ok (.iload_n 3, 1) := by decide +kernel
theorem dL_law_464 : decode cL_law 464 = .ok (.iconst 2, 1) := by decide +kernel
theorem dL_law_465 : decode cL_law 465 = .ok (.iadd, 1) := by decide +kernel
theorem dL_law_466 : decode cL_law 466 = .ok (.iaload, 1) := by decide +kernel
theorem dL_law_467 : decode cL_law 467 = .ok (.invokevirtual 53, 3) := by decide +kernel
theorem dL_law_470 : decode cL_law 470 = .ok (.if_icmp .eq 842, 3) := by decide +kernel
theorem dL_law_473 : decode cL_law 473 = .ok (.iconst 0, 1) := by decide +kernel
theorem dL_law_474 : decode cL_law 474 = .ok (.ireturn, 1) := by decide +kernel
theorem dL_law_475 : decode cL_law 475 = .ok (.aload_n 1, 1) := by decide +kernel
theorem dL_law_476 : decode cL_law 476 = .ok (.aload_n 0, 1) := by decide +kernel
theorem dL_law_477 : decode cL_law 477 = .ok (.iload_n 3, 1) := by decide +kernel
theorem dL_law_478 : decode cL_law 478 = .ok (.iconst 1, 1) := by decide +kernel
theorem dL_law_479 : decode cL_law 479 = .ok (.iadd, 1) := by decide +kernel
theorem dL_law_480 : decode cL_law 480 = .ok (.iaload, 1) := by decide +kernel
theorem dL_law_481 : decode cL_law 481 = .ok (.aload_n 0, 1) := by decide +kernel
theorem dL_law_482 : decode cL_law 482 = .ok (.iload_n 3, 1) := by decide +kernel
theorem dL_law_483 : decode cL_law 483 = .ok (.iconst 2, 1) := by decide +kernel
theorem dL_law_484 : decode cL_law 484 = .ok (.iadd, 1) := by decide +kernel
theorem dL_law_485 : decode cL_law 485 = .ok (.iaload, 1) := by decide +kernel
theorem dL_law_486 : decode cL_law 486 = .ok (.invokevirtual 54, 3) := by decide +kernel
theorem dL_law_489 : decode cL_law 489 = .ok (.aload_n 2, 1) := by decide +kernel
theorem dL_law_490 : decode cL_law 490 = .ok (.aload_n 0, 1) := by decide +kernel
theorem dL_law_491 : decode cL_law 491 = .ok (.iload_n 3, 1) := by decide +kernel
theorem dL_law_492 : decode cL_law 492 = .ok (.iconst 1, 1) := by decide +kernel
theorem dL_law_493 : decode cL_law 493 = .ok (.iadd, 1) := by decide +kernel
theorem dL_law_494 : decode cL_law 494 = .ok (.iaload, 1) := by decide +kernel
theorem dL_law_495 : decode cL_law 495 = .ok (.aload_n 0, 1) := by decide +kernel
theorem dL_law_496 : decode cL_law 496 = .ok (.iload_n 3, 1) := by decide +kernel
theorem dL_law_497 : decode cL_law 497 = .ok (.iconst 2, 1) := by decide +kernel
theorem dL_law_498 : decode cL_law 498 = .ok (.iadd, 1) := by decide +kernel
theorem dL_law_499 : decode cL_law 499 = .ok (.iaload, 1) := by decide +kernel
theorem dL_law_500 : decode cL_law 500 = .ok (.invokevirtual 57, 3) := by decide +kernel
theorem dL_law_503 : decode cL_law 503 = .ok (.if_icmp .eq 809, 3) := by decide +kernel
theorem dL_law_506 : decode cL_law 506 = .ok (.iconst 0, 1) := by decide +kernel
theorem dL_law_507 : decode cL_law 507 = .ok (.ireturn, 1) := by decide +kernel
theorem dL_law_508 : decode cL_law 508 = .ok (.aload_n 1, 1) := by decide +kernel
theorem dL_law_509 : decode cL_law 509 = .ok (.aload_n 0, 1) := by decide +kernel
theorem dL_law_510 : decode cL_law 510 = .ok (.iload_n 3, 1) := by decide +kernel
theorem dL_law_511 : decode cL_law 511 = .ok (.iconst 1, 1) := by decide +kernel
theorem dL_law_512 : decode cL_law 512 = .ok (.iadd, 1) := by decide +kernel
theorem dL_law_513 : decode cL_law 513 = .ok (.iaload, 1) := by decide +kernel
theorem dL_law_514 : decode cL_law 514 = .ok (.aload_n 0, 1) := by decide +kernel
theorem dL_law_515 : decode cL_law 515 = .ok (.iload_n 3, 1) := by decide +kernel
theorem dL_law_516 : decode cL_law 516 = .ok (.iconst 2, 1) := by decide +kernel
theorem dL_law_517 : decode cL_law 517 = .ok (.iadd, 1) := by decide +kernel
theorem dL_law_518 : decode cL_law 518 = .ok (.iaload, 1) := by decide +kernel
theorem dL_law_519 : decode cL_law 519 = .ok (.invokevirtual 58, 3) := by decide +kernel
theorem dL_law_522 : decode cL_law 522 = .ok (.aload_n 2, 1) := by decide +kernel
theorem dL_law_523 : decode cL_law 523 = .ok (.aload_n 0, 1) := by decide +kernel
theorem dL_law_524 : decode cL_law 524 = .ok (.iload_n 3, 1) := by decide +kernel
theorem dL_law_525 : decode cL_law 525 = .ok (.iconst 1, 1) := by decide +kernel
theorem dL_law_526 : decode cL_law 526 = .ok (.iadd, 1) := by decide +kernel
theorem dL_law_527 : decode cL_law 527 = .ok (.iaload, 1) := by decide +kernel
theorem dL_law_528 : decode cL_law 528 = .ok (.aload_n 0, 1) := by decide +kernel
theorem dL_law_529 : decode cL_law 529 = .ok (.iload_n 3, 1) := by decide +kernel
theorem dL_law_530 : decode cL_law 530 = .ok (.iconst 2, 1) := by decide +kernel
theorem dL_law_531 : decode cL_law 531 = .ok (.iadd, 1) := by decide +kernel
theorem dL_law_532 : decode cL_law 532 = .ok (.iaload, 1) := by decide +kernel
theorem dL_law_533 : decode cL_law 533 = .ok (.invokevirtual 61, 3) := by decide +kernel
theorem dL_law_536 : decode cL_law 536 = .ok (.if_icmp .eq 776, 3) := by decide +kernel
theorem dL_law_539 : decode cL_law 539 = .ok (.iconst 0, 1) := by decide +kernel
theorem dL_law_540 : decode cL_law 540 = .ok (.ireturn, 1) := by decide +kernel
theorem dL_law_541 : decode cL_law 541 = .ok (.aload_n 1, 1) := by decide +kernel
theorem dL_law_542 : decode cL_law 542 = .ok (.aload_n 0, 1) := by decide +kernel
theorem dL_law_543 : decode cL_law 543 = .ok (.iload_n 3, 1) := by decide +kernel
theorem dL_law_544 : decode cL_law 544 = .ok (.iconst 1, 1) := by decide +kernel
theorem dL_law_545 : decode cL_law 545 = .ok (.iadd, 1) := by decide +kernel
theorem dL_law_546 : decode cL_law 546 = .ok (.iaload, 1) := by decide +kernel
theorem dL_law_547 : decode cL_law 547 = .ok (.invokevirtual 62, 3) := by decide +kernel
theorem dL_law_550 : decode cL_law 550 = .ok (.aload_n 2, 1) := by decide +kernel
theorem dL_law_551 : decode cL_law 551 = .ok (.aload_n 0, 1) := by decide +kernel
theorem dL_law_552 : decode cL_law 552 = .ok (.iload_n 3, 1) := by decide +kernel
theorem dL_law_553 : decode cL_law 553 = .ok (.iconst 1, 1) := by decide +kernel
theorem dL_law_554 : decode cL_law 554 = .ok (.iadd, 1) := by decide +kernel
theorem dL_law_555 : decode cL_law 555 = .ok (.iaload, 1) := by decide +kernel
theorem dL_law_556 : decode cL_law 556 = .ok (.invokevirtual 65, 3) := by decide +kernel
theorem dL_law_559 : decode cL_law 559 = .ok (.if_icmp .eq 753, 3) := by decide +kernel
theorem dL_law_562 : decode cL_law 562 = .ok (.iconst 0, 1) := by decide +kernel
theorem dL_law_563 : decode cL_law 563 = .ok (.ireturn, 1) := by decide +kernel
theorem dL_law_564 : decode cL_law 564 = .ok (.aload_n 1, 1) := by decide +kernel
theorem dL_law_565 : decode cL_law 565 = .ok (.aload_n 0, 1) := by decide +kernel
theorem dL_law_566 : decode cL_law 566 = .ok (.iload_n 3, 1) := by decide +kernel
theorem dL_law_567 : decode cL_law 567 = .ok (.iconst 1, 1) := by decide +kernel
theorem dL_law_568 : decode cL_law 568 = .ok (.iadd, 1) := by decide +kernel
theorem dL_law_569 : decode cL_law 569 = .ok (.iaload, 1) := by decide +kernel
theorem dL_law_570 : decode cL_law 570 = .ok (.invokevirtual 66, 3) := by decide +kernel
theorem dL_law_573 : decode cL_law 573 = .ok (.aload_n 2, 1) := by decide +kernel
theorem dL_law_574 : decode cL_law 574 = .ok (.aload_n 0, 1) := by decide +kernel
theorem dL_law_575 : decode cL_law 575 = .ok (.iload_n 3, 1) := by decide +kernel
theorem dL_law_576 : decode cL_law 576 = .ok (.iconst 1, 1) := by decide +kernel
theorem dL_law_577 : decode cL_law 577 = .ok (.iadd, 1) := by decide +kernel
theorem dL_law_578 : decode cL_law 578 = .ok (.iaload, 1) := by decide +kernel
theorem dL_law_579 : decode cL_law 579 = .ok (.invokevirtual 69, 3) := by decide +kernel
theorem dL_law_582 : decode cL_law 582 = .ok (.if_icmp .eq 730, 3) := by decide +kernel
theorem dL_law_585 : decode cL_law 585 = .ok (.iconst 0, 1) := by decide +kernel
theorem dL_law_586 : decode cL_law 586 = .ok (.ireturn, 1) := by decide +kernel
theorem dL_law_587 : decode cL_law 587 = .ok (.aload_n 1, 1) := by decide +kernel
theorem dL_law_588 : decode cL_law 588 = .ok (.aload_n 0, 1) := by decide +kernel
theorem dL_law_589 : decode cL_law 589 = .ok (.iload_n 3, 1) := by decide +kernel
theorem dL_law_590 : decode cL_law 590 = .ok (.iconst 1, 1) := by decide +kernel
theorem dL_law_591 : decode cL_law 591 = .ok (.iadd, 1) := by decide +kernel
theorem dL_law_592 : decode cL_law 592 = .ok (.iaload, 1) := by decide +kernel
theorem dL_law_593 : decode cL_law 593 = .ok (.aload_n 0, 1) := by decide +kernel
theorem dL_law_594 : decode cL_law 594 = .ok (.iload_n 3, 1) := by decide +kernel
theorem dL_law_595 : decode cL_law 595 = .ok (.iconst 2, 1) := by decide +kernel
theorem dL_law_596 : decode cL_law 596 = .ok (.iadd, 1) := by decide +kernel
theorem dL_law_597 : decode cL_law 597 = .ok (.iaload, 1) := by decide +kernel
theorem dL_law_598 : decode cL_law 598 = .ok (.invokevirtual 70, 3) := by decide +kernel
theorem dL_law_601 : decode cL_law 601 = .ok (.aload_n 2, 1) := by decide +kernel
theorem dL_law_602 : decode cL_law 602 = .ok (.aload_n 0, 1) := by decide +kernel
theorem dL_law_603 : decode cL_law 603 = .ok (.iload_n 3, 1) := by decide +kernel
theorem dL_law_604 : decode cL_law 604 = .ok (.iconst 1, 1) := by decide +kernel
theorem dL_law_605 : decode cL_law 605 = .ok (.iadd, 1) := by decide +kernel
theorem dL_law_606 : decode cL_law 606 = .ok (.iaload, 1) := by decide +kernel
theorem dL_law_607 : decode cL_law 607 = .ok (.aload_n 0, 1) := by decide +kernel
theorem dL_law_608 : decode cL_law 608 = .ok (.iload_n 3, 1) := by decide +kernel
theorem dL_law_609 : decode cL_law 609 = .ok (.iconst 2, 1) := by decide +kernel
theorem dL_law_610 : decode cL_law 610 = .ok (.iadd, 1) := by decide +kernel
theorem dL_law_611 : decode cL_law 611 = .ok (.iaload, 1) := by decide +kernel
theorem dL_law_612 : decode cL_law 612 = .ok (.invokevirtual 73, 3) := by decide +kernel
theorem dL_law_615 : decode cL_law 615 = .ok (.if_icmp .eq 697, 3) := by decide +kernel
theorem dL_law_618 : decode cL_law 618 = .ok (.iconst 0, 1) := by decide +kernel
theorem dL_law_619 : decode cL_law 619 = .ok (.ireturn, 1) := by decide +kernel
theorem dL_law_620 : decode cL_law 620 = .ok (.aload_n 1, 1) := by decide +kernel
theorem dL_law_621 : decode cL_law 621 = .ok (.aload_n 0, 1) := by decide +kernel
theorem dL_law_622 : decode cL_law 622 = .ok (.iload_n 3, 1) := by decide +kernel
theorem dL_law_623 : decode cL_law 623 = .ok (.iconst 1, 1) := by decide +kernel
theorem dL_law_624 : decode cL_law 624 = .ok (.iadd, 1) := by decide +kernel
theorem dL_law_625 : decode cL_law 625 = .ok (.iaload, 1) := by decide +kernel
theorem dL_law_626 : decode cL_law 626 = .ok (.invokevirtual 74, 3) := by decide +kernel
theorem dL_law_629 : decode cL_law 629 = .ok (.aload_n 2, 1) := by decide +kernel
theorem dL_law_630 : decode cL_law 630 = .ok (.aload_n 0, 1) := by decide +kernel
theorem dL_law_631 : decode cL_law 631 = .ok (.iload_n 3, 1) := by decide +kernel
theorem dL_law_632 : decode cL_law 632 = .ok (.iconst 1, 1) := by decide +kernel
theorem dL_law_633 : decode cL_law 633 = .ok (.iadd, 1) := by decide +kernel
theorem dL_law_634 : decode cL_law 634 = .ok (.iaload, 1) := by decide +kernel
theorem dL_law_635 : decode cL_law 635 = .ok (.invokevirtual 77, 3) := by decide +kernel
theorem dL_law_638 : decode cL_law 638 = .ok (.if_icmp .eq 674, 3) := by decide +kernel
theorem dL_law_641 : decode cL_law 641 = .ok (.iconst 0, 1) := by decide +kernel
theorem dL_law_642 : decode cL_law 642 = .ok (.ireturn, 1) := by decide +kernel
theorem dL_law_643 : decode cL_law 643 = .ok (.aload_n 1, 1) := by decide +kernel
theorem dL_law_644 : decode cL_law 644 = .ok (.aload_n 0, 1) := by decide +kernel
theorem dL_law_645 : decode cL_law 645 = .ok (.iload_n 3, 1) := by decide +kernel
theorem dL_law_646 : decode cL_law 646 = .ok (.iconst 1, 1) := by decide +kernel
theorem dL_law_647 : decode cL_law 647 = .ok (.iadd, 1) := by decide +kernel
theorem dL_law_648 : decode cL_law 648 = .ok (.iaload, 1) := by decide +kernel
theorem dL_law_649 : decode cL_law 649 = .ok (.aload_n 0, 1) := by decide +kernel
theorem dL_law_650 : decode cL_law 650 = .ok (.iload_n 3, 1) := by decide +kernel
theorem dL_law_651 : decode cL_law 651 = .ok (.iconst 2, 1) := by decide +kernel
theorem dL_law_652 : decode cL_law 652 = .ok (.iadd, 1) := by decide +kernel
theorem dL_law_653 : decode cL_law 653 = .ok (.iaload, 1) := by decide +kernel
theorem dL_law_654 : decode cL_law 654 = .ok (.invokevirtual 78, 3) := by decide +kernel
theorem dL_law_657 : decode cL_law 657 = .ok (.aload_n 2, 1) := by decide +kernel
theorem dL_law_658 : decode cL_law 658 = .ok (.aload_n 0, 1) := by decide +kernel
theorem dL_law_659 : decode cL_law 659 = .ok (.iload_n 3, 1) := by decide +kernel
theorem dL_law_660 : decode cL_law 660 = .ok (.iconst 1, 1) := by decide +kernel
theorem dL_law_661 : decode cL_law 661 = .ok (.iadd, 1) := by decide +kernel
theorem dL_law_662 : decode cL_law 662 = .ok (.iaload, 1) := by decide +kernel
theorem dL_law_663 : decode cL_law 663 = .ok (.aload_n 0, 1) := by decide +kernel
theorem dL_law_664 : decode cL_law 664 = .ok (.iload_n 3, 1) := by decide +kernel
theorem dL_law_665 : decode cL_law 665 = .ok (.iconst 2, 1) := by decide +kernel
theorem dL_law_666 : decode cL_law 666 = .ok (.iadd, 1) := by decide +kernel
theorem dL_law_667 : decode cL_law 667 = .ok (.iaload, 1) := by decide +kernel
theorem dL_law_668 : decode cL_law 668 = .ok (.invokevirtual 81, 3) := by decide +kernel
theorem dL_law_671 : decode cL_law 671 = .ok (.if_icmp .eq 641, 3) := by decide +kernel
theorem dL_law_674 : decode cL_law 674 = .ok (.iconst 0, 1) := by decide +kernel
theorem dL_law_675 : decode cL_law 675 = .ok (.ireturn, 1) := by decide +kernel
theorem dL_law_676 : decode cL_law 676 = .ok (.aload_n 1, 1) := by decide +kernel
theorem dL_law_677 : decode cL_law 677 = .ok (.aload_n 0, 1) := by decide +kernel
theorem dL_law_678 : decode cL_law 678 = .ok (.iload_n 3, 1) := by decide +kernel
theorem dL_law_679 : decode cL_law 679 = .ok (.iconst 1, 1) := by decide +kernel
theorem dL_law_680 : decode cL_law 680 = .ok (.iadd, 1) := by decide +kernel
theorem dL_law_681 : decode cL_law 681 = .ok (.iaload, 1) := by decide +kernel
theorem dL_law_682 : decode cL_law 682 = .ok (.aload_n 0, 1) := by decide +kernel
theorem dL_law_683 : decode cL_law 683 = .ok (.iload_n 3, 1) := by decide +kernel
theorem dL_law_684 : decode cL_law 684 = .ok (.iconst 2, 1) := by decide +kernel
theorem dL_law_685 : decode cL_law 685 = .ok (.iadd, 1) := by decide +kernel
theorem dL_law_686 : decode cL_law 686 = .ok (.iaload, 1) := by decide +kernel
theorem dL_law_687 : decode cL_law 687 = .ok (.invokevirtual 82, 3) := by decide +kernel
theorem dL_law_690 : decode cL_law 690 = .ok (.aload_n 2, 1) := by decide +kernel
theorem dL_law_691 : decode cL_law 691 = .ok (.aload_n 0, 1) := by decide +kernel
theorem dL_law_692 : decode cL_law 692 = .ok (.iload_n 3, 1) := by decide +kernel
theorem dL_law_693 : decode cL_law 693 = .ok (.iconst 1, 1) := by decide +kernel
theorem dL_law_694 : decode cL_law 694 = .ok (.iadd, 1) := by decide +kernel
theorem dL_law_695 : decode cL_law 695 = .ok (.iaload, 1) := by decide +kernel
theorem dL_law_696 : decode cL_law 696 = .ok (.aload_n 0, 1) := by decide +kernel
theorem dL_law_697 : decode cL_law 697 = .ok (.iload_n 3, 1) := by decide +kernel
theorem dL_law_698 : decode cL_law 698 = .ok (.iconst 2, 1) := by decide +kernel
theorem dL_law_699 : decode cL_law 699 = .ok (.iadd, 1) := by decide +kernel
theorem dL_law_700 : decode cL_law 700 = .ok (.iaload, 1) := by decide +kernel
theorem dL_law_701 : decode cL_law 701 = .ok (.invokevirtual 85, 3) := by decide +kernel
theorem dL_law_704 : decode cL_law 704 = .ok (.if_icmp .eq 608, 3) := by decide +kernel
theorem dL_law_707 : decode cL_law 707 = .ok (.iconst 0, 1) := by decide +kernel
theorem dL_law_708 : decode cL_law 708 = .ok (.ireturn, 1) := by decide +kernel
theorem dL_law_709 : decode cL_law 709 = .ok (.aload_n 1, 1) := by decide +kernel
theorem dL_law_710 : decode cL_law 710 = .ok (.aload_n 0, 1) := by decide +kernel
theorem dL_law_711 : decode cL_law 711 = .ok (.iload_n 3, 1) := by decide +kernel
theorem dL_law_712 : decode cL_law 712 = .ok (.iconst 1, 1) := by decide +kernel
theorem dL_law_713 : decode cL_law 713 = .ok (.iadd, 1) := by decide +kernel
theorem dL_law_714 : decode cL_law 714 = .ok (.iaload, 1) := by decide +kernel
theorem dL_law_715 : decode cL_law 715 = .ok (.aload_n 0, 1) := by decide +kernel
theorem dL_law_716 : decode cL_law 716 = .ok (.iload_n 3, 1) := by decide +kernel
theorem dL_law_717 : decode cL_law 717 = .ok (.iconst 2, 1) := by decide +kernel
theorem dL_law_718 : decode cL_law 718 = .ok (.iadd, 1) := by decide +kernel
theorem dL_law_719 : decode cL_law 719 = .ok (.iaload, 1) := by decide +kernel
theorem dL_law_720 : decode cL_law 720 = .ok (.invokevirtual 86, 3) := by decide +kernel
theorem dL_law_723 : decode cL_law 723 = .ok (.aload_n 2, 1) := by decide +kernel
theorem dL_law_724 : decode cL_law 724 = .ok (.aload_n 0, 1) := by decide +kernel
theorem dL_law_725 : decode cL_law 725 = .ok (.iload_n 3, 1) := by decide +kernel
theorem dL_law_726 : decode cL_law 726 = .ok (.iconst 1, 1) := by decide +kernel
theorem dL_law_727 : decode cL_law 727 = .ok (.iadd, 1) := by decide +kernel
theorem dL_law_728 : decode cL_law 728 = .ok (.iaload, 1) := by decide +kernel
theorem dL_law_729 : decode cL_law 729 = .ok (.aload_n 0, 1) := by decide +kernel
theorem dL_law_730 : decode cL_law 730 = .ok (.iload_n 3, 1) := by decide +kernel
theorem dL_law_731 : decode cL_law 731 = .ok (.iconst 2, 1) := by decide +kernel
theorem dL_law_732 : decode cL_law 732 = .ok (.iadd, 1) := by decide +kernel
theorem dL_law_733 : decode cL_law 733 = .ok (.iaload, 1) := by decide +kernel
theorem dL_law_734 : decode cL_law 734 = .ok (.invokevirtual 89, 3) := by decide +kernel
theorem dL_law_737 : decode cL_law 737 = .ok (.if_icmp .eq 575, 3) := by decide +kernel
theorem dL_law_740 : decode cL_law 740 = .ok (.iconst 0, 1) := by decide +kernel
theorem dL_law_741 : decode cL_law 741 = .ok (.ireturn, 1) := by decide +kernel
theorem dL_law_742 : decode cL_law 742 = .ok (.aload_n 1, 1) := by decide +kernel
theorem dL_law_743 : decode cL_law 743 = .ok (.aload_n 0, 1) := by decide +kernel
theorem dL_law_744 : decode cL_law 744 = .ok (.iload_n 3, 1) := by decide +kernel
theorem dL_law_745 : decode cL_law 745 = .ok (.iconst 1, 1) := by decide +kernel
theorem dL_law_746 : decode cL_law 746 = .ok (.iadd, 1) := by decide +kernel
theorem dL_law_747 : decode cL_law 747 = .ok (.iaload, 1) := by decide +kernel
theorem dL_law_748 : decode cL_law 748 = .ok (.invokevirtual 90, 3) := by decide +kernel
theorem dL_law_751 : decode cL_law 751 = .ok (.aload_n 2, 1) := by decide +kernel
theorem dL_law_752 : decode cL_law 752 = .ok (.aload_n 0, 1) := by decide +kernel
theorem dL_law_753 : decode cL_law 753 = .ok (.iload_n 3, 1) := by decide +kernel
theorem dL_law_754 : decode cL_law 754 = .ok (.iconst 1, 1) := by decide +kernel
theorem dL_law_755 : decode cL_law 755 = .ok (.iadd, 1) := by decide +kernel
theorem dL_law_756 : decode cL_law 756 = .ok (.iaload, 1) := by decide +kernel
theorem dL_law_757 : decode cL_law 757 = .ok (.invokevirtual 93, 3) := by decide +kernel
theorem dL_law_760 : decode cL_law 760 = .ok (.if_icmp .eq 552, 3) := by decide +kernel
theorem dL_law_763 : decode cL_law 763 = .ok (.iconst 0, 1) := by decide +kernel
theorem dL_law_764 : decode cL_law 764 = .ok (.ireturn, 1) := by decide +kernel
theorem dL_law_765 : decode cL_law 765 = .ok (.aload_n 1, 1) := by decide +kernel
theorem dL_law_766 : decode cL_law 766 = .ok (.aload_n 0, 1) := by decide +kernel
theorem dL_law_767 : decode cL_law 767 = .ok (.iload_n 3, 1) := by decide +kernel
theorem dL_law_768 : decode cL_law 768 = .ok (.iconst 1, 1) := by decide +kernel
theorem dL_law_769 : decode cL_law 769 = .ok (.iadd, 1) := by decide +kernel
theorem dL_law_770 : decode cL_law 770 = .ok (.iaload, 1) := by decide +kernel
theorem dL_law_771 : decode cL_law 771 = .ok (.aload_n 0, 1) := by decide +kernel
theorem dL_law_772 : decode cL_law 772 = .ok (.iload_n 3, 1) := by decide +kernel
theorem dL_law_773 : decode cL_law 773 = .ok (.iconst 2, 1) := by decide +kernel
theorem dL_law_774 : decode cL_law 774 = .ok (.iadd, 1) := by decide +kernel
theorem dL_law_775 : decode cL_law 775 = .ok (.iaload, 1) := by decide +kernel
theorem dL_law_776 : decode cL_law 776 = .ok (.ifCond .eq 7, 3) := by decide +kernel
theorem dL_law_779 : decode cL_law 779 = .ok (.iconst 1, 1) := by decide +kernel
theorem dL_law_780 : decode cL_law 780 = .ok (.goto 4, 3) := by decide +kernel
theorem dL_law_783 : decode cL_law 783 = .ok (.iconst 0, 1) := by decide +kernel
theorem dL_law_784 : decode cL_law 784 = .ok (.invokevirtual 94, 3) := by decide +kernel
theorem dL_law_787 : decode cL_law 787 = .ok (.aload_n 2, 1) := by decide +kernel
theorem dL_law_788 : decode cL_law 788 = .ok (.aload_n 0, 1) := by decide +kernel
theorem dL_law_789 : decode cL_law 789 = .ok (.iload_n 3, 1) := by decide +kernel
theorem dL_law_790 : decode cL_law 790 = .ok (.iconst 1, 1) := by decide +kernel
theorem dL_law_791 : decode cL_law 791 = .ok (.iadd, 1) := by decide +kernel
theorem dL_law_792 : decode cL_law 792 = .ok (.iaload, 1) := by decide +kernel
theorem dL_law_793 : decode cL_law 793 = .ok (.aload_n 0, 1) := by decide +kernel
theorem dL_law_794 : decode cL_law 794 = .ok (.iload_n 3, 1) := by decide +kernel
theorem dL_law_795 : decode cL_law 795 = .ok (.iconst 2, 1) := by decide +kernel
theorem dL_law_796 : decode cL_law 796 = .ok (.iadd, 1) := by decide +kernel
theorem dL_law_797 : decode cL_law 797 = .ok (.iaload, 1) := by decide +kernel
theorem dL_law_798 : decode cL_law 798 = .ok (.ifCond .eq 7, 3) := by decide +kernel
theorem dL_law_801 : decode cL_law 801 = .ok (.iconst 1, 1) := by decide +kernel
theorem dL_law_802 : decode cL_law 802 = .ok (.goto 4, 3) := by decide +kernel
theorem dL_law_805 : decode cL_law 805 = .ok (.iconst 0, 1) := by decide +kernel
theorem dL_law_806 : decode cL_law 806 = .ok (.invokevirtual 98, 3) := by decide +kernel
theorem dL_law_809 : decode cL_law 809 = .ok (.if_icmp .eq 503, 3) := by decide +kernel
theorem dL_law_812 : decode cL_law 812 = .ok (.iconst 0, 1) := by decide +kernel
theorem dL_law_813 : decode cL_law 813 = .ok (.ireturn, 1) := by decide +kernel
theorem dL_law_814 : decode cL_law 814 = .ok (.aload_n 1, 1) := by decide +kernel
theorem dL_law_815 : decode cL_law 815 = .ok (.aload_n 0, 1) := by decide +kernel
theorem dL_law_816 : decode cL_law 816 = .ok (.iload_n 3, 1) := by decide +kernel
theorem dL_law_817 : decode cL_law 817 = .ok (.iconst 1, 1) := by decide +kernel
theorem dL_law_818 : decode cL_law 818 = .ok (.iadd, 1) := by decide +kernel
theorem dL_law_819 : decode cL_law 819 = .ok (.iaload, 1) := by decide +kernel
theorem dL_law_820 : decode cL_law 820 = .ok (.aload_n 0, 1) := by decide +kernel
theorem dL_law_821 : decode cL_law 821 = .ok (.iload_n 3, 1) := by decide +kernel
theorem dL_law_822 : decode cL_law 822 = .ok (.iconst 2, 1) := by decide +kernel
theorem dL_law_823 : decode cL_law 823 = .ok (.iadd, 1) := by decide +kernel
theorem dL_law_824 : decode cL_law 824 = .ok (.iaload, 1) := by decide +kernel
theorem dL_law_825 : decode cL_law 825 = .ok (.invokevirtual 99, 3) := by decide +kernel
theorem dL_law_828 : decode cL_law 828 = .ok (.aload_n 2, 1) := by decide +kernel
theorem dL_law_829 : decode cL_law 829 = .ok (.aload_n 0, 1) := by decide +kernel
theorem dL_law_830 : decode cL_law 830 = .ok (.iload_n 3, 1) := by decide +kernel
theorem dL_law_831 : decode cL_law 831 = .ok (.iconst 1, 1) := by decide +kernel
theorem dL_law_832 : decode cL_law 832 = .ok (.iadd, 1) := by decide +kernel
theorem dL_law_833 : decode cL_law 833 = .ok (.iaload, 1) := by decide +kernel
theorem dL_law_834 : decode cL_law 834 = .ok (.aload_n 0, 1) := by decide +kernel
theorem dL_law_835 : decode cL_law 835 = .ok (.iload_n 3, 1) := by decide +kernel
theorem dL_law_836 : decode cL_law 836 = .ok (.iconst 2, 1) := by decide +kernel
theorem dL_law_837 : decode cL_law 837 = .ok (.iadd, 1) := by decide +kernel
theorem dL_law_838 : decode cL_law 838 = .ok (.iaload, 1) := by decide +kernel
theorem dL_law_839 : decode cL_law 839 = .ok (.invokevirtual 102, 3) := by decide +kernel
theorem dL_law_842 : decode cL_law 842 = .ok (.if_icmp .eq 470, 3) := by decide +kernel
theorem dL_law_845 : decode cL_law 845 = .ok (.iconst 0, 1) := by decide +kernel
theorem dL_law_846 : decode cL_law 846 = .ok (.ireturn, 1) := by decide +kernel
theorem dL_law_847 : decode cL_law 847 = .ok (.aload_n 1, 1) := by decide +kernel
theorem dL_law_848 : decode cL_law 848 = .ok (.aload_n 0, 1) := by decide +kernel
theorem dL_law_849 : decode cL_law 849 = .ok (.iload_n 3, 1) := by decide +kernel
theorem dL_law_850 : decode cL_law 850 = .ok (.iconst 1, 1) := by decide +kernel
theorem dL_law_851 : decode cL_law 851 = .ok (.iadd, 1) := by decide +kernel
theorem dL_law_852 : decode cL_law 852 = .ok (.iaload, 1) := by decide +kernel
theorem dL_law_853 : decode cL_law 853 = .ok (.aload_n 0, 1) := by decide +kernel
theorem dL_law_854 : decode cL_law 854 = .ok (.iload_n 3, 1) := by decide +kernel
theorem dL_law_855 : decode cL_law 855 = .ok (.iconst 2, 1) := by decide +kernel
theorem dL_law_856 : decode cL_law 856 = .ok (.iadd, 1) := by decide +kernel
theorem dL_law_857 : decode cL_law 857 = .ok (.iaload, 1) := by decide +kernel
theorem dL_law_858 : decode cL_law 858 = .ok (.aload_n 0, 1) := by decide +kernel
theorem dL_law_859 : decode cL_law 859 = .ok (.iload_n 3, 1) := by decide +kernel
theorem dL_law_860 : decode cL_law 860 = .ok (.iconst 3, 1) := by decide +kernel
theorem dL_law_861 : decode cL_law 861 = .ok (.iadd, 1) := by decide +kernel
theorem dL_law_862 : decode cL_law 862 = .ok (.iaload, 1) := by decide +kernel
theorem dL_law_863 : decode cL_law 863 = .ok (.invokevirtual 103, 3) := by decide +kernel
theorem dL_law_866 : decode cL_law 866 = .ok (.aload_n 2, 1) := by decide +kernel
theorem dL_law_867 : decode cL_law 867 = .ok (.aload_n 0, 1) := by decide +kernel
theorem dL_law_868 : decode cL_law 868 = .ok (.iload_n 3, 1) := by decide +kernel
theorem dL_law_869 : decode cL_law 869 = .ok (.iconst 1, 1) := by decide +kernel
theorem dL_law_870 : decode cL_law 870 = .ok (.iadd, 1) := by decide +kernel
theorem dL_law_871 : decode cL_law 871 = .ok (.iaload, 1) := by decide +kernel
theorem dL_law_872 : decode cL_law 872 = .ok (.aload_n 0, 1) := by decide +kernel
theorem dL_law_873 : decode cL_law 873 = .ok (.iload_n 3, 1) := by decide +kernel
theorem dL_law_874 : decode cL_law 874 = .ok (.iconst 2, 1) := by decide +kernel
theorem dL_law_875 : decode cL_law 875 = .ok (.iadd, 1) := by decide +kernel
theorem dL_law_876 : decode cL_law 876 = .ok (.iaload, 1) := by decide +kernel
theorem dL_law_877 : decode cL_law 877 = .ok (.aload_n 0, 1) := by decide +kernel
theorem dL_law_878 : decode cL_law 878 = .ok (.iload_n 3, 1) := by decide +kernel
theorem dL_law_879 : decode cL_law 879 = .ok (.iconst 3, 1) := by decide +kernel
theorem dL_law_880 : decode cL_law 880 = .ok (.iadd, 1) := by decide +kernel
theorem dL_law_881 : decode cL_law 881 = .ok (.iaload, 1) := by decide +kernel
theorem dL_law_882 : decode cL_law 882 = .ok (.invokevirtual 107, 3) := by decide +kernel
theorem dL_law_885 : decode cL_law 885 = .ok (.lcmp, 1) := by decide +kernel
theorem dL_law_886 : decode cL_law 886 = .ok (.ifCond .eq 426, 3) := by decide +kernel
theorem dL_law_889 : decode cL_law 889 = .ok (.iconst 0, 1) := by decide +kernel
theorem dL_law_890 : decode cL_law 890 = .ok (.ireturn, 1) := by decide +kernel
theorem dL_law_891 : decode cL_law 891 = .ok (.aload_n 1, 1) := by decide +kernel
theorem dL_law_892 : decode cL_law 892 = .ok (.aload_n 0, 1) := by decide +kernel
theorem dL_law_893 : decode cL_law 893 = .ok (.iload_n 3, 1) := by decide +kernel
theorem dL_law_894 : decode cL_law 894 = .ok (.iconst 1, 1) := by decide +kernel
theorem dL_law_895 : decode cL_law 895 = .ok (.iadd, 1) := by decide +kernel
theorem dL_law_896 : decode cL_law 896 = .ok (.iaload, 1) := by decide +kernel
theorem dL_law_897 : decode cL_law 897 = .ok (.invokevirtual 108, 3) := by decide +kernel
theorem dL_law_900 : decode cL_law 900 = .ok (.aload_n 2, 1) := by decide +kernel
theorem dL_law_901 : decode cL_law 901 = .ok (.aload_n 0, 1) := by decide +kernel
theorem dL_law_902 : decode cL_law 902 = .ok (.iload_n 3, 1) := by decide +kernel
theorem dL_law_903 : decode cL_law 903 = .ok (.iconst 1, 1) := by decide +kernel
theorem dL_law_904 : decode cL_law 904 = .ok (.iadd, 1) := by decide +kernel
theorem dL_law_905 : decode cL_law 905 = .ok (.iaload, 1) := by decide +kernel
theorem dL_law_906 : decode cL_law 906 = .ok (.invokevirtual 112, 3) := by decide +kernel
theorem dL_law_909 : decode cL_law 909 = .ok (.lcmp, 1) := by decide +kernel
theorem dL_law_910 : decode cL_law 910 = .ok (.ifCond .eq 402, 3) := by decide +kernel
theorem dL_law_913 : decode cL_law 913 = .ok (.iconst 0, 1) := by decide +kernel
theorem dL_law_914 : decode cL_law 914 = .ok (.ireturn, 1) := by decide +kernel
theorem dL_law_915 : decode cL_law 915 = .ok (.aload_n 1, 1) := by decide +kernel
theorem dL_law_916 : decode cL_law 916 = .ok (.aload_n 0, 1) := by decide +kernel
theorem dL_law_917 : decode cL_law 917 = .ok (.iload_n 3, 1) := by decide +kernel
theorem dL_law_918 : decode cL_law 918 = .ok (.iconst 1, 1) := by decide +kernel
theorem dL_law_919 : decode cL_law 919 = .ok (.iadd, 1) := by decide +kernel
theorem dL_law_920 : decode cL_law 920 = .ok (.iaload, 1) := by decide +kernel
theorem dL_law_921 : decode cL_law 921 = .ok (.aload_n 0, 1) := by decide +kernel
theorem dL_law_922 : decode cL_law 922 = .ok (.iload_n 3, 1) := by decide +kernel
theorem dL_law_923 : decode cL_law 923 = .ok (.iconst 2, 1) := by decide +kernel
theorem dL_law_924 : decode cL_law 924 = .ok (.iadd, 1) := by decide +kernel
theorem dL_law_925 : decode cL_law 925 = .ok (.iaload, 1) := by decide +kernel
theorem dL_law_926 : decode cL_law 926 = .ok (.invokevirtual 113, 3) := by decide +kernel
theorem dL_law_929 : decode cL_law 929 = .ok (.aload_n 2, 1) := by decide +kernel
theorem dL_law_930 : decode cL_law 930 = .ok (.aload_n 0, 1) := by decide +kernel
theorem dL_law_931 : decode cL_law 931 = .ok (.iload_n 3, 1) := by decide +kernel
theorem dL_law_932 : decode cL_law 932 = .ok (.iconst 1, 1) := by decide +kernel
theorem dL_law_933 : decode cL_law 933 = .ok (.iadd, 1) := by decide +kernel
theorem dL_law_934 : decode cL_law 934 = .ok (.iaload, 1) := by decide +kernel
theorem dL_law_935 : decode cL_law 935 = .ok (.aload_n 0, 1) := by decide +kernel
theorem dL_law_936 : decode cL_law 936 = .ok (.iload_n 3, 1) := by decide +kernel
theorem dL_law_937 : decode cL_law 937 = .ok (.iconst 2, 1) := by decide +kernel
theorem dL_law_938 : decode cL_law 938 = .ok (.iadd, 1) := by decide +kernel
theorem dL_law_939 : decode cL_law 939 = .ok (.iaload, 1) := by decide +kernel
theorem dL_law_940 : decode cL_law 940 = .ok (.invokevirtual 116, 3) := by decide +kernel
theorem dL_law_943 : decode cL_law 943 = .ok (.if_icmp .eq 369, 3) := by decide +kernel
theorem dL_law_946 : decode cL_law 946 = .ok (.iconst 0, 1) := by decide +kernel
theorem dL_law_947 : decode cL_law 947 = .ok (.ireturn, 1) := by decide +kernel
theorem dL_law_948 : decode cL_law 948 = .ok (.aload_n 1, 1) := by decide +kernel
theorem dL_law_949 : decode cL_law 949 = .ok (.aload_n 0, 1) := by decide +kernel
theorem dL_law_950 : decode cL_law 950 = .ok (.iload_n 3, 1) := by decide +kernel
theorem dL_law_951 : decode cL_law 951 = .ok (.iconst 1, 1) := by decide +kernel
theorem dL_law_952 : decode cL_law 952 = .ok (.iadd, 1) := by decide +kernel
theorem dL_law_953 : decode cL_law 953 = .ok (.iaload, 1) := by decide +kernel
theorem dL_law_954 : decode cL_law 954 = .ok (.invokevirtual 117, 3) := by decide +kernel
theorem dL_law_957 : decode cL_law 957 = .ok (.aload_n 2, 1) := by decide +kernel
theorem dL_law_958 : decode cL_law 958 = .ok (.aload_n 0, 1) := by decide +kernel
theorem dL_law_959 : decode cL_law 959 = .ok (.iload_n 3, 1) := by decide +kernel
theorem dL_law_960 : decode cL_law 960 = .ok (.iconst 1, 1) := by decide +kernel
theorem dL_law_961 : decode cL_law 961 = .ok (.iadd, 1) := by decide +kernel
theorem dL_law_962 : decode cL_law 962 = .ok (.iaload, 1) := by decide +kernel
theorem dL_law_963 : decode cL_law 963 = .ok (.invokevirtual 120, 3) := by decide +kernel
theorem dL_law_966 : decode cL_law 966 = .ok (.if_icmp .eq 346, 3) := by decide +kernel
theorem dL_law_969 : decode cL_law 969 = .ok (.iconst 0, 1) := by decide +kernel
theorem dL_law_970 : decode cL_law 970 = .ok (.ireturn, 1) := by decide +kernel
theorem dL_law_971 : decode cL_law 971 = .ok (.aload_n 1, 1) := by decide +kernel
theorem dL_law_972 : decode cL_law 972 = .ok (.aload_n 0, 1) := by decide +kernel
theorem dL_law_973 : decode cL_law 973 = .ok (.iload_n 3, 1) := by decide +kernel
theorem dL_law_974 : decode cL_law 974 = .ok (.iconst 1, 1) := by decide +kernel
theorem dL_law_975 : decode cL_law 975 = .ok (.iadd, 1) := by decide +kernel
theorem dL_law_976 : decode cL_law 976 = .ok (.iaload, 1) := by decide +kernel
theorem dL_law_977 : decode cL_law 977 = .ok (.aload_n 0, 1) := by decide +kernel
theorem dL_law_978 : decode cL_law 978 = .ok (.iload_n 3, 1) := by decide +kernel
theorem dL_law_979 : decode cL_law 979 = .ok (.iconst 2, 1) := by decide +kernel
theorem dL_law_980 : decode cL_law 980 = .ok (.iadd, 1) := by decide +kernel
theorem dL_law_981 : decode cL_law 981 = .ok (.iaload, 1) := by decide +kernel
theorem dL_law_982 : decode cL_law 982 = .ok (.invokevirtual 121, 3) := by decide +kernel
theorem dL_law_985 : decode cL_law 985 = .ok (.aload_n 2, 1) := by decide +kernel
theorem dL_law_986 : decode cL_law 986 = .ok (.aload_n 0, 1) := by decide +kernel
theorem dL_law_987 : decode cL_law 987 = .ok (.iload_n 3, 1) := by decide +kernel
theorem dL_law_988 : decode cL_law 988 = .ok (.iconst 1, 1) := by decide +kernel
theorem dL_law_989 : decode cL_law 989 = .ok (.iadd, 1) := by decide +kernel
theorem dL_law_990 : decode cL_law 990 = .ok (.iaload, 1) := by decide +kernel
theorem dL_law_991 : decode cL_law 991 = .ok (.aload_n 0, 1) := by decide +kernel
theorem dL_law_992 : decode cL_law 992 = .ok (.iload_n 3, 1) := by decide +kernel
theorem dL_law_993 : decode cL_law 993 = .ok (.iconst 2, 1) := by decide +kernel
theorem dL_law_994 : decode cL_law 994 = .ok (.iadd, 1) := by decide +kernel
theorem dL_law_995 : decode cL_law 995 = .ok (.iaload, 1) := by decide +kernel
theorem dL_law_996 : decode cL_law 996 = .ok (.invokevirtual 124, 3) := by decide +kernel
theorem dL_law_999 : decode cL_law 999 = .ok (.if_icmp .eq 313, 3) := by decide +kernel
theorem dL_law_1002 : decode cL_law 1002 = .ok (.iconst 0, 1) := by decide +kernel
theorem dL_law_1003 : decode cL_law 1003 = .ok (.ireturn, 1) := by decide +kernel
theorem dL_law_1004 : decode cL_law 1004 = .ok (.aload_n 1, 1) := by decide +kernel
theorem dL_law_1005 : decode cL_law 1005 = .ok (.invokevirtual 125, 3) := by decide +kernel
theorem dL_law_1008 : decode cL_law 1008 = .ok (.aload_n 2, 1) := by decide +kernel
theorem dL_law_1009 : decode cL_law 1009 = .ok (.invokevirtual 128, 3) := by decide +kernel
theorem dL_law_1012 : decode cL_law 1012 = .ok (.if_icmp .eq 300, 3) := by decide +kernel
theorem dL_law_1015 : decode cL_law 1015 = .ok (.iconst 0, 1) := by decide +kernel
theorem dL_law_1016 : decode cL_law 1016 = .ok (.ireturn, 1) := by decide +kernel
theorem dL_law_1017 : decode cL_law 1017 = .ok (.aload_n 1, 1) := by decide +kernel
theorem dL_law_1018 : decode cL_law 1018 = .ok (.aload_n 0, 1) := by decide +kernel
theorem dL_law_1019 : decode cL_law 1019 = .ok (.iload_n 3, 1) := by decide +kernel
theorem dL_law_1020 : decode cL_law 1020 = .ok (.iconst 1, 1) := by decide +kernel
theorem dL_law_1021 : decode cL_law 1021 = .ok (.iadd, 1) := by decide +kernel
theorem dL_law_1022 : decode cL_law 1022 = .ok (.iaload, 1) := by decide +kernel
theorem dL_law_1023 : decode cL_law 1023 = .ok (.aload_n 0, 1) := by decide +kernel
theorem dL_law_1024 : decode cL_law 1024 = .ok (.iload_n 3, 1) := by decide +kernel
theorem dL_law_1025 : decode cL_law 1025 = .ok (.iconst 2, 1) := by decide +kernel
theorem dL_law_1026 : decode cL_law 1026 = .ok (.iadd, 1) := by decide +kernel
theorem dL_law_1027 : decode cL_law 1027 = .ok (.iaload, 1) := by decide +kernel
theorem dL_law_1028 : decode cL_law 1028 = .ok (.invokevirtual 129, 3) := by decide +kernel
theorem dL_law_1031 : decode cL_law 1031 = .ok (.aload_n 2, 1) := by decide +kernel
theorem dL_law_1032 : decode cL_law 1032 = .ok (.aload_n 0, 1) := by decide +kernel
theorem dL_law_1033 : decode cL_law 1033 = .ok (.iload_n 3, 1) := by decide +kernel
theorem dL_law_1034 : decode cL_law 1034 = .ok (.iconst 1, 1) := by decide +kernel
theorem dL_law_1035 : decode cL_law 1035 = .ok (.iadd, 1) := by decide +kernel
theorem dL_law_1036 : decode cL_law 1036 = .ok (.iaload, 1) := by decide +kernel
theorem dL_law_1037 : decode cL_law 1037 = .ok (.aload_n 0, 1) := by decide +kernel
theorem dL_law_1038 : decode cL_law 1038 = .ok (.iload_n 3, 1) := by decide +kernel
theorem dL_law_1039 : decode cL_law 1039 = .ok (.iconst 2, 1) := by decide +kernel
theorem dL_law_1040 : decode cL_law 1040 = .ok (.iadd, 1) := by decide +kernel
theorem dL_law_1041 : decode cL_law 1041 = .ok (.iaload, 1) := by decide +kernel
theorem dL_law_1042 : decode cL_law 1042 = .ok (.invokevirtual 132, 3) := by decide +kernel
theorem dL_law_1045 : decode cL_law 1045 = .ok (.if_icmp .eq 267, 3) := by decide +kernel
theorem dL_law_1048 : decode cL_law 1048 = .ok (.iconst 0, 1) := by decide +kernel
theorem dL_law_1049 : decode cL_law 1049 = .ok (.ireturn, 1) := by decide +kernel
theorem dL_law_1050 : decode cL_law 1050 = .ok (.aload_n 1, 1) := by decide +kernel
theorem dL_law_1051 : decode cL_law 1051 = .ok (.invokevirtual 133, 3) := by decide +kernel
theorem dL_law_1054 : decode cL_law 1054 = .ok (.aload_n 2, 1) := by decide +kernel
theorem dL_law_1055 : decode cL_law 1055 = .ok (.invokevirtual 136, 3) := by decide +kernel
theorem dL_law_1058 : decode cL_law 1058 = .ok (.if_icmp .eq 254, 3) := by decide +kernel
theorem dL_law_1061 : decode cL_law 1061 = .ok (.iconst 0, 1) := by decide +kernel
theorem dL_law_1062 : decode cL_law 1062 = .ok (.ireturn, 1) := by decide +kernel
theorem dL_law_1063 : decode cL_law 1063 = .ok (.aload_n 1, 1) := by decide +kernel
theorem dL_law_1064 : decode cL_law 1064 = .ok (.invokevirtual 137, 3) := by decide +kernel
theorem dL_law_1067 : decode cL_law 1067 = .ok (.aload_n 2, 1) := by decide +kernel
theorem dL_law_1068 : decode cL_law 1068 = .ok (.invokevirtual 140, 3) := by decide +kernel
theorem dL_law_1071 : decode cL_law 1071 = .ok (.if_icmp .eq 241, 3) := by decide +kernel
theorem dL_law_1074 : decode cL_law 1074 = .ok (.iconst 0, 1) := by decide +kernel
theorem dL_law_1075 : decode cL_law 1075 = .ok (.ireturn, 1) := by decide +kernel
theorem dL_law_1076 : decode cL_law 1076 = .ok (.aload_n 1, 1) := by decide +kernel
theorem dL_law_1077 : decode cL_law 1077 = .ok (.aload_n 0, 1) := by decide +kernel
theorem dL_law_1078 : decode cL_law 1078 = .ok (.iload_n 3, 1) := by decide +kernel
theorem dL_law_1079 : decode cL_law 1079 = .ok (.iconst 1, 1) := by decide +kernel
theorem dL_law_1080 : decode cL_law 1080 = .ok (.iadd, 1) := by decide +kernel
theorem dL_law_1081 : decode cL_law 1081 = .ok (.iaload, 1) := by decide +kernel
theorem dL_law_1082 : decode cL_law 1082 = .ok (.invokevirtual 141, 3) := by decide +kernel
theorem dL_law_1085 : decode cL_law 1085 = .ok (.aload_n 2, 1) := by decide +kernel
theorem dL_law_1086 : decode cL_law 1086 = .ok (.aload_n 0, 1) := by decide +kernel
theorem dL_law_1087 : decode cL_law 1087 = .ok (.iload_n 3, 1) := by decide +kernel
theorem dL_law_1088 : decode cL_law 1088 = .ok (.iconst 1, 1) := by decide +kernel
theorem dL_law_1089 : decode cL_law 1089 = .ok (.iadd, 1) := by decide +kernel
theorem dL_law_1090 : decode cL_law 1090 = .ok (.iaload, 1) := by decide +kernel
theorem dL_law_1091 : decode cL_law 1091 = .ok (.invokevirtual 144, 3) := by decide +kernel
theorem dL_law_1094 : decode cL_law 1094 = .ok (.if_icmp .eq 218, 3) := by decide +kernel
theorem dL_law_1097 : decode cL_law 1097 = .ok (.iconst 0, 1) := by decide +kernel
theorem dL_law_1098 : decode cL_law 1098 = .ok (.ireturn, 1) := by decide +kernel
theorem dL_law_1099 : decode cL_law 1099 = .ok (.aload_n 1, 1) := by decide +kernel
theorem dL_law_1100 : decode cL_law 1100 = .ok (.aload_n 0, 1) := by decide +kernel
theorem dL_law_1101 : decode cL_law 1101 = .ok (.iload_n 3, 1) := by decide +kernel
theorem dL_law_1102 : decode cL_law 1102 = .ok (.iconst 1, 1) := by decide +kernel
theorem dL_law_1103 : decode cL_law 1103 = .ok (.iadd, 1) := by decide +kernel
theorem dL_law_1104 : decode cL_law 1104 = .ok (.iaload, 1) := by decide +kernel
theorem dL_law_1105 : decode cL_law 1105 = .ok (.aload_n 0, 1) := by decide +kernel
theorem dL_law_1106 : decode cL_law 1106 = .ok (.iload_n 3, 1) := by decide +kernel
theorem dL_law_1107 : decode cL_law 1107 = .ok (.iconst 2, 1) := by decide +kernel
theorem dL_law_1108 : decode cL_law 1108 = .ok (.iadd, 1) := by decide +kernel
theorem dL_law_1109 : decode cL_law 1109 = .ok (.iaload, 1) := by decide +kernel
theorem dL_law_1110 : decode cL_law 1110 = .ok (.aload_n 0, 1) := by decide +kernel
theorem dL_law_1111 : decode cL_law 1111 = .ok (.iload_n 3, 1) := by decide +kernel
theorem dL_law_1112 : decode cL_law 1112 = .ok (.iconst 3, 1) := by decide +kernel
theorem dL_law_1113 : decode cL_law 1113 = .ok (.iadd, 1) := by decide +kernel
theorem dL_law_1114 : decode cL_law 1114 = .ok (.iaload, 1) := by decide +kernel
theorem dL_law_1115 : decode cL_law 1115 = .ok (.invokevirtual 145, 3) := by decide +kernel
theorem dL_law_1118 : decode cL_law 1118 = .ok (.aload_n 2, 1) := by decide +kernel
theorem dL_law_1119 : decode cL_law 1119 = .ok (.aload_n 0, 1) := by decide +kernel
theorem dL_law_1120 : decode cL_law 1120 = .ok (.iload_n 3, 1) := by decide +kernel
theorem dL_law_1121 : decode cL_law 1121 = .ok (.iconst 1, 1) := by decide +kernel
theorem dL_law_1122 : decode cL_law 1122 = .ok (.iadd, 1) := by decide +kernel
theorem dL_law_1123 : decode cL_law 1123 = .ok (.iaload, 1) := by decide +kernel
theorem dL_law_1124 : decode cL_law 1124 = .ok (.aload_n 0, 1) := by decide +kernel
theorem dL_law_1125 : decode cL_law 1125 = .ok (.iload_n 3, 1) := by decide +kernel
theorem dL_law_1126 : decode cL_law 1126 = .ok (.iconst 2, 1) := by decide +kernel
theorem dL_law_1127 : decode cL_law 1127 = .ok (.iadd, 1) := by decide +kernel
theorem dL_law_1128 : decode cL_law 1128 = .ok (.iaload, 1) := by decide +kernel
theorem dL_law_1129 : decode cL_law 1129 = .ok (.aload_n 0, 1) := by decide +kernel
theorem dL_law_1130 : decode cL_law 1130 = .ok (.iload_n 3, 1) := by decide +kernel
theorem dL_law_1131 : decode cL_law 1131 = .ok (.iconst 3, 1) := by decide +kernel
theorem dL_law_1132 : decode cL_law 1132 = .ok (.iadd, 1) := by decide +kernel
theorem dL_law_1133 : decode cL_law 1133 = .ok (.iaload, 1) := by decide +kernel
theorem dL_law_1134 : decode cL_law 1134 = .ok (.invokevirtual 148, 3) := by decide +kernel
theorem dL_law_1137 : decode cL_law 1137 = .ok (.if_icmp .eq 175, 3) := by decide +kernel
theorem dL_law_1140 : decode cL_law 1140 = .ok (.iconst 0, 1) := by decide +kernel
theorem dL_law_1141 : decode cL_law 1141 = .ok (.ireturn, 1) := by decide +kernel
theorem dL_law_1142 : decode cL_law 1142 = .ok (.aload_n 1, 1) := by decide +kernel
theorem dL_law_1143 : decode cL_law 1143 = .ok (.aload_n 0, 1) := by decide +kernel
theorem dL_law_1144 : decode cL_law 1144 = .ok (.iload_n 3, 1) := by decide +kernel
theorem dL_law_1145 : decode cL_law 1145 = .ok (.iconst 1, 1) := by decide +kernel
theorem dL_law_1146 : decode cL_law 1146 = .ok (.iadd, 1) := by decide +kernel
theorem dL_law_1147 : decode cL_law 1147 = .ok (.iaload, 1) := by decide +kernel
theorem dL_law_1148 : decode cL_law 1148 = .ok (.aload_n 0, 1) := by decide +kernel
theorem dL_law_1149 : decode cL_law 1149 = .ok (.iload_n 3, 1) := by decide +kernel
theorem dL_law_1150 : decode cL_law 1150 = .ok (.iconst 2, 1) := by decide +kernel
theorem dL_law_1151 : decode cL_law 1151 = .ok (.iadd, 1) := by decide +kernel
theorem dL_law_1152 : decode cL_law 1152 = .ok (.iaload, 1) := by decide +kernel
theorem dL_law_1153 : decode cL_law 1153 = .ok (.aload_n 0, 1) := by decide +kernel
theorem dL_law_1154 : decode cL_law 1154 = .ok (.iload_n 3, 1) := by decide +kernel
theorem dL_law_1155 : decode cL_law 1155 = .ok (.iconst 3, 1) := by decide +kernel
theorem dL_law_1156 : decode cL_law 1156 = .ok (.iadd, 1) := by decide +kernel
theorem dL_law_1157 : decode cL_law 1157 = .ok (.iaload, 1) := by decide +kernel
theorem dL_law_1158 : decode cL_law 1158 = .ok (.i2l, 1) := by decide +kernel
theorem dL_law_1159 : decode cL_law 1159 = .ok (.bipush 32, 2) := by decide +kernel
theorem dL_law_1161 : decode cL_law 1161 = .ok (.lshl, 1) := by decide +kernel
theorem dL_law_1162 : decode cL_law 1162 = .ok (.aload_n 0, 1) := by decide +kernel
theorem dL_law_1163 : decode cL_law 1163 = .ok (.iload_n 3, 1) := by decide +kernel
theorem dL_law_1164 : decode cL_law 1164 = .ok (.iconst 4, 1) := by decide +kernel
theorem dL_law_1165 : decode cL_law 1165 = .ok (.iadd, 1) := by decide +kernel
theorem dL_law_1166 : decode cL_law 1166 = .ok (.iaload, 1) := by decide +kernel
theorem dL_law_1167 : decode cL_law 1167 = .ok (.i2l, 1) := by decide +kernel
theorem dL_law_1168 : decode cL_law 1168 = .ok (.ldc2_w 149, 3) := by decide +kernel
theorem dL_law_1171 : decode cL_law 1171 = .ok (.land, 1) := by decide +kernel
theorem dL_law_1172 : decode cL_law 1172 = .ok (.lor, 1) := by decide +kernel
theorem dL_law_1173 : decode cL_law 1173 = .ok (.invokevirtual 151, 3) := by decide +kernel
theorem dL_law_1176 : decode cL_law 1176 = .ok (.aload_n 2, 1) := by decide +kernel
theorem dL_law_1177 : decode cL_law 1177 = .ok (.aload_n 0, 1) := by decide +kernel
theorem dL_law_1178 : decode cL_law 1178 = .ok (.iload_n 3, 1) := by decide +kernel
theorem dL_law_1179 : decode cL_law 1179 = .ok (.iconst 1, 1) := by decide +kernel
theorem dL_law_1180 : decode cL_law 1180 = .ok (.iadd, 1) := by decide +kernel
theorem dL_law_1181 : decode cL_law 1181 = .ok (.iaload, 1) := by decide +kernel
theorem dL_law_1182 : decode cL_law 1182 = .ok (.aload_n 0, 1) := by decide +kernel
theorem dL_law_1183 : decode cL_law 1183 = .ok (.iload_n 3, 1) := by decide +kernel
theorem dL_law_1184 : decode cL_law 1184 = .ok (.iconst 2, 1) := by decide +kernel
theorem dL_law_1185 : decode cL_law 1185 = .ok (.iadd, 1) := by decide +kernel
theorem dL_law_1186 : decode cL_law 1186 = .ok (.iaload, 1) := by decide +kernel
theorem dL_law_1187 : decode cL_law 1187 = .ok (.aload_n 0, 1) := by decide +kernel
theorem dL_law_1188 : decode cL_law 1188 = .ok (.iload_n 3, 1) := by decide +kernel
theorem dL_law_1189 : decode cL_law 1189 = .ok (.iconst 3, 1) := by decide +kernel
theorem dL_law_1190 : decode cL_law 1190 = .ok (.iadd, 1) := by decide +kernel
theorem dL_law_1191 : decode cL_law 1191 = .ok (.iaload, 1) := by decide +kernel
theorem dL_law_1192 : decode cL_law 1192 = .ok (.i2l, 1) := by decide +kernel
theorem dL_law_1193 : decode cL_law 1193 = .ok (.bipush 32, 2) := by decide +kernel
theorem dL_law_1195 : decode cL_law 1195 = .ok (.lshl, 1) := by decide +kernel
theorem dL_law_1196 : decode cL_law 1196 = .ok (.aload_n 0, 1) := by decide +kernel
theorem dL_law_1197 : decode cL_law 1197 = .ok (.iload_n 3, 1) := by decide +kernel
theorem dL_law_1198 : decode cL_law 1198 = .ok (.iconst 4, 1) := by decide +kernel
theorem dL_law_1199 : decode cL_law 1199 = .ok (.iadd, 1) := by decide +kernel
theorem dL_law_1200 : decode cL_law 1200 = .ok (.iaload, 1) := by decide +kernel
theorem dL_law_1201 : decode cL_law 1201 = .ok (.i2l, 1) := by decide +kernel
theorem dL_law_1202 : decode cL_law 1202 = .ok (.ldc2_w 149, 3) := by decide +kernel
theorem dL_law_1205 : decode cL_law 1205 = .ok (.land, 1) := by decide +kernel
theorem dL_law_1206 : decode cL_law 1206 = .ok (.lor, 1) := by decide +kernel
theorem dL_law_1207 : decode cL_law 1207 = .ok (.invokevirtual 155, 3) := by decide +kernel
theorem dL_law_1210 : decode cL_law 1210 = .ok (.if_icmp .eq 102, 3) := by decide +kernel
theorem dL_law_1213 : decode cL_law 1213 = .ok (.iconst 0, 1) := by decide +kernel
theorem dL_law_1214 : decode cL_law 1214 = .ok (.ireturn, 1) := by decide +kernel
theorem dL_law_1215 : decode cL_law 1215 = .ok (.aload_n 1, 1) := by decide +kernel
theorem dL_law_1216 : decode cL_law 1216 = .ok (.aload_n 0, 1) := by decide +kernel
theorem dL_law_1217 : decode cL_law 1217 = .ok (.iload_n 3, 1) := by decide +kernel
theorem dL_law_1218 : decode cL_law 1218 = .ok (.iconst 1, 1) := by decide +kernel
theorem dL_law_1219 : decode cL_law 1219 = .ok (.iadd, 1) := by decide +kernel
theorem dL_law_1220 : decode cL_law 1220 = .ok (.iaload, 1) := by decide +kernel
theorem dL_law_1221 : decode cL_law 1221 = .ok (.aload_n 0, 1) := by decide +kernel
theorem dL_law_1222 : decode cL_law 1222 = .ok (.iload_n 3, 1) := by decide +kernel
theorem dL_law_1223 : decode cL_law 1223 = .ok (.iconst 2, 1) := by decide +kernel
theorem dL_law_1224 : decode cL_law 1224 = .ok (.iadd, 1) := by decide +kernel
theorem dL_law_1225 : decode cL_law 1225 = .ok (.iaload, 1) := by decide +kernel
theorem dL_law_1226 : decode cL_law 1226 = .ok (.invokevirtual 156, 3) := by decide +kernel
theorem dL_law_1229 : decode cL_law 1229 = .ok (.aload_n 2, 1) := by decide +kernel
theorem dL_law_1230 : decode cL_law 1230 = .ok (.aload_n 0, 1) := by decide +kernel
theorem dL_law_1231 : decode cL_law 1231 = .ok (.iload_n 3, 1) := by decide +kernel
theorem dL_law_1232 : decode cL_law 1232 = .ok (.iconst 1, 1) := by decide +kernel
theorem dL_law_1233 : decode cL_law 1233 = .ok (.iadd, 1) := by decide +kernel
theorem dL_law_1234 : decode cL_law 1234 = .ok (.iaload, 1) := by decide +kernel
theorem dL_law_1235 : decode cL_law 1235 = .ok (.aload_n 0, 1) := by decide +kernel
theorem dL_law_1236 : decode cL_law 1236 = .ok (.iload_n 3, 1) := by decide +kernel
theorem dL_law_1237 : decode cL_law 1237 = .ok (.iconst 2, 1) := by decide +kernel
theorem dL_law_1238 : decode cL_law 1238 = .ok (.iadd, 1) := by decide +kernel
theorem dL_law_1239 : decode cL_law 1239 = .ok (.iaload, 1) := by decide +kernel
theorem dL_law_1240 : decode cL_law 1240 = .ok (.invokevirtual 160, 3) := by decide +kernel
theorem dL_law_1243 : decode cL_law 1243 = .ok (.lcmp, 1) := by decide +kernel
theorem dL_law_1244 : decode cL_law 1244 = .ok (.ifCond .eq 68, 3) := by decide +kernel
theorem dL_law_1247 : decode cL_law 1247 = .ok (.iconst 0, 1) := by decide +kernel
theorem dL_law_1248 : decode cL_law 1248 = .ok (.ireturn, 1) := by decide +kernel
theorem dL_law_1249 : decode cL_law 1249 = .ok (.aload_n 1, 1) := by decide +kernel
theorem dL_law_1250 : decode cL_law 1250 = .ok (.aload_n 0, 1) := by decide +kernel
theorem dL_law_1251 : decode cL_law 1251 = .ok (.iload_n 3, 1) := by decide +kernel
theorem dL_law_1252 : decode cL_law 1252 = .ok (.iconst 1, 1) := by decide +kernel
theorem dL_law_1253 : decode cL_law 1253 = .ok (.iadd, 1) := by decide +kernel
theorem dL_law_1254 : decode cL_law 1254 = .ok (.iaload, 1) := by decide +kernel
theorem dL_law_1255 : decode cL_law 1255 = .ok (.aload_n 0, 1) := by decide +kernel
theorem dL_law_1256 : decode cL_law 1256 = .ok (.iload_n 3, 1) := by decide +kernel
theorem dL_law_1257 : decode cL_law 1257 = .ok (.iconst 2, 1) := by decide +kernel
theorem dL_law_1258 : decode cL_law 1258 = .ok (.iadd, 1) := by decide +kernel
theorem dL_law_1259 : decode cL_law 1259 = .ok (.iaload, 1) := by decide +kernel
theorem dL_law_1260 : decode cL_law 1260 = .ok (.aload_n 0, 1) := by decide +kernel
theorem dL_law_1261 : decode cL_law 1261 = .ok (.iload_n 3, 1) := by decide +kernel
theorem dL_law_1262 : decode cL_law 1262 = .ok (.iconst 3, 1) := by decide +kernel
theorem dL_law_1263 : decode cL_law 1263 = .ok (.iadd, 1) := by decide +kernel
theorem dL_law_1264 : decode cL_law 1264 = .ok (.iaload, 1) := by decide +kernel
theorem dL_law_1265 : decode cL_law 1265 = .ok (.aload_n 0, 1) := by decide +kernel
theorem dL_law_1266 : decode cL_law 1266 = .ok (.iload_n 3, 1) := by decide +kernel
theorem dL_law_1267 : decode cL_law 1267 = .ok (.iconst 4, 1) := by decide +kernel
theorem dL_law_1268 : decode cL_law 1268 = .ok (.iadd, 1) := by decide +kernel
theorem dL_law_1269 : decode cL_law 1269 = .ok (.iaload, 1) := by decide +kernel
theorem dL_law_1270 : decode cL_law 1270 = .ok (.aload_n 0, 1) := by decide +kernel
theorem dL_law_1271 : decode cL_law 1271 = .ok (.iload_n 3, 1) := by decide +kernel
theorem dL_law_1272 : decode cL_law 1272 = .ok (.iconst 5, 1) := by decide +kernel
theorem dL_law_1273 : decode cL_law 1273 = .ok (.iadd, 1) := by decide +kernel
theorem dL_law_1274 : decode cL_law 1274 = .ok (.iaload, 1) := by decide +kernel
theorem dL_law_1275 : decode cL_law 1275 = .ok (.invokevirtual 161, 3) := by decide +kernel
theorem dL_law_1278 : decode cL_law 1278 = .ok (.aload_n 2, 1) := by decide +kernel
theorem dL_law_1279 : decode cL_law 1279 = .ok (.aload_n 0, 1) := by decide +kernel
theorem dL_law_1280 : decode cL_law 1280 = .ok (.iload_n 3, 1) := by decide +kernel
theorem dL_law_1281 : decode cL_law 1281 = .ok (.iconst 1, 1) := by decide +kernel
theorem dL_law_1282 : decode cL_law 1282 = .ok (.iadd, 1) := by decide +kernel
theorem dL_law_1283 : decode cL_law 1283 = .ok (.iaload, 1) := by decide +kernel
theorem dL_law_1284 : decode cL_law 1284 = .ok (.aload_n 0, 1) := by decide +kernel
theorem dL_law_1285 : decode cL_law 1285 = .ok (.iload_n 3, 1) := by decide +kernel
theorem dL_law_1286 : decode cL_law 1286 = .ok (.iconst 2, 1) := by decide +kernel
theorem dL_law_1287 : decode cL_law 1287 = .ok (.iadd, 1) := by decide +kernel
theorem dL_law_1288 : decode cL_law 1288 = .ok (.iaload, 1) := by decide +kernel
theorem dL_law_1289 : decode cL_law 1289 = .ok (.aload_n 0, 1) := by decide +kernel
theorem dL_law_1290 : decode cL_law 1290 = .ok (.iload_n 3, 1) := by decide +kernel
theorem dL_law_1291 : decode cL_law 1291 = .ok (.iconst 3, 1) := by decide +kernel
theorem dL_law_1292 : decode cL_law 1292 = .ok (.iadd, 1) := by decide +kernel
theorem dL_law_1293 : decode cL_law 1293 = .ok (.iaload, 1) := by decide +kernel
theorem dL_law_1294 : decode cL_law 1294 = .ok (.aload_n 0, 1) := by decide +kernel
theorem dL_law_1295 : decode cL_law 1295 = .ok (.iload_n 3, 1) := by decide +kernel
theorem dL_law_1296 : decode cL_law 1296 = .ok (.iconst 4, 1) := by decide +kernel
theorem dL_law_1297 : decode cL_law 1297 = .ok (.iadd, 1) := by decide +kernel
theorem dL_law_1298 : decode cL_law 1298 = .ok (.iaload, 1) := by decide +kernel
theorem dL_law_1299 : decode cL_law 1299 = .ok (.aload_n 0, 1) := by decide +kernel
theorem dL_law_1300 : decode cL_law 1300 = .ok (.iload_n 3, 1) := by decide +kernel
theorem dL_law_1301 : decode cL_law 1301 = .ok (.iconst 5, 1) := by decide +kernel
theorem dL_law_1302 : decode cL_law 1302 = .ok (.iadd, 1) := by decide +kernel
theorem dL_law_1303 : decode cL_law 1303 = .ok (.iaload, 1) := by decide +kernel
theorem dL_law_1304 : decode cL_law 1304 = .ok (.invokevirtual 165, 3) := by decide +kernel
theorem dL_law_1307 : decode cL_law 1307 = .ok (.if_icmp .eq 5, 3) := by decide +kernel
theorem dL_law_1310 : decode cL_law 1310 = .ok (.iconst 0, 1) := by decide +kernel
theorem dL_law_1311 : decode cL_law 1311 = .ok (.ireturn, 1) := by decide +kernel
theorem dL_law_1312 : decode cL_law 1312 = .ok (.iinc 3 6, 3) := by decide +kernel
theorem dL_law_1315 : decode cL_law 1315 = .ok (.goto (-1297), 3) := by decide +kernel
theorem dL_law_1318 : decode cL_law 1318 = .ok (.iconst 1, 1) := by decide +kernel
theorem dL_law_1319 : decode cL_law 1319 = .ok (.ireturn, 1) := by decide +kernel
end
section
theorem dX0_init_0 : decode cX0_init 0 = .ok (.aload_n 0, 1) := by decide +kernel
theorem dX0_init_1 : decode cX0_init 1 = .ok (.invokespecial 1, 3) := by decide +kernel
theorem dX0_init_4 : decode cX0_init 4 = .ok (.aload_n 0, 1) := by decide +kernel
theorem dX0_init_5 : decode cX0_init 5 = .ok (.bipush 48, 2) := by decide +kernel
theorem dX0_init_7 : decode cX0_init 7 = .ok (.newarray .boolean, 2) := by decide +kernel
theorem dX0_init_9 : decode cX0_init 9 = .ok (.putfield 9, 3) := by decide +kernel
theorem dX0_init_12 : decode cX0_init 12 = .ok (.aload_n 0, 1) := by decide +kernel
theorem dX0_init_13 : decode cX0_init 13 = .ok (.bipush 48, 2) := by decide +kernel
theorem dX0_init_15 : decode cX0_init 15 = .ok (.newarray .int, 2) := by decide +kernel
theorem dX0_init_17 : decode cX0_init 17 = .ok (.putfield 15, 3) := by decide +kernel
theorem dX0_init_20 : decode cX0_init 20 = .ok (.aload_n 0, 1) := by decide +kernel
theorem dX0_init_21 : decode cX0_init 21 = .ok (.iconst 0, 1) := by decide +kernel
theorem dX0_init_22 : decode cX0_init 22 = .ok (.putfield 19, 3) := by decide +kernel
theorem dX0_init_25 : decode cX0_init 25 = .ok (.aload_n 0, 1) := by decide +kernel
theorem dX0_init_26 : decode cX0_init 26 = .ok (.bipush 48, 2) := by decide +kernel
theorem dX0_init_28 : decode cX0_init 28 = .ok (.newarray .int, 2) := by decide +kernel
theorem dX0_init_30 : decode cX0_init 30 = .ok (.putfield 23, 3) := by decide +kernel
theorem dX0_init_33 : decode cX0_init 33 = .ok (.aload_n 0, 1) := by decide +kernel
theorem dX0_init_34 : decode cX0_init 34 = .ok (.bipush 8, 2) := by decide +kernel
theorem dX0_init_36 : decode cX0_init 36 = .ok (.newarray .int, 2) := by decide +kernel
theorem dX0_init_38 : decode cX0_init 38 = .ok (.putfield 28, 3) := by decide +kernel
theorem dX0_init_41 : decode cX0_init 41 = .ok (.aload_n 0, 1) := by decide +kernel
theorem dX0_init_42 : decode cX0_init 42 = .ok (.iconst 0, 1) := by decide +kernel
theorem dX0_init_43 : decode cX0_init 43 = .ok (.putfield 31, 3) := by decide +kernel
theorem dX0_init_46 : decode cX0_init 46 = .ok (.aload_n 0, 1) := by decide +kernel
theorem dX0_init_47 : decode cX0_init 47 = .ok (.bipush 48, 2) := by decide +kernel
theorem dX0_init_49 : decode cX0_init 49 = .ok (.newarray .int, 2) := by decide +kernel
theorem dX0_init_51 : decode cX0_init 51 = .ok (.putfield 34, 3) := by decide +kernel
theorem dX0_init_54 : decode cX0_init 54 = .ok (.aload_n 0, 1) := by decide +kernel
theorem dX0_init_55 : decode cX0_init 55 = .ok (.bipush 48, 2) := by decide +kernel
theorem dX0_init_57 : decode cX0_init 57 = .ok (.newarray .int, 2) := by decide +kernel
theorem dX0_init_59 : decode cX0_init 59 = .ok (.putfield 37, 3) := by decide +kernel
theorem dX0_init_62 : decode cX0_init 62 = .ok (.aload_n 0, 1) := by decide +kernel
theorem dX0_init_63 : decode cX0_init 63 = .ok (.iconst 0, 1) := by decide +kernel
theorem dX0_init_64 : decode cX0_init 64 = .ok (.putfield 40, 3) := by decide +kernel
theorem dX0_init_67 : decode cX0_init 67 = .ok (.aload_n 0, 1) := by decide +kernel
theorem dX0_init_68 : decode cX0_init 68 = .ok (.bipush 48, 2) := by decide +kernel
theorem dX0_init_70 : decode cX0_init 70 = .ok (.newarray .int, 2) := by decide +kernel
theorem dX0_init_72 : decode cX0_init 72 = .ok (.putfield 43, 3) := by decide +kernel
theorem dX0_init_75 : decode cX0_init 75 = .ok (.aload_n 0, 1) := by decide +kernel
theorem dX0_init_76 : decode cX0_init 76 = .ok (.bipush 48, 2) := by decide +kernel
theorem dX0_init_78 : decode cX0_init 78 = .ok (.newarray .int, 2) := by decide +kernel
theorem dX0_init_80 : decode cX0_init 80 = .ok (.putfield 46, 3) := by decide +kernel
theorem dX0_init_83 : decode cX0_init 83 = .ok (.aload_n 0, 1) := by decide +kernel
theorem dX0_init_84 : decode cX0_init 84 = .ok (.iconst 0, 1) := by decide +kernel
theorem dX0_init_85 : decode cX0_init 85 = .ok (.putfield 49, 3) := by decide +kernel
theorem dX0_init_88 : decode cX0_init 88 = .ok (.aload_n 0, 1) := by decide +kernel
theorem dX0_init_89 : decode cX0_init 89 = .ok (.iconst 0, 1) := by decide +kernel
theorem dX0_init_90 : decode cX0_init 90 = .ok (.putfield 52, 3) := by decide +kernel
theorem dX0_init_93 : decode cX0_init 93 = .ok (.return_, 1) := by decide +kernel
theorem dX0_find_0 : decode cX0_find 0 = .ok (.aload_n 0, 1) := by decide +kernel
theorem dX0_find_1 : decode cX0_find 1 = .ok (.iconst 0, 1) := by decide +kernel
theorem dX0_find_2 : decode cX0_find 2 = .ok (.putfield 19, 3) := by decide +kernel
theorem dX0_find_5 : decode cX0_find 5 = .ok (.iconst 0, 1) := by decide +kernel
theorem dX0_find_6 : decode cX0_find 6 = .ok (.istore_n 2, 1) := by decide +kernel
theorem dX0_find_7 : decode cX0_find 7 = .ok (.iload_n 2, 1) := by decide +kernel
theorem dX0_find_8 : decode cX0_find 8 = .ok (.bipush 48, 2) := by decide +kernel
theorem dX0_find_10 : decode cX0_find 10 = .ok (.if_icmp .ge 49, 3) := by decide +kernel
theorem dX0_find_13 : decode cX0_find 13 = .ok (.aload_n 0, 1) := by decide +kernel
theorem dX0_find_14 : decode cX0_find 14 = .ok (.getfield 9, 3) := by decide +kernel
theorem dX0_find_17 : decode cX0_find 17 = .ok (.iload_n 2, 1) := by decide +kernel
theorem dX0_find_18 : decode cX0_find 18 = .ok (.aload_n 1, 1) := by decide +kernel
theorem dX0_find_19 : decode cX0_find 19 = .ok (.iload_n 2, 1) := by decide +kernel
theorem dX0_find_20 : decode cX0_find 20 = .ok (.invokevirtual 55, 3) := by decide +kernel
theorem dX0_find_23 : decode cX0_find 23 = .ok (.bastore, 1) := by decide +kernel
theorem dX0_find_24 : decode cX0_find 24 = .ok (.aload_n 0, 1) := by decide +kernel
theorem dX0_find_25 : decode cX0_find 25 = .ok (.getfield 9, 3) := by decide +kernel
theorem dX0_find_28 : decode cX0_find 28 = .ok (.iload_n 2, 1) := by decide +kernel
theorem dX0_find_29 : decode cX0_find 29 = .ok (.baload, 1) := by decide +kernel
theorem dX0_find_30 : decode cX0_find 30 = .ok (.ifCond .eq 23, 3) := by decide +kernel
theorem dX0_find_33 : decode cX0_find 33 = .ok (.aload_n 0, 1) := by decide +kernel
theorem dX0_find_34 : decode cX0_find 34 = .ok (.getfield 15, 3) := by decide +kernel
theorem dX0_find_37 : decode cX0_find 37 = .ok (.aload_n 0, 1) := by decide +kernel
theorem dX0_find_38 : decode cX0_find 38 = .ok (.getfield 19, 3) := by decide +kernel
theorem dX0_find_41 : decode cX0_find 41 = .ok (.iload_n 2, 1) := by decide +kernel
theorem dX0_find_42 : decode cX0_find 42 = .ok (.iastore, 1) := by decide +kernel
theorem dX0_find_43 : decode cX0_find 43 = .ok (.aload_n 0, 1) := by decide +kernel
theorem dX0_find_44 : decode cX0_find 44 = .ok (.dup, 1) := by decide +kernel
theorem dX0_find_45 : decode cX0_find 45 = .ok (.getfield 19, 3) := by decide +kernel
theorem dX0_find_48 : decode cX0_find 48 = .ok (.iconst 1, 1) := by decide +kernel
theorem dX0_find_49 : decode cX0_find 49 = .ok (.iadd, 1) := by decide +kernel
theorem dX0_find_50 : decode cX0_find 50 = .ok (.putfield 19, 3) := by decide +kernel
theorem dX0_find_53 : decode cX0_find 53 = .ok (.iinc 2 1, 3) := by decide +kernel
theorem dX0_find_56 : decode cX0_find 56 = .ok (.goto (-49), 3) := by decide +kernel
theorem dX0_find_59 : decode cX0_find 59 = .ok (.aload_n 0, 1) := by decide +kernel
theorem dX0_find_60 : decode cX0_find 60 = .ok (.aload_n 1, 1) := by decide +kernel
theorem dX0_find_61 : decode cX0_find 61 = .ok (.invokevirtual 59, 3) := by decide +kernel
theorem dX0_find_64 : decode cX0_find 64 = .ok (.aload_n 0, 1) := by decide +kernel
theorem dX0_find_65 : decode cX0_find 65 = .ok (.invokevirtual 63, 3) := by decide +kernel
theorem dX0_find_68 : decode cX0_find 68 = .ok (.aload_n 0, 1) := by decide +kernel
theorem dX0_find_69 : decode cX0_find 69 = .ok (.iconst 0, 1) := by decide +kernel
theorem dX0_find_70 : decode cX0_find 70 = .ok (.putfield 52, 3) := by decide +kernel
theorem dX0_find_73 : decode cX0_find 73 = .ok (.return_, 1) := by decide +kernel
theorem dX0_findOrbits_0 : decode cX0_findOrbits 0 = .ok (.iconst 0, 1) := by decide +kernel
theorem dX0_findOrbits_1 : decode cX0_findOrbits 1 = .ok (.istore_n 2, 1) := by decide +kernel
theorem dX0_findOrbits_2 : decode cX0_findOrbits 2 = .ok (.iload_n 2, 1) := by decide +kernel
theorem dX0_findOrbits_3 : decode cX0_findOrbits 3 = .ok (.aload_n 0, 1) := by decide +kernel
theorem dX0_findOrbits_4 : decode cX0_findOrbits 4 = .ok (.getfield 19, 3) := by decide +kernel
theorem dX0_findOrbits_7 : decode cX0_findOrbits 7 = .ok (.if_icmp .ge 21, 3) := by decide +kernel
theorem dX0_findOrbits_10 : decode cX0_findOrbits 10 = .ok (.aload_n 0, 1) := by decide +kernel
theorem dX0_findOrbits_11 : decode cX0_findOrbits 11 = .ok (.getfield 23, 3) := by decide +kernel
theorem dX0_findOrbits_14 : decode cX0_findOrbits 14 = .ok (.aload_n 0, 1) := by decide +kernel
theorem dX0_findOrbits_15 : decode cX0_findOrbits 15 = .ok (.getfield 15, 3) := by decide +kernel
theorem dX0_findOrbits_18 : decode cX0_findOrbits 18 = .ok (.iload_n 2, 1) := by decide +kernel
theorem dX0_findOrbits_19 : decode cX0_findOrbits 19 = .ok (.iaload, 1) := by decide +kernel
theorem dX0_findOrbits_20 : decode cX0_findOrbits 20 = .ok (.iconst 0, 1) := by decide +kernel
theorem dX0_findOrbits_21 : decode cX0_findOrbits 21 = .ok (.iastore, 1) := by decide +kernel
theorem dX0_findOrbits_22 : decode cX0_findOrbits 22 = .ok (.iinc 2 1, 3) := by decide +kernel
theorem dX0_findOrbits_25 : decode cX0_findOrbits 25 = .ok (.goto (-23), 3) := by decide +kernel
theorem dX0_findOrbits_28 : decode cX0_findOrbits 28 = .ok (.aload_n 0, 1) := by decide +kernel
theorem dX0_findOrbits_29 : decode cX0_findOrbits 29 = .ok (.iconst 0, 1) := by decide +kernel
theorem dX0_findOrbits_30 : decode cX0_findOrbits 30 = .ok (.putfield 31, 3) := by decide +kernel
theorem dX0_findOrbits_33 : decode cX0_findOrbits 33 = .ok (.iconst 0, 1) := by decide +kernel
theorem dX0_findOrbits_34 : decode cX0_findOrbits 34 = .ok (.istore_n 2, 1) := by decide +kernel
theorem dX0_findOrbits_35 : decode cX0_findOrbits 35 = .ok (.iload_n 2, 1) := by decide +kernel
theorem dX0_findOrbits_36 : decode cX0_findOrbits 36 = .ok (.aload_n 1, 1) := by decide +kernel
theorem dX0_findOrbits_37 : decode cX0_findOrbits 37 = .ok (.getfield 66, 3) := by decide +kernel
theorem dX0_findOrbits_40 : decode cX0_findOrbits 40 = .ok (.if_icmp .ge 35, 3) := by decide +kernel
theorem dX0_findOrbits_43 : decode cX0_findOrbits 43 = .ok (.aload_n 0, 1) := by decide +kernel
theorem dX0_findOrbits_44 : decode cX0_findOrbits 44 = .ok (.aload_n 1, 1) := by decide +kernel
theorem dX0_findOrbits_45 : decode cX0_findOrbits 45 = .ok (.iload_n 2, 1) := by decide +kernel
theorem dX0_findOrbits_46 : decode cX0_findOrbits 46 = .ok (.invokevirtual 67, 3) := by decide +kernel
theorem dX0_findOrbits_49 : decode cX0_findOrbits 49 = .ok (.aload_n 0, 1) := by decide +kernel
theorem dX0_findOrbits_50 : decode cX0_findOrbits 50 = .ok (.getfield 28, 3) := by decide +kernel
theorem dX0_findOrbits_53 : decode cX0_findOrbits 53 = .ok (.iload_n 2, 1) := by decide +kernel
theorem dX0_findOrbits_54 : decode cX0_findOrbits 54 = .ok (.iaload, 1) := by decide +kernel
theorem dX0_findOrbits_55 : decode cX0_findOrbits 55 = .ok (.iload_n 2, 1) := by decide +kernel
theorem dX0_findOrbits_56 : decode cX0_findOrbits 56 = .ok (.if_icmp .ne 13, 3) := by decide +kernel
theorem dX0_findOrbits_59 : decode cX0_findOrbits 59 = .ok (.aload_n 0, 1) := by decide +kernel
theorem dX0_findOrbits_60 : decode cX0_findOrbits 60 = .ok (.dup, 1) := by decide +kernel
theorem dX0_findOrbits_61 : decode cX0_findOrbits 61 = .ok (.getfield 31, 3) := by decide +kernel
theorem dX0_findOrbits_64 : decode cX0_findOrbits 64 = .ok (.iconst 1, 1) := by decide +kernel
theorem dX0_findOrbits_65 : decode cX0_findOrbits 65 = .ok (.iadd, 1) := by decide +kernel
theorem dX0_findOrbits_66 : decode cX0_findOrbits 66 = .ok (.putfield 31, 3) := by decide +kernel
theorem dX0_findOrbits_69 : decode cX0_findOrbits 69 = .ok (.iinc 2 1, 3) := by decide +kernel
theorem dX0_findOrbits_72 : decode cX0_findOrbits 72 = .ok (.goto (-37), 3) := by decide +kernel
theorem dX0_findOrbits_75 : decode cX0_findOrbits 75 = .ok (.return_, 1) := by decide +kernel
theorem dX0_findOrbit_0 : decode cX0_findOrbit 0 = .ok (.aload_n 0, 1) := by decide +kernel
theorem dX0_findOrbit_1 : decode cX0_findOrbit 1 = .ok (.getfield 28, 3) := by decide +kernel
theorem dX0_findOrbit_4 : decode cX0_findOrbit 4 = .ok (.iload_n 2, 1) := by decide +kernel
theorem dX0_findOrbit_5 : decode cX0_findOrbit 5 = .ok (.iload_n 2, 1) := by decide +kernel
theorem dX0_findOrbit_6 : decode cX0_findOrbit 6 = .ok (.iastore, 1) := by decide +kernel
theorem dX0_findOrbit_7 : decode cX0_findOrbit 7 = .ok (.iconst 0, 1) := by decide +kernel
theorem dX0_findOrbit_8 : decode cX0_findOrbit 8 = .ok (.istore_n 3, 1) := by decide +kernel
theorem dX0_findOrbit_9 : decode cX0_findOrbit 9 = .ok (.iload_n 3, 1) := by decide +kernel
theorem dX0_findOrbit_10 : decode cX0_findOrbit 10 = .ok (.aload_n 0, 1) := by decide +kernel
theorem dX0_findOrbit_11 : decode cX0_findOrbit 11 = .ok (.getfield 19, 3) := by decide +kernel
theorem dX0_findOrbit_14 : decode cX0_findOrbit 14 = .ok (.if_icmp .ge 60, 3) := by decide +kernel
theorem dX0_findOrbit_17 : decode cX0_findOrbit 17 = .ok (.aload_n 1, 1) := by decide +kernel
theorem dX0_findOrbit_18 : decode cX0_findOrbit 18 = .ok (.aload_n 0, 1) := by decide +kernel
theorem dX0_findOrbit_19 : decode cX0_findOrbit 19 = .ok (.getfield 15, 3) := by decide +kernel
theorem dX0_findOrbit_22 : decode cX0_findOrbit 22 = .ok (.iload_n 3, 1) := by decide +kernel
theorem dX0_findOrbit_23 : decode cX0_findOrbit 23 = .ok (.iaload, 1) := by decide +kernel
theorem dX0_findOrbit_24 : decode cX0_findOrbit 24 = .ok (.iload_n 2, 1) := by decide +kernel
theorem dX0_findOrbit_25 : decode cX0_findOrbit 25 = .ok (.invokevirtual 71, 3) := by decide +kernel
theorem dX0_findOrbit_28 : decode cX0_findOrbit 28 = .ok (.istore 4, 2) := by decide +kernel
theorem dX0_findOrbit_30 : decode cX0_findOrbit 30 = .ok (.aload_n 0, 1) := by decide +kernel
theorem dX0_findOrbit_31 : decode cX0_findOrbit 31 = .ok (.getfield 28, 3) := by decide +kernel
theorem dX0_findOrbit_34 : decode cX0_findOrbit 34 = .ok (.iload_n 2, 1) := by decide +kernel
theorem dX0_findOrbit_35 : decode cX0_findOrbit 35 = .ok (.aload_n 0, 1) := by decide +kernel
theorem dX0_findOrbit_36 : decode cX0_findOrbit 36 = .ok (.getfield 28, 3) := by decide +kernel
theorem dX0_findOrbit_39 : decode cX0_findOrbit 39 = .ok (.iload_n 2, 1) := by decide +kernel
theorem dX0_findOrbit_40 : decode cX0_findOrbit 40 = .ok (.iaload, 1) := by decide +kernel
theorem dX0_findOrbit_41 : decode cX0_findOrbit 41 = .ok (.iload 4, 2) := by decide +kernel
theorem dX0_findOrbit_43 : decode cX0_findOrbit 43 = .ok (.invokestatic 75, 3) := by decide +kernel
theorem dX0_findOrbit_46 : decode cX0_findOrbit 46 = .ok (.iastore, 1) := by decide +kernel
theorem dX0_findOrbit_47 : decode cX0_findOrbit 47 = .ok (.iload 4, 2) := by decide +kernel
theorem dX0_findOrbit_49 : decode cX0_findOrbit 49 = .ok (.iload_n 2, 1) := by decide +kernel
theorem dX0_findOrbit_50 : decode cX0_findOrbit 50 = .ok (.if_icmp .ne 18, 3) := by decide +kernel
theorem dX0_findOrbit_53 : decode cX0_findOrbit 53 = .ok (.aload_n 0, 1) := by decide +kernel
theorem dX0_findOrbit_54 : decode cX0_findOrbit 54 = .ok (.getfield 23, 3) := by decide +kernel
theorem dX0_findOrbit_57 : decode cX0_findOrbit 57 = .ok (.aload_n 0, 1) := by decide +kernel
theorem dX0_findOrbit_58 : decode cX0_findOrbit 58 = .ok (.getfield 15, 3) := by decide +kernel
theorem dX0_findOrbit_61 : decode cX0_findOrbit 61 = .ok (.iload_n 3, 1) := by decide +kernel
theorem dX0_findOrbit_62 : decode cX0_findOrbit 62 = .ok (.iaload, 1) := by decide +kernel
theorem dX0_findOrbit_63 : decode cX0_findOrbit 63 = .ok (.dup2, 1) := by decide +kernel
theorem dX0_findOrbit_64 : decode cX0_findOrbit 64 = .ok (.iaload, 1) := by decide +kernel
theorem dX0_findOrbit_65 : decode cX0_findOrbit 65 = .ok (.iconst 1, 1) := by decide +kernel
theorem dX0_findOrbit_66 : decode cX0_findOrbit 66 = .ok (.iadd, 1) := by decide +kernel
theorem dX0_findOrbit_67 : decode cX0_findOrbit 67 = .ok (.iastore, 1) := by decide +kernel
theorem dX0_findOrbit_68 : decode cX0_findOrbit 68 = .ok (.iinc 3 1, 3) := by decide +kernel
theorem dX0_findOrbit_71 : decode cX0_findOrbit 71 = .ok (.goto (-62), 3) := by decide +kernel
theorem dX0_findOrbit_74 : decode cX0_findOrbit 74 = .ok (.return_, 1) := by decide +kernel
theorem dX0_findClasses_0 : decode cX0_findClasses 0 = .ok (.iconst 0, 1) := by decide +kernel
theorem dX0_findClasses_1 : decode cX0_findClasses 1 = .ok (.istore_n 1, 1) := by decide +kernel
theorem dX0_findClasses_2 : decode cX0_findClasses 2 = .ok (.iload_n 1, 1) := by decide +kernel
theorem dX0_findClasses_3 : decode cX0_findClasses 3 = .ok (.aload_n 0, 1) := by decide +kernel
theorem dX0_findClasses_4 : decode cX0_findClasses 4 = .ok (.getfield 19, 3) := by decide +kernel
theorem dX0_findClasses_7 : decode cX0_findClasses 7 = .ok (.if_icmp .ge 21, 3) := by decide +kernel
theorem dX0_findClasses_10 : decode cX0_findClasses 10 = .ok (.aload_n 0, 1) := by decide +kernel
theorem dX0_findClasses_11 : decode cX0_findClasses 11 = .ok (.getfield 34, 3) := by decide +kernel
theorem dX0_findClasses_14 : decode cX0_findClasses 14 = .ok (.aload_n 0, 1) := by decide +kernel
theorem dX0_findClasses_15 : decode cX0_findClasses 15 = .ok (.getfield 15, 3) := by decide +kernel
theorem dX0_findClasses_18 : decode cX0_findClasses 18 = .ok (.iload_n 1, 1) := by decide +kernel
theorem dX0_findClasses_19 : decode cX0_findClasses 19 = .ok (.iaload, 1) := by decide +kernel
theorem dX0_findClasses_20 : decode cX0_findClasses 20 = .ok (.iconst (-1), 1) := by decide +kernel
theorem dX0_findClasses_21 : decode cX0_findClasses 21 = .ok (.iastore, 1) := by decide +kernel
theorem dX0_findClasses_22 : decode cX0_findClasses 22 = .ok (.iinc 1 1, 3) := by decide +kernel
theorem dX0_findClasses_25 : decode cX0_findClasses 25 = .ok (.goto (-23), 3) := by decide +kernel
theorem dX0_findClasses_28 : decode cX0_findClasses 28 = .ok (.aload_n 0, 1) := by decide +kernel
theorem dX0_findClasses_29 : decode cX0_findClasses 29 = .ok (.iconst 0, 1) := by decide +kernel
theorem dX0_findClasses_30 : decode cX0_findClasses 30 = .ok (.putfield 40, 3) := by decide +kernel
theorem dX0_findClasses_33 : decode cX0_findClasses 33 = .ok (.iconst 0, 1) := by decide +kernel
theorem dX0_findClasses_34 : decode cX0_findClasses 34 = .ok (.istore_n 1, 1) := by decide +kernel
theorem dX0_findClasses_35 : decode cX0_findClasses 35 = .ok (.iload_n 1, 1) := by decide +kernel
theorem dX0_findClasses_36 : decode cX0_findClasses 36 = .ok (.aload_n 0, 1) := by decide +kernel
theorem dX0_findClasses_37 : decode cX0_findClasses 37 = .ok (.getfield 19, 3) := by decide +kernel
theorem dX0_findClasses_40 : decode cX0_findClasses 40 = .ok (.if_icmp .ge 51, 3) := by decide +kernel
theorem dX0_findClasses_43 : decode cX0_findClasses 43 = .ok (.aload_n 0, 1) := by decide +kernel
theorem dX0_findClasses_44 : decode cX0_findClasses 44 = .ok (.getfield 15, 3) := by decide +kernel
theorem dX0_findClasses_47 : decode cX0_findClasses 47 = .ok (.iload_n 1, 1) := by decide +kernel
theorem dX0_findClasses_48 : decode cX0_findClasses 48 = .ok (.iaload, 1) := by decide +kernel
theorem dX0_findClasses_49 : decode cX0_findClasses 49 = .ok (.istore_n 2, 1) := by decide +kernel
theorem dX0_findClasses_50 : decode cX0_findClasses 50 = .ok (.aload_n 0, 1) := by decide +kernel
theorem dX0_findClasses_51 : decode cX0_findClasses 51 = .ok (.getfield 34, 3) := by decide +kernel
theorem dX0_findClasses_54 : decode cX0_findClasses 54 = .ok (.iload_n 2, 1) := by decide +kernel
theorem dX0_findClasses_55 : decode cX0_findClasses 55 = .ok (.iaload, 1) := by decide +kernel
theorem dX0_findClasses_56 : decode cX0_findClasses 56 = .ok (.iconst (-1), 1) := by decide +kernel
theorem dX0_findClasses_57 : decode cX0_findClasses 57 = .ok (.if_icmp .ne 28, 3) := by decide +kernel
theorem dX0_findClasses_60 : decode cX0_findClasses 60 = .ok (.aload_n 0, 1) := by decide +kernel
theorem dX0_findClasses_61 : decode cX0_findClasses 61 = .ok (.iload_n 2, 1) := by decide +kernel
theorem dX0_findClasses_62 : decode cX0_findClasses 62 = .ok (.invokevirtual 80, 3) := by decide +kernel
theorem dX0_findClasses_65 : decode cX0_findClasses 65 = .ok (.aload_n 0, 1) := by decide +kernel
theorem dX0_findClasses_66 : decode cX0_findClasses 66 = .ok (.getfield 37, 3) := by decide +kernel
theorem dX0_findClasses_69 : decode cX0_findClasses 69 = .ok (.aload_n 0, 1) := by decide +kernel
theorem dX0_findClasses_70 : decode cX0_findClasses 70 = .ok (.getfield 40, 3) := by decide +kernel
theorem dX0_findClasses_73 : decode cX0_findClasses 73 = .ok (.iload_n 2, 1) := by decide +kernel
theorem dX0_findClasses_74 : decode cX0_findClasses 74 = .ok (.iastore, 1) := by decide +kernel
theorem dX0_findClasses_75 : decode cX0_findClasses 75 = .ok (.aload_n 0, 1) := by decide +kernel
theorem dX0_findClasses_76 : decode cX0_findClasses 76 = .ok (.dup, 1) := by decide +kernel
theorem dX0_findClasses_77 : decode cX0_findClasses 77 = .ok (.getfield 40, 3) := by decide +kernel
theorem dX0_findClasses_80 : decode cX0_findClasses 80 = .ok (.iconst 1, 1) := by decide +kernel
theorem dX0_findClasses_81 : decode cX0_findClasses 81 = .ok (.iadd, 1) := by decide +kernel
theorem dX0_findClasses_82 : decode cX0_findClasses 82 = .ok (.putfield 40, 3) := by decide +kernel
theorem dX0_findClasses_85 : decode cX0_findClasses 85 = .ok (.iinc 1 1, 3) := by decide +kernel
theorem dX0_findClasses_88 : decode cX0_findClasses 88 = .ok (.goto (-53), 3) := by decide +kernel
theorem dX0_findClasses_91 : decode cX0_findClasses 91 = .ok (.return_, 1) := by decide +kernel
theorem dX0_findClass_0 : decode cX0_findClass 0 = .ok (.iconst 0, 1) := by decide +kernel
theorem dX0_findClass_1 : decode cX0_findClass 1 = .ok (.istore_n 2, 1) := by decide +kernel
theorem dX0_findClass_2 : decode cX0_findClass 2 = .ok (.iload_n 2, 1) := by decide +kernel
theorem dX0_findClass_3 : decode cX0_findClass 3 = .ok (.aload_n 0, 1) := by decide +kernel
theorem dX0_findClass_4 : decode cX0_findClass 4 = .ok (.getfield 19, 3) := by decide +kernel
theorem dX0_findClass_7 : decode cX0_findClass 7 = .ok (.if_icmp .ge 38, 3) := by decide +kernel
theorem dX0_findClass_10 : decode cX0_findClass 10 = .ok (.aload_n 0, 1) := by decide +kernel
theorem dX0_findClass_11 : decode cX0_findClass 11 = .ok (.getfield 15, 3) := by decide +kernel
theorem dX0_findClass_14 : decode cX0_findClass 14 = .ok (.iload_n 2, 1) := by decide +kernel
theorem dX0_findClass_15 : decode cX0_findClass 15 = .ok (.iaload, 1) := by decide +kernel
theorem dX0_findClass_16 : decode cX0_findClass 16 = .ok (.istore_n 3, 1) := by decide +kernel
theorem dX0_findClass_17 : decode cX0_findClass 17 = .ok (.iload_n 3, 1) := by decide +kernel
theorem dX0_findClass_18 : decode cX0_findClass 18 = .ok (.iload_n 1, 1) := by decide +kernel
theorem dX0_findClass_19 : decode cX0_findClass 19 = .ok (.invokestatic 84, 3) := by decide +kernel
theorem dX0_findClass_22 : decode cX0_findClass 22 = .ok (.iload_n 3, 1) := by decide +kernel
theorem dX0_findClass_23 : decode cX0_findClass 23 = .ok (.invokestatic 87, 3) := by decide +kernel
theorem dX0_findClass_26 : decode cX0_findClass 26 = .ok (.invokestatic 84, 3) := by decide +kernel
theorem dX0_findClass_29 : decode cX0_findClass 29 = .ok (.istore 4, 2) := by decide +kernel
theorem dX0_findClass_31 : decode cX0_findClass 31 = .ok (.aload_n 0, 1) := by decide +kernel
theorem dX0_findClass_32 : decode cX0_findClass 32 = .ok (.getfield 34, 3) := by decide +kernel
theorem dX0_findClass_35 : decode cX0_findClass 35 = .ok (.iload 4, 2) := by decide +kernel
theorem dX0_findClass_37 : decode cX0_findClass 37 = .ok (.iload_n 1, 1) := by decide +kernel
theorem dX0_findClass_38 : decode cX0_findClass 38 = .ok (.iastore, 1) := by decide +kernel
theorem dX0_findClass_39 : decode cX0_findClass 39 = .ok (.iinc 2 1, 3) := by decide +kernel
theorem dX0_findClass_42 : decode cX0_findClass 42 = .ok (.goto (-40), 3) := by decide +kernel
theorem dX0_findClass_45 : decode cX0_findClass 45 = .ok (.return_, 1) := by decide +kernel
theorem dX0_sizeOfClass_0 : decode cX0_sizeOfClass 0 = .ok (.iconst 0, 1) := by decide +kernel
theorem dX0_sizeOfClass_1 : decode cX0_sizeOfClass 1 = .ok (.istore_n 2, 1) := by decide +kernel
theorem dX0_sizeOfClass_2 : decode cX0_sizeOfClass 2 = .ok (.iconst 0, 1) := by decide +kernel
theorem dX0_sizeOfClass_3 : decode cX0_sizeOfClass 3 = .ok (.istore_n 3, 1) := by decide +kernel
theorem dX0_sizeOfClass_4 : decode cX0_sizeOfClass 4 = .ok (.iload_n 3, 1) := by decide +kernel
theorem dX0_sizeOfClass_5 : decode cX0_sizeOfClass 5 = .ok (.aload_n 0, 1) := by decide +kernel
theorem dX0_sizeOfClass_6 : decode cX0_sizeOfClass 6 = .ok (.getfield 19, 3) := by decide +kernel
theorem dX0_sizeOfClass_9 : decode cX0_sizeOfClass 9 = .ok (.if_icmp .ge 32, 3) := by decide +kernel
theorem dX0_sizeOfClass_12 : decode cX0_sizeOfClass 12 = .ok (.aload_n 0, 1) := by decide +kernel
theorem dX0_sizeOfClass_13 : decode cX0_sizeOfClass 13 = .ok (.getfield 34, 3) := by decide +kernel
theorem dX0_sizeOfClass_16 : decode cX0_sizeOfClass 16 = .ok (.aload_n 0, 1) := by decide +kernel
theorem dX0_sizeOfClass_17 : decode cX0_sizeOfClass 17 = .ok (.getfield 15, 3) := by decide +kernel
theorem dX0_sizeOfClass_20 : decode cX0_sizeOfClass 20 = .ok (.iload_n 3, 1) := by decide +kernel
theorem dX0_sizeOfClass_21 : decode cX0_sizeOfClass 21 = .ok (.iaload, 1) := by decide +kernel
theorem dX0_sizeOfClass_22 : decode cX0_sizeOfClass 22 = .ok (.iaload, 1) := by decide +kernel
theorem dX0_sizeOfClass_23 : decode cX0_sizeOfClass 23 = .ok (.aload_n 0, 1) := by decide +kernel
theorem dX0_sizeOfClass_24 : decode cX0_sizeOfClass 24 = .ok (.getfield 34, 3) := by decide +kernel
theorem dX0_sizeOfClass_27 : decode cX0_sizeOfClass 27 = .ok (.iload_n 1, 1) := by decide +kernel
theorem dX0_sizeOfClass_28 : decode cX0_sizeOfClass 28 = .ok (.iaload, 1) := by decide +kernel
theorem dX0_sizeOfClass_29 : decode cX0_sizeOfClass 29 = .ok (.if_icmp .ne 6, 3) := by decide +kernel
theorem dX0_sizeOfClass_32 : decode cX0_sizeOfClass 32 = .ok (.iinc 2 1, 3) := by decide +kernel
theorem dX0_sizeOfClass_35 : decode cX0_sizeOfClass 35 = .ok (.iinc 3 1, 3) := by decide +kernel
theorem dX0_sizeOfClass_38 : decode cX0_sizeOfClass 38 = .ok (.goto (-34), 3) := by decide +kernel
theorem dX0_sizeOfClass_41 : decode cX0_sizeOfClass 41 = .ok (.iload_n 2, 1) := by decide +kernel
theorem dX0_sizeOfClass_42 : decode cX0_sizeOfClass 42 = .ok (.ireturn, 1) := by decide +kernel
theorem dX0_isHanded_0 : decode cX0_isHanded 0 = .ok (.iconst 0, 1) := by decide +kernel
theorem dX0_isHanded_1 : decode cX0_isHanded 1 = .ok (.istore_n 1, 1) := by decide +kernel
theorem dX0_isHanded_2 : decode cX0_isHanded 2 = .ok (.iload_n 1, 1) := by decide +kernel
theorem dX0_isHanded_3 : decode cX0_isHanded 3 = .ok (.aload_n 0, 1) := by decide +kernel
theorem dX0_isHanded_4 : decode cX0_isHanded 4 = .ok (.getfield 19, 3) := by decide +kernel
theorem dX0_isHanded_7 : decode cX0_isHanded 7 = .ok (.if_icmp .ge 24, 3) := by decide +kernel
theorem dX0_isHanded_10 : decode cX0_isHanded 10 = .ok (.aload_n 0, 1) := by decide +kernel
theorem dX0_isHanded_11 : decode cX0_isHanded 11 = .ok (.getfield 15, 3) := by decide +kernel
theorem dX0_isHanded_14 : decode cX0_isHanded 14 = .ok (.iload_n 1, 1) := by decide +kernel
theorem dX0_isHanded_15 : decode cX0_isHanded 15 = .ok (.iaload, 1) := by decide +kernel
theorem dX0_isHanded_16 : decode cX0_isHanded 16 = .ok (.invokestatic 91, 3) := by decide +kernel
theorem dX0_isHanded_19 : decode cX0_isHanded 19 = .ok (.iconst (-1), 1) := by decide +kernel
theorem dX0_isHanded_20 : decode cX0_isHanded 20 = .ok (.if_icmp .ne 5, 3) := by decide +kernel
theorem dX0_isHanded_23 : decode cX0_isHanded 23 = .ok (.iconst 0, 1) := by decide +kernel
theorem dX0_isHanded_24 : decode cX0_isHanded 24 = .ok (.ireturn, 1) := by decide +kernel
theorem dX0_isHanded_25 : decode cX0_isHanded 25 = .ok (.iinc 1 1, 3) := by decide +kernel
theorem dX0_isHanded_28 : decode cX0_isHanded 28 = .ok (.goto (-26), 3) := by decide +kernel
theorem dX0_isHanded_31 : decode cX0_isHanded 31 = .ok (.iconst 1, 1) := by decide +kernel
theorem dX0_isHanded_32 : decode cX0_isHanded 32 = .ok (.ireturn, 1) := by decide +kernel
theorem dX0_ordersTogether_0 : decode cX0_ordersTogether 0 = .ok (.iconst 0, 1) := by decide +kernel
theorem dX0_ordersTogether_1 : decode cX0_ordersTogether 1 = .ok (.istore_n 1, 1) := by decide +kernel
theorem dX0_ordersTogether_2 : decode cX0_ordersTogether 2 = .ok (.iconst 0, 1) := by decide +kernel
theorem dX0_ordersTogether_3 : decode cX0_ordersTogether 3 = .ok (.istore_n 2, 1) := by decide +kernel
theorem dX0_ordersTogether_4 : decode cX0_ordersTogether 4 = .ok (.iload_n 2, 1) := by decide +kernel
theorem dX0_ordersTogether_5 : decode cX0_ordersTogether 5 = .ok (.aload_n 0, 1) := by decide +kernel
theorem dX0_ordersTogether_6 : decode cX0_ordersTogether 6 = .ok (.getfield 19, 3) := by decide +kernel
theorem dX0_ordersTogether_9 : decode cX0_ordersTogether 9 = .ok (.if_icmp .ge 21, 3) := by decide +kernel
theorem dX0_ordersTogether_12 : decode cX0_ordersTogether 12 = .ok (.iload_n 1, 1) := by decide +kernel
theorem dX0_ordersTogether_13 : decode cX0_ordersTogether 13 = .ok (.aload_n 0, 1) := by decide +kernel
theorem dX0_ordersTogether_14 : decode cX0_ordersTogether 14 = .ok (.getfield 15, 3) := by decide +kernel
theorem dX0_ordersTogether_17 : decode cX0_ordersTogether 17 = .ok (.iload_n 2, 1) := by decide +kernel
theorem dX0_ordersTogether_18 : decode cX0_ordersTogether 18 = .ok (.iaload, 1) := by decide +kernel
theorem dX0_ordersTogether_19 : decode cX0_ordersTogether 19 = .ok (.invokestatic 94, 3) := by decide +kernel
theorem dX0_ordersTogether_22 : decode cX0_ordersTogether 22 = .ok (.iadd, 1) := by decide +kernel
theorem dX0_ordersTogether_23 : decode cX0_ordersTogether 23 = .ok (.istore_n 1, 1) := by decide +kernel
theorem dX0_ordersTogether_24 : decode cX0_ordersTogether 24 = .ok (.iinc 2 1, 3) := by decide +kernel
theorem dX0_ordersTogether_27 : decode cX0_ordersTogether 27 = .ok (.goto (-23), 3) := by decide +kernel
theorem dX0_ordersTogether_30 : decode cX0_ordersTogether 30 = .ok (.iload_n 1, 1) := by decide +kernel
theorem dX0_ordersTogether_31 : decode cX0_ordersTogether 31 = .ok (.ireturn, 1) := by decide +kernel
theorem dX0_motionOf_0 : decode cX0_motionOf 0 = .ok (.iload_n 2, 1) := by decide +kernel
theorem dX0_motionOf_1 : decode cX0_motionOf 1 = .ok (.invokestatic 97, 3) := by decide +kernel
theorem dX0_motionOf_4 : decode cX0_motionOf 4 = .ok (.istore_n 3, 1) := by decide +kernel
theorem dX0_motionOf_5 : decode cX0_motionOf 5 = .ok (.iload_n 2, 1) := by decide +kernel
theorem dX0_motionOf_6 : decode cX0_motionOf 6 = .ok (.invokestatic 91, 3) := by decide +kernel
theorem dX0_motionOf_9 : decode cX0_motionOf 9 = .ok (.iload_n 3, 1) := by decide +kernel
theorem dX0_motionOf_10 : decode cX0_motionOf 10 = .ok (.imul, 1) := by decide +kernel
theorem dX0_motionOf_11 : decode cX0_motionOf 11 = .ok (.istore 4, 2) := by decide +kernel
theorem dX0_motionOf_13 : decode cX0_motionOf 13 = .ok (.iload_n 1, 1) := by decide +kernel
theorem dX0_motionOf_14 : decode cX0_motionOf 14 = .ok (.tableswitch 69 0 4 #[34, 41, 50, 52, 55], 34) := by decide +kernel
theorem dX0_motionOf_48 : decode cX0_motionOf 48 = .ok (.aload_n 0, 1) := by decide +kernel
theorem dX0_motionOf_49 : decode cX0_motionOf 49 = .ok (.getfield 23, 3) := by decide +kernel
theorem dX0_motionOf_52 : decode cX0_motionOf 52 = .ok (.iload_n 2, 1) := by decide +kernel
theorem dX0_motionOf_53 : decode cX0_motionOf 53 = .ok (.iaload, 1) := by decide +kernel
theorem dX0_motionOf_54 : decode cX0_motionOf 54 = .ok (.ireturn, 1) := by decide +kernel
theorem dX0_motionOf_55 : decode cX0_motionOf 55 = .ok (.aload_n 0, 1) := by decide +kernel
theorem dX0_motionOf_56 : decode cX0_motionOf 56 = .ok (.getfield 23, 3) := by decide +kernel
theorem dX0_motionOf_59 : decode cX0_motionOf 59 = .ok (.iload_n 2, 1) := by decide +kernel
theorem dX0_motionOf_60 : decode cX0_motionOf 60 = .ok (.iaload, 1) := by decide +kernel
theorem dX0_motionOf_61 : decode cX0_motionOf 61 = .ok (.iload_n 3, 1) := by decide +kernel
theorem dX0_motionOf_62 : decode cX0_motionOf 62 = .ok (.imul, 1) := by decide +kernel
theorem dX0_motionOf_63 : decode cX0_motionOf 63 = .ok (.ireturn, 1) := by decide +kernel
theorem dX0_motionOf_64 : decode cX0_motionOf 64 = .ok (.iload_n 3, 1) := by decide +kernel
theorem dX0_motionOf_65 : decode cX0_motionOf 65 = .ok (.ireturn, 1) := by decide +kernel
theorem dX0_motionOf_66 : decode cX0_motionOf 66 = .ok (.iload 4, 2) := by decide +kernel
theorem dX0_motionOf_68 : decode cX0_motionOf 68 = .ok (.ireturn, 1) := by decide +kernel
theorem dX0_motionOf_69 : decode cX0_motionOf 69 = .ok (.aload_n 0, 1) := by decide +kernel
theorem dX0_motionOf_70 : decode cX0_motionOf 70 = .ok (.getfield 23, 3) := by decide +kernel
theorem dX0_motionOf_73 : decode cX0_motionOf 73 = .ok (.iload_n 2, 1) := by decide +kernel
theorem dX0_motionOf_74 : decode cX0_motionOf 74 = .ok (.iaload, 1) := by decide +kernel
theorem dX0_motionOf_75 : decode cX0_motionOf 75 = .ok (.iload_n 3, 1) := by decide +kernel
theorem dX0_motionOf_76 : decode cX0_motionOf 76 = .ok (.imul, 1) := by decide +kernel
theorem dX0_motionOf_77 : decode cX0_motionOf 77 = .ok (.iload_n 3, 1) := by decide +kernel
theorem dX0_motionOf_78 : decode cX0_motionOf 78 = .ok (.isub, 1) := by decide +kernel
theorem dX0_motionOf_79 : decode cX0_motionOf 79 = .ok (.iload 4, 2) := by decide +kernel
theorem dX0_motionOf_81 : decode cX0_motionOf 81 = .ok (.isub, 1) := by decide +kernel
theorem dX0_motionOf_82 : decode cX0_motionOf 82 = .ok (.ireturn, 1) := by decide +kernel
theorem dX0_motionOf_83 : decode cX0_motionOf 83 = .ok (.iload_n 3, 1) := by decide +kernel
theorem dX0_motionOf_84 : decode cX0_motionOf 84 = .ok (.iload_n 3, 1) := by decide +kernel
theorem dX0_motionOf_85 : decode cX0_motionOf 85 = .ok (.imul, 1) := by decide +kernel
theorem dX0_motionOf_86 : decode cX0_motionOf 86 = .ok (.iload_n 2, 1) := by decide +kernel
theorem dX0_motionOf_87 : decode cX0_motionOf 87 = .ok (.iload_n 2, 1) := by decide +kernel
theorem dX0_motionOf_88 : decode cX0_motionOf 88 = .ok (.invokestatic 84, 3) := by decide +kernel
theorem dX0_motionOf_91 : decode cX0_motionOf 91 = .ok (.invokestatic 97, 3) := by decide +kernel
theorem dX0_motionOf_94 : decode cX0_motionOf 94 = .ok (.iadd, 1) := by decide +kernel
theorem dX0_motionOf_95 : decode cX0_motionOf 95 = .ok (.iconst 2, 1) := by decide +kernel
theorem dX0_motionOf_96 : decode cX0_motionOf 96 = .ok (.idiv, 1) := by decide +kernel
theorem dX0_motionOf_97 : decode cX0_motionOf 97 = .ok (.ireturn, 1) := by decide +kernel
theorem dX0_timesOf_0 : decode cX0_timesOf 0 = .ok (.iconst 0, 1) := by decide +kernel
theorem dX0_timesOf_1 : decode cX0_timesOf 1 = .ok (.istore_n 3, 1) := by decide +kernel
theorem dX0_timesOf_2 : decode cX0_timesOf 2 = .ok (.iconst 0, 1) := by decide +kernel
theorem dX0_timesOf_3 : decode cX0_timesOf 3 = .ok (.istore 4, 2) := by decide +kernel
theorem dX0_timesOf_5 : decode cX0_timesOf 5 = .ok (.iload 4, 2) := by decide +kernel
theorem dX0_timesOf_7 : decode cX0_timesOf 7 = .ok (.aload_n 0, 1) := by decide +kernel
theorem dX0_timesOf_8 : decode cX0_timesOf 8 = .ok (.getfield 19, 3) := by decide +kernel
theorem dX0_timesOf_11 : decode cX0_timesOf 11 = .ok (.if_icmp .ge 37, 3) := by decide +kernel
theorem dX0_timesOf_14 : decode cX0_timesOf 14 = .ok (.iload_n 3, 1) := by decide +kernel
theorem dX0_timesOf_15 : decode cX0_timesOf 15 = .ok (.aload_n 0, 1) := by decide +kernel
theorem dX0_timesOf_16 : decode cX0_timesOf 16 = .ok (.iload_n 1, 1) := by decide +kernel
theorem dX0_timesOf_17 : decode cX0_timesOf 17 = .ok (.aload_n 0, 1) := by decide +kernel
theorem dX0_timesOf_18 : decode cX0_timesOf 18 = .ok (.getfield 15, 3) := by decide +kernel
theorem dX0_timesOf_21 : decode cX0_timesOf 21 = .ok (.iload 4, 2) := by decide +kernel
theorem dX0_timesOf_23 : decode cX0_timesOf 23 = .ok (.iaload, 1) := by decide +kernel
theorem dX0_timesOf_24 : decode cX0_timesOf 24 = .ok (.invokevirtual 100, 3) := by decide +kernel
theorem dX0_timesOf_27 : decode cX0_timesOf 27 = .ok (.aload_n 0, 1) := by decide +kernel
theorem dX0_timesOf_28 : decode cX0_timesOf 28 = .ok (.iload_n 2, 1) := by decide +kernel
theorem dX0_timesOf_29 : decode cX0_timesOf 29 = .ok (.aload_n 0, 1) := by decide +kernel
theorem dX0_timesOf_30 : decode cX0_timesOf 30 = .ok (.getfield 15, 3) := by decide +kernel
theorem dX0_timesOf_33 : decode cX0_timesOf 33 = .ok (.iload 4, 2) := by decide +kernel
theorem dX0_timesOf_35 : decode cX0_timesOf 35 = .ok (.iaload, 1) := by decide +kernel
theorem dX0_timesOf_36 : decode cX0_timesOf 36 = .ok (.invokevirtual 103, 3) := by decide +kernel
theorem dX0_timesOf_39 : decode cX0_timesOf 39 = .ok (.imul, 1) := by decide +kernel
theorem dX0_timesOf_40 : decode cX0_timesOf 40 = .ok (.iadd, 1) := by decide +kernel
theorem dX0_timesOf_41 : decode cX0_timesOf 41 = .ok (.istore_n 3, 1) := by decide +kernel
theorem dX0_timesOf_42 : decode cX0_timesOf 42 = .ok (.iinc 4 1, 3) := by decide +kernel
theorem dX0_timesOf_45 : decode cX0_timesOf 45 = .ok (.goto (-40), 3) := by decide +kernel
theorem dX0_timesOf_48 : decode cX0_timesOf 48 = .ok (.aload_n 0, 1) := by decide +kernel
theorem dX0_timesOf_49 : decode cX0_timesOf 49 = .ok (.getfield 19, 3) := by decide +kernel
theorem dX0_timesOf_52 : decode cX0_timesOf 52 = .ok (.ifCond .ne 7, 3) := by decide +kernel
theorem dX0_timesOf_55 : decode cX0_timesOf 55 = .ok (.iconst 0, 1) := by decide +kernel
theorem dX0_timesOf_56 : decode cX0_timesOf 56 = .ok (.goto 9, 3) := by decide +kernel
theorem dX0_timesOf_59 : decode cX0_timesOf 59 = .ok (.iload_n 3, 1) := by decide +kernel
theorem dX0_timesOf_60 : decode cX0_timesOf 60 = .ok (.aload_n 0, 1) := by decide +kernel
theorem dX0_timesOf_61 : decode cX0_timesOf 61 = .ok (.getfield 19, 3) := by decide +kernel
theorem dX0_timesOf_64 : decode cX0_timesOf 64 = .ok (.idiv, 1) := by decide +kernel
theorem dX0_timesOf_65 : decode cX0_timesOf 65 = .ok (.ireturn, 1) := by decide +kernel
theorem dX0_signsInAll_0 : decode cX0_signsInAll 0 = .ok (.aload_n 0, 1) := by decide +kernel
theorem dX0_signsInAll_1 : decode cX0_signsInAll 1 = .ok (.getfield 52, 3) := by decide +kernel
theorem dX0_signsInAll_4 : decode cX0_signsInAll 4 = .ok (.ifCond .ne 7, 3) := by decide +kernel
theorem dX0_signsInAll_7 : decode cX0_signsInAll 7 = .ok (.aload_n 0, 1) := by decide +kernel
theorem dX0_signsInAll_8 : decode cX0_signsInAll 8 = .ok (.invokevirtual 106, 3) := by decide +kernel
theorem dX0_signsInAll_11 : decode cX0_signsInAll 11 = .ok (.aload_n 0, 1) := by decide +kernel
theorem dX0_signsInAll_12 : decode cX0_signsInAll 12 = .ok (.getfield 52, 3) := by decide +kernel
theorem dX0_signsInAll_15 : decode cX0_signsInAll 15 = .ok (.ireturn, 1) := by decide +kernel
theorem dX0_signOf_0 : decode cX0_signOf 0 = .ok (.iload_n 1, 1) := by decide +kernel
theorem dX0_signOf_1 : decode cX0_signOf 1 = .ok (.aload_n 0, 1) := by decide +kernel
theorem dX0_signOf_2 : decode cX0_signOf 2 = .ok (.getfield 43, 3) := by decide +kernel
theorem dX0_signOf_5 : decode cX0_signOf 5 = .ok (.iload_n 2, 1) := by decide +kernel
theorem dX0_signOf_6 : decode cX0_signOf 6 = .ok (.iaload, 1) := by decide +kernel
theorem dX0_signOf_7 : decode cX0_signOf 7 = .ok (.iand, 1) := by decide +kernel
theorem dX0_signOf_8 : decode cX0_signOf 8 = .ok (.invokestatic 109, 3) := by decide +kernel
theorem dX0_signOf_11 : decode cX0_signOf 11 = .ok (.iconst 2, 1) := by decide +kernel
theorem dX0_signOf_12 : decode cX0_signOf 12 = .ok (.irem, 1) := by decide +kernel
theorem dX0_signOf_13 : decode cX0_signOf 13 = .ok (.ifCond .ne 7, 3) := by decide +kernel
theorem dX0_signOf_16 : decode cX0_signOf 16 = .ok (.iconst 1, 1) := by decide +kernel
theorem dX0_signOf_17 : decode cX0_signOf 17 = .ok (.goto 4, 3) := by decide +kernel
theorem dX0_signOf_20 : decode cX0_signOf 20 = .ok (.iconst (-1), 1) := by decide +kernel
theorem dX0_signOf_21 : decode cX0_signOf 21 = .ok (.ireturn, 1) := by decide +kernel
theorem dX0_findSigns_0 : decode cX0_findSigns 0 = .ok (.aload_n 0, 1) := by decide +kernel
theorem dX0_findSigns_1 : decode cX0_findSigns 1 = .ok (.iconst 1, 1) := by decide +kernel
theorem dX0_findSigns_2 : decode cX0_findSigns 2 = .ok (.putfield 52, 3) := by decide +kernel
theorem dX0_findSigns_5 : decode cX0_findSigns 5 = .ok (.aload_n 0, 1) := by decide +kernel
theorem dX0_findSigns_6 : decode cX0_findSigns 6 = .ok (.invokevirtual 114, 3) := by decide +kernel
theorem dX0_findSigns_9 : decode cX0_findSigns 9 = .ok (.iconst 0, 1) := by decide +kernel
theorem dX0_findSigns_10 : decode cX0_findSigns 10 = .ok (.istore_n 1, 1) := by decide +kernel
theorem dX0_findSigns_11 : decode cX0_findSigns 11 = .ok (.iload_n 1, 1) := by decide +kernel
theorem dX0_findSigns_12 : decode cX0_findSigns 12 = .ok (.aload_n 0, 1) := by decide +kernel
theorem dX0_findSigns_13 : decode cX0_findSigns 13 = .ok (.getfield 19, 3) := by decide +kernel
theorem dX0_findSigns_16 : decode cX0_findSigns 16 = .ok (.if_icmp .ge 44, 3) := by decide +kernel
theorem dX0_findSigns_19 : decode cX0_findSigns 19 = .ok (.aload_n 0, 1) := by decide +kernel
theorem dX0_findSigns_20 : decode cX0_findSigns 20 = .ok (.getfield 43, 3) := by decide +kernel
theorem dX0_findSigns_23 : decode cX0_findSigns 23 = .ok (.aload_n 0, 1) := by decide +kernel
theorem dX0_findSigns_24 : decode cX0_findSigns 24 = .ok (.getfield 15, 3) := by decide +kernel
theorem dX0_findSigns_27 : decode cX0_findSigns 27 = .ok (.iload_n 1, 1) := by decide +kernel
theorem dX0_findSigns_28 : decode cX0_findSigns 28 = .ok (.iaload, 1) := by decide +kernel
theorem dX0_findSigns_29 : decode cX0_findSigns 29 = .ok (.iaload, 1) := by decide +kernel
theorem dX0_findSigns_30 : decode cX0_findSigns 30 = .ok (.iconst (-1), 1) := by decide +kernel
theorem dX0_findSigns_31 : decode cX0_findSigns 31 = .ok (.if_icmp .ne 23, 3) := by decide +kernel
theorem dX0_findSigns_34 : decode cX0_findSigns 34 = .ok (.aload_n 0, 1) := by decide +kernel
theorem dX0_findSigns_35 : decode cX0_findSigns 35 = .ok (.aload_n 0, 1) := by decide +kernel
theorem dX0_findSigns_36 : decode cX0_findSigns 36 = .ok (.getfield 15, 3) := by decide +kernel
theorem dX0_findSigns_39 : decode cX0_findSigns 39 = .ok (.iload_n 1, 1) := by decide +kernel
theorem dX0_findSigns_40 : decode cX0_findSigns 40 = .ok (.iaload, 1) := by decide +kernel
theorem dX0_findSigns_41 : decode cX0_findSigns 41 = .ok (.invokevirtual 117, 3) := by decide +kernel
theorem dX0_findSigns_44 : decode cX0_findSigns 44 = .ok (.aload_n 0, 1) := by decide +kernel
theorem dX0_findSigns_45 : decode cX0_findSigns 45 = .ok (.dup, 1) := by decide +kernel
theorem dX0_findSigns_46 : decode cX0_findSigns 46 = .ok (.getfield 52, 3) := by decide +kernel
theorem dX0_findSigns_49 : decode cX0_findSigns 49 = .ok (.iconst 2, 1) := by decide +kernel
theorem dX0_findSigns_50 : decode cX0_findSigns 50 = .ok (.imul, 1) := by decide +kernel
theorem dX0_findSigns_51 : decode cX0_findSigns 51 = .ok (.putfield 52, 3) := by decide +kernel
theorem dX0_findSigns_54 : decode cX0_findSigns 54 = .ok (.iinc 1 1, 3) := by decide +kernel
theorem dX0_findSigns_57 : decode cX0_findSigns 57 = .ok (.goto (-46), 3) := by decide +kernel
theorem dX0_findSigns_60 : decode cX0_findSigns 60 = .ok (.return_, 1) := by decide +kernel
theorem dX0_findMadeOfSquares_0 : decode cX0_findMadeOfSquares 0 = .ok (.iconst 0, 1) := by decide +kernel
theorem dX0_findMadeOfSquares_1 : decode cX0_findMadeOfSquares 1 = .ok (.istore_n 1, 1) := by decide +kernel
theorem dX0_findMadeOfSquares_2 : decode cX0_findMadeOfSquares 2 = .ok (.iload_n 1, 1) := by decide +kernel
theorem dX0_findMadeOfSquares_3 : decode cX0_findMadeOfSquares 3 = .ok (.bipush 48, 2) := by decide +kernel
theorem dX0_findMadeOfSquares_5 : decode cX0_findMadeOfSquares 5 = .ok (.if_icmp .ge 16, 3) := by decide +kernel
theorem dX0_findMadeOfSquares_8 : decode cX0_findMadeOfSquares 8 = .ok (.aload_n 0, 1) := by decide +kernel
theorem dX0_findMadeOfSquares_9 : decode cX0_findMadeOfSquares 9 = .ok (.getfield 43, 3) := by decide +kernel
theorem dX0_findMadeOfSquares_12 : decode cX0_findMadeOfSquares 12 = .ok (.iload_n 1, 1) := by decide +kernel
theorem dX0_findMadeOfSquares_13 : decode cX0_findMadeOfSquares 13 = .ok (.iconst (-1), 1) := by decide +kernel
theorem dX0_findMadeOfSquares_14 : decode cX0_findMadeOfSquares 14 = .ok (.iastore, 1) := by decide +kernel
theorem dX0_findMadeOfSquares_15 : decode cX0_findMadeOfSquares 15 = .ok (.iinc 1 1, 3) := by decide +kernel
theorem dX0_findMadeOfSquares_18 : decode cX0_findMadeOfSquares 18 = .ok (.goto (-16), 3) := by decide +kernel
theorem dX0_findMadeOfSquares_21 : decode cX0_findMadeOfSquares 21 = .ok (.aload_n 0, 1) := by decide +kernel
theorem dX0_findMadeOfSquares_22 : decode cX0_findMadeOfSquares 22 = .ok (.iconst 0, 1) := by decide +kernel
theorem dX0_findMadeOfSquares_23 : decode cX0_findMadeOfSquares 23 = .ok (.putfield 49, 3) := by decide +kernel
theorem dX0_findMadeOfSquares_26 : decode cX0_findMadeOfSquares 26 = .ok (.aload_n 0, 1) := by decide +kernel
theorem dX0_findMadeOfSquares_27 : decode cX0_findMadeOfSquares 27 = .ok (.iconst 0, 1) := by decide +kernel
theorem dX0_findMadeOfSquares_28 : decode cX0_findMadeOfSquares 28 = .ok (.iconst 0, 1) := by decide +kernel
theorem dX0_findMadeOfSquares_29 : decode cX0_findMadeOfSquares 29 = .ok (.invokevirtual 120, 3) := by decide +kernel
theorem dX0_findMadeOfSquares_32 : decode cX0_findMadeOfSquares 32 = .ok (.iconst 0, 1) := by decide +kernel
theorem dX0_findMadeOfSquares_33 : decode cX0_findMadeOfSquares 33 = .ok (.istore_n 1, 1) := by decide +kernel
theorem dX0_findMadeOfSquares_34 : decode cX0_findMadeOfSquares 34 = .ok (.iload_n 1, 1) := by decide +kernel
theorem dX0_findMadeOfSquares_35 : decode cX0_findMadeOfSquares 35 = .ok (.bipush 48, 2) := by decide +kernel
theorem dX0_findMadeOfSquares_37 : decode cX0_findMadeOfSquares 37 = .ok (.if_icmp .ge 64, 3) := by decide +kernel
theorem dX0_findMadeOfSquares_40 : decode cX0_findMadeOfSquares 40 = .ok (.iload_n 1, 1) := by decide +kernel
theorem dX0_findMadeOfSquares_41 : decode cX0_findMadeOfSquares 41 = .ok (.aload_n 0, 1) := by decide +kernel
theorem dX0_findMadeOfSquares_42 : decode cX0_findMadeOfSquares 42 = .ok (.getfield 49, 3) := by decide +kernel
theorem dX0_findMadeOfSquares_45 : decode cX0_findMadeOfSquares 45 = .ok (.if_icmp .ge 56, 3) := by decide +kernel
theorem dX0_findMadeOfSquares_48 : decode cX0_findMadeOfSquares 48 = .ok (.iconst 0, 1) := by decide +kernel
theorem dX0_findMadeOfSquares_49 : decode cX0_findMadeOfSquares 49 = .ok (.istore_n 2, 1) := by decide +kernel
theorem dX0_findMadeOfSquares_50 : decode cX0_findMadeOfSquares 50 = .ok (.iload_n 2, 1) := by decide +kernel
theorem dX0_findMadeOfSquares_51 : decode cX0_findMadeOfSquares 51 = .ok (.aload_n 0, 1) := by decide +kernel
theorem dX0_findMadeOfSquares_52 : decode cX0_findMadeOfSquares 52 = .ok (.getfield 19, 3) := by decide +kernel
theorem dX0_findMadeOfSquares_55 : decode cX0_findMadeOfSquares 55 = .ok (.if_icmp .ge 40, 3) := by decide +kernel
theorem dX0_findMadeOfSquares_58 : decode cX0_findMadeOfSquares 58 = .ok (.aload_n 0, 1) := by decide +kernel
theorem dX0_findMadeOfSquares_59 : decode cX0_findMadeOfSquares 59 = .ok (.getfield 15, 3) := by decide +kernel
theorem dX0_findMadeOfSquares_62 : decode cX0_findMadeOfSquares 62 = .ok (.iload_n 2, 1) := by decide +kernel
theorem dX0_findMadeOfSquares_63 : decode cX0_findMadeOfSquares 63 = .ok (.iaload, 1) := by decide +kernel
theorem dX0_findMadeOfSquares_64 : decode cX0_findMadeOfSquares 64 = .ok (.aload_n 0, 1) := by decide +kernel
theorem dX0_findMadeOfSquares_65 : decode cX0_findMadeOfSquares 65 = .ok (.getfield 15, 3) := by decide +kernel
theorem dX0_findMadeOfSquares_68 : decode cX0_findMadeOfSquares 68 = .ok (.iload_n 2, 1) := by decide +kernel
theorem dX0_findMadeOfSquares_69 : decode cX0_findMadeOfSquares 69 = .ok (.iaload, 1) := by decide +kernel
theorem dX0_findMadeOfSquares_70 : decode cX0_findMadeOfSquares 70 = .ok (.invokestatic 84, 3) := by decide +kernel
theorem dX0_findMadeOfSquares_73 : decode cX0_findMadeOfSquares 73 = .ok (.istore_n 3, 1) := by decide +kernel
theorem dX0_findMadeOfSquares_74 : decode cX0_findMadeOfSquares 74 = .ok (.aload_n 0, 1) := by decide +kernel
theorem dX0_findMadeOfSquares_75 : decode cX0_findMadeOfSquares 75 = .ok (.aload_n 0, 1) := by decide +kernel
theorem dX0_findMadeOfSquares_76 : decode cX0_findMadeOfSquares 76 = .ok (.getfield 46, 3) := by decide +kernel
theorem dX0_findMadeOfSquares_79 : decode cX0_findMadeOfSquares 79 = .ok (.iload_n 1, 1) := by decide +kernel
theorem dX0_findMadeOfSquares_80 : decode cX0_findMadeOfSquares 80 = .ok (.iaload, 1) := by decide +kernel
theorem dX0_findMadeOfSquares_81 : decode cX0_findMadeOfSquares 81 = .ok (.iload_n 3, 1) := by decide +kernel
theorem dX0_findMadeOfSquares_82 : decode cX0_findMadeOfSquares 82 = .ok (.invokestatic 84, 3) := by decide +kernel
theorem dX0_findMadeOfSquares_85 : decode cX0_findMadeOfSquares 85 = .ok (.iconst 0, 1) := by decide +kernel
theorem dX0_findMadeOfSquares_86 : decode cX0_findMadeOfSquares 86 = .ok (.invokevirtual 120, 3) := by decide +kernel
theorem dX0_findMadeOfSquares_89 : decode cX0_findMadeOfSquares 89 = .ok (.iinc 2 1, 3) := by decide +kernel
theorem dX0_findMadeOfSquares_92 : decode cX0_findMadeOfSquares 92 = .ok (.goto (-42), 3) := by decide +kernel
theorem dX0_findMadeOfSquares_95 : decode cX0_findMadeOfSquares 95 = .ok (.iinc 1 1, 3) := by decide +kernel
theorem dX0_findMadeOfSquares_98 : decode cX0_findMadeOfSquares 98 = .ok (.goto (-64), 3) := by decide +kernel
theorem dX0_findMadeOfSquares_101 : decode cX0_findMadeOfSquares 101 = .ok (.return_, 1) := by decide +kernel
theorem dX0_reach_0 : decode cX0_reach 0 = .ok (.aload_n 0, 1) := by decide +kernel
theorem dX0_reach_1 : decode cX0_reach 1 = .ok (.getfield 43, 3) := by decide +kernel
theorem dX0_reach_4 : decode cX0_reach 4 = .ok (.iload_n 1, 1) := by decide +kernel
theorem dX0_reach_5 : decode cX0_reach 5 = .ok (.iaload, 1) := by decide +kernel
theorem dX0_reach_6 : decode cX0_reach 6 = .ok (.iconst (-1), 1) := by decide +kernel
theorem dX0_reach_7 : decode cX0_reach 7 = .ok (.if_icmp .ne 39, 3) := by decide +kernel
theorem dX0_reach_10 : decode cX0_reach 10 = .ok (.aload_n 0, 1) := by decide +kernel
theorem dX0_reach_11 : decode cX0_reach 11 = .ok (.getfield 49, 3) := by decide +kernel
theorem dX0_reach_14 : decode cX0_reach 14 = .ok (.bipush 48, 2) := by decide +kernel
theorem dX0_reach_16 : decode cX0_reach 16 = .ok (.if_icmp .ge 30, 3) := by decide +kernel
theorem dX0_reach_19 : decode cX0_reach 19 = .ok (.aload_n 0, 1) := by decide +kernel
theorem dX0_reach_20 : decode cX0_reach 20 = .ok (.getfield 43, 3) := by decide +kernel
theorem dX0_reach_23 : decode cX0_reach 23 = .ok (.iload_n 1, 1) := by decide +kernel
theorem dX0_reach_24 : decode cX0_reach 24 = .ok (.iload_n 2, 1) := by decide +kernel
theorem dX0_reach_25 : decode cX0_reach 25 = .ok (.iastore, 1) := by decide +kernel
theorem dX0_reach_26 : decode cX0_reach 26 = .ok (.aload_n 0, 1) := by decide +kernel
theorem dX0_reach_27 : decode cX0_reach 27 = .ok (.getfield 46, 3) := by decide +kernel
theorem dX0_reach_30 : decode cX0_reach 30 = .ok (.aload_n 0, 1) := by decide +kernel
theorem dX0_reach_31 : decode cX0_reach 31 = .ok (.getfield 49, 3) := by decide +kernel
theorem dX0_reach_34 : decode cX0_reach 34 = .ok (.iload_n 1, 1) := by decide +kernel
theorem dX0_reach_35 : decode cX0_reach 35 = .ok (.iastore, 1) := by decide +kernel
theorem dX0_reach_36 : decode cX0_reach 36 = .ok (.aload_n 0, 1) := by decide +kernel
theorem dX0_reach_37 : decode cX0_reach 37 = .ok (.dup, 1) := by decide +kernel
theorem dX0_reach_38 : decode cX0_reach 38 = .ok (.getfield 49, 3) := by decide +kernel
theorem dX0_reach_41 : decode cX0_reach 41 = .ok (.iconst 1, 1) := by decide +kernel
theorem dX0_reach_42 : decode cX0_reach 42 = .ok (.iadd, 1) := by decide +kernel
theorem dX0_reach_43 : decode cX0_reach 43 = .ok (.putfield 49, 3) := by decide +kernel
theorem dX0_reach_46 : decode cX0_reach 46 = .ok (.return_, 1) := by decide +kernel
theorem dX0_addFree_0 : decode cX0_addFree 0 = .ok (.aload_n 0, 1) := by decide +kernel
theorem dX0_addFree_1 : decode cX0_addFree 1 = .ok (.getfield 49, 3) := by decide +kernel
theorem dX0_addFree_4 : decode cX0_addFree 4 = .ok (.istore_n 2, 1) := by decide +kernel
theorem dX0_addFree_5 : decode cX0_addFree 5 = .ok (.iconst 0, 1) := by decide +kernel
theorem dX0_addFree_6 : decode cX0_addFree 6 = .ok (.istore_n 3, 1) := by decide +kernel
theorem dX0_addFree_7 : decode cX0_addFree 7 = .ok (.iload_n 3, 1) := by decide +kernel
theorem dX0_addFree_8 : decode cX0_addFree 8 = .ok (.iload_n 2, 1) := by decide +kernel
theorem dX0_addFree_9 : decode cX0_addFree 9 = .ok (.if_icmp .ge 47, 3) := by decide +kernel
theorem dX0_addFree_12 : decode cX0_addFree 12 = .ok (.aload_n 0, 1) := by decide +kernel
theorem dX0_addFree_13 : decode cX0_addFree 13 = .ok (.getfield 46, 3) := by decide +kernel
theorem dX0_addFree_16 : decode cX0_addFree 16 = .ok (.iload_n 3, 1) := by decide +kernel
theorem dX0_addFree_17 : decode cX0_addFree 17 = .ok (.iaload, 1) := by decide +kernel
theorem dX0_addFree_18 : decode cX0_addFree 18 = .ok (.istore 4, 2) := by decide +kernel
theorem dX0_addFree_20 : decode cX0_addFree 20 = .ok (.aload_n 0, 1) := by decide +kernel
theorem dX0_addFree_21 : decode cX0_addFree 21 = .ok (.getfield 43, 3) := by decide +kernel
theorem dX0_addFree_24 : decode cX0_addFree 24 = .ok (.iload 4, 2) := by decide +kernel
theorem dX0_addFree_26 : decode cX0_addFree 26 = .ok (.dup2, 1) := by decide +kernel
theorem dX0_addFree_27 : decode cX0_addFree 27 = .ok (.iaload, 1) := by decide +kernel
theorem dX0_addFree_28 : decode cX0_addFree 28 = .ok (.iconst 2, 1) := by decide +kernel
theorem dX0_addFree_29 : decode cX0_addFree 29 = .ok (.imul, 1) := by decide +kernel
theorem dX0_addFree_30 : decode cX0_addFree 30 = .ok (.iastore, 1) := by decide +kernel
theorem dX0_addFree_31 : decode cX0_addFree 31 = .ok (.aload_n 0, 1) := by decide +kernel
theorem dX0_addFree_32 : decode cX0_addFree 32 = .ok (.iload_n 1, 1) := by decide +kernel
theorem dX0_addFree_33 : decode cX0_addFree 33 = .ok (.iload 4, 2) := by decide +kernel
theorem dX0_addFree_35 : decode cX0_addFree 35 = .ok (.invokestatic 84, 3) := by decide +kernel
theorem dX0_addFree_38 : decode cX0_addFree 38 = .ok (.aload_n 0, 1) := by decide +kernel
theorem dX0_addFree_39 : decode cX0_addFree 39 = .ok (.getfield 43, 3) := by decide +kernel
theorem dX0_addFree_42 : decode cX0_addFree 42 = .ok (.iload 4, 2) := by decide +kernel
theorem dX0_addFree_44 : decode cX0_addFree 44 = .ok (.iaload, 1) := by decide +kernel
theorem dX0_addFree_45 : decode cX0_addFree 45 = .ok (.iconst 1, 1) := by decide +kernel
theorem dX0_addFree_46 : decode cX0_addFree 46 = .ok (.iadd, 1) := by decide +kernel
theorem dX0_addFree_47 : decode cX0_addFree 47 = .ok (.invokevirtual 120, 3) := by decide +kernel
theorem dX0_addFree_50 : decode cX0_addFree 50 = .ok (.iinc 3 1, 3) := by decide +kernel
theorem dX0_addFree_53 : decode cX0_addFree 53 = .ok (.goto (-46), 3) := by decide +kernel
theorem dX0_addFree_56 : decode cX0_addFree 56 = .ok (.return_, 1) := by decide +kernel
end
section
theorem dX4_init_0 : decode cX4_init 0 = .ok (.aload_n 0, 1) := by decide +kernel
theorem dX4_init_1 : decode cX4_init 1 = .ok (.invokespecial 3, 3) := by decide +kernel
theorem dX4_init_4 : decode cX4_init 4 = .ok (.aload_n 0, 1) := by decide +kernel
theorem dX4_init_5 : decode cX4_init 5 = .ok (.bipush 24, 2) := by decide +kernel
theorem dX4_init_7 : decode cX4_init 7 = .ok (.newarray .int, 2) := by decide +kernel
theorem dX4_init_9 : decode cX4_init 9 = .ok (.putfield 11, 3) := by decide +kernel
theorem dX4_init_12 : decode cX4_init 12 = .ok (.aload_n 0, 1) := by decide +kernel
theorem dX4_init_13 : decode cX4_init 13 = .ok (.bipush 8, 2) := by decide +kernel
theorem dX4_init_15 : decode cX4_init 15 = .ok (.newarray .int, 2) := by decide +kernel
theorem dX4_init_17 : decode cX4_init 17 = .ok (.putfield 15, 3) := by decide +kernel
theorem dX4_init_20 : decode cX4_init 20 = .ok (.aload_n 0, 1) := by decide +kernel
theorem dX4_init_21 : decode cX4_init 21 = .ok (.iconst 0, 1) := by decide +kernel
theorem dX4_init_22 : decode cX4_init 22 = .ok (.putfield 18, 3) := by decide +kernel
theorem dX4_init_25 : decode cX4_init 25 = .ok (.return_, 1) := by decide +kernel
theorem dX4_become_0 : decode cX4_become 0 = .ok (.aload_n 1, 1) := by decide +kernel
theorem dX4_become_1 : decode cX4_become 1 = .ok (.getfield 11, 3) := by decide +kernel
theorem dX4_become_4 : decode cX4_become 4 = .ok (.iconst 0, 1) := by decide +kernel
theorem dX4_become_5 : decode cX4_become 5 = .ok (.aload_n 0, 1) := by decide +kernel
theorem dX4_become_6 : decode cX4_become 6 = .ok (.getfield 11, 3) := by decide +kernel
theorem dX4_become_9 : decode cX4_become 9 = .ok (.iconst 0, 1) := by decide +kernel
theorem dX4_become_10 : decode cX4_become 10 = .ok (.bipush 24, 2) := by decide +kernel
theorem dX4_become_12 : decode cX4_become 12 = .ok (.invokestatic 22, 3) := by decide +kernel
theorem dX4_become_15 : decode cX4_become 15 = .ok (.aload_n 1, 1) := by decide +kernel
theorem dX4_become_16 : decode cX4_become 16 = .ok (.getfield 15, 3) := by decide +kernel
theorem dX4_become_19 : decode cX4_become 19 = .ok (.iconst 0, 1) := by decide +kernel
theorem dX4_become_20 : decode cX4_become 20 = .ok (.aload_n 0, 1) := by decide +kernel
theorem dX4_become_21 : decode cX4_become 21 = .ok (.getfield 15, 3) := by decide +kernel
theorem dX4_become_24 : decode cX4_become 24 = .ok (.iconst 0, 1) := by decide +kernel
theorem dX4_become_25 : decode cX4_become 25 = .ok (.bipush 8, 2) := by decide +kernel
theorem dX4_become_27 : decode cX4_become 27 = .ok (.invokestatic 22, 3) := by decide +kernel
theorem dX4_become_30 : decode cX4_become 30 = .ok (.aload_n 0, 1) := by decide +kernel
theorem dX4_become_31 : decode cX4_become 31 = .ok (.aload_n 1, 1) := by decide +kernel
theorem dX4_become_32 : decode cX4_become 32 = .ok (.getfield 18, 3) := by decide +kernel
theorem dX4_become_35 : decode cX4_become 35 = .ok (.putfield 18, 3) := by decide +kernel
theorem dX4_become_38 : decode cX4_become 38 = .ok (.return_, 1) := by decide +kernel
theorem dX4_add_0 : decode cX4_add 0 = .ok (.aload_n 0, 1) := by decide +kernel
theorem dX4_add_1 : decode cX4_add 1 = .ok (.getfield 18, 3) := by decide +kernel
theorem dX4_add_4 : decode cX4_add 4 = .ok (.istore 5, 2) := by decide +kernel
theorem dX4_add_6 : decode cX4_add 6 = .ok (.aload_n 0, 1) := by decide +kernel
theorem dX4_add_7 : decode cX4_add 7 = .ok (.iload 5, 2) := by decide +kernel
theorem dX4_add_9 : decode cX4_add 9 = .ok (.iload_n 1, 1) := by decide +kernel
theorem dX4_add_10 : decode cX4_add 10 = .ok (.iload_n 2, 1) := by decide +kernel
theorem dX4_add_11 : decode cX4_add 11 = .ok (.iload_n 3, 1) := by decide +kernel
theorem dX4_add_12 : decode cX4_add 12 = .ok (.invokevirtual 28, 3) := by decide +kernel
theorem dX4_add_15 : decode cX4_add 15 = .ok (.aload_n 0, 1) := by decide +kernel
theorem dX4_add_16 : decode cX4_add 16 = .ok (.getfield 15, 3) := by decide +kernel
theorem dX4_add_19 : decode cX4_add 19 = .ok (.iload 5, 2) := by decide +kernel
theorem dX4_add_21 : decode cX4_add 21 = .ok (.iload 4, 2) := by decide +kernel
theorem dX4_add_23 : decode cX4_add 23 = .ok (.iastore, 1) := by decide +kernel
theorem dX4_add_24 : decode cX4_add 24 = .ok (.aload_n 0, 1) := by decide +kernel
theorem dX4_add_25 : decode cX4_add 25 = .ok (.dup, 1) := by decide +kernel
theorem dX4_add_26 : decode cX4_add 26 = .ok (.getfield 18, 3) := by decide +kernel
theorem dX4_add_29 : decode cX4_add 29 = .ok (.iconst 1, 1) := by decide +kernel
theorem dX4_add_30 : decode cX4_add 30 = .ok (.iadd, 1) := by decide +kernel
theorem dX4_add_31 : decode cX4_add 31 = .ok (.putfield 18, 3) := by decide +kernel
theorem dX4_add_34 : decode cX4_add 34 = .ok (.iload 5, 2) := by decide +kernel
theorem dX4_add_36 : decode cX4_add 36 = .ok (.ireturn, 1) := by decide +kernel
theorem dX4_setPlace_0 : decode cX4_setPlace 0 = .ok (.aload_n 0, 1) := by decide +kernel
theorem dX4_setPlace_1 : decode cX4_setPlace 1 = .ok (.getfield 11, 3) := by decide +kernel
theorem dX4_setPlace_4 : decode cX4_setPlace 4 = .ok (.iconst 3, 1) := by decide +kernel
theorem dX4_setPlace_5 : decode cX4_setPlace 5 = .ok (.iload_n 1, 1) := by decide +kernel
theorem dX4_setPlace_6 : decode cX4_setPlace 6 = .ok (.imul, 1) := by decide +kernel
theorem dX4_setPlace_7 : decode cX4_setPlace 7 = .ok (.iload_n 2, 1) := by decide +kernel
theorem dX4_setPlace_8 : decode cX4_setPlace 8 = .ok (.iastore, 1) := by decide +kernel
theorem dX4_setPlace_9 : decode cX4_setPlace 9 = .ok (.aload_n 0, 1) := by decide +kernel
theorem dX4_setPlace_10 : decode cX4_setPlace 10 = .ok (.getfield 11, 3) := by decide +kernel
theorem dX4_setPlace_13 : decode cX4_setPlace 13 = .ok (.iconst 3, 1) := by decide +kernel
theorem dX4_setPlace_14 : decode cX4_setPlace 14 = .ok (.iload_n 1, 1) := by decide +kernel
theorem dX4_setPlace_15 : decode cX4_setPlace 15 = .ok (.imul, 1) := by decide +kernel
theorem dX4_setPlace_16 : decode cX4_setPlace 16 = .ok (.iconst 1, 1) := by decide +kernel
theorem dX4_setPlace_17 : decode cX4_setPlace 17 = .ok (.iadd, 1) := by decide +kernel
theorem dX4_setPlace_18 : decode cX4_setPlace 18 = .ok (.iload_n 3, 1) := by decide +kernel
theorem dX4_setPlace_19 : decode cX4_setPlace 19 = .ok (.iastore, 1) := by decide +kernel
theorem dX4_setPlace_20 : decode cX4_setPlace 20 = .ok (.aload_n 0, 1) := by decide +kernel
theorem dX4_setPlace_21 : decode cX4_setPlace 21 = .ok (.getfield 11, 3) := by decide +kernel
theorem dX4_setPlace_24 : decode cX4_setPlace 24 = .ok (.iconst 3, 1) := by decide +kernel
theorem dX4_setPlace_25 : decode cX4_setPlace 25 = .ok (.iload_n 1, 1) := by decide +kernel
theorem dX4_setPlace_26 : decode cX4_setPlace 26 = .ok (.imul, 1) := by decide +kernel
theorem dX4_setPlace_27 : decode cX4_setPlace 27 = .ok (.iconst 2, 1) := by decide +kernel
theorem dX4_setPlace_28 : decode cX4_setPlace 28 = .ok (.iadd, 1) := by decide +kernel
theorem dX4_setPlace_29 : decode cX4_setPlace 29 = .ok (.iload 4, 2) := by decide +kernel
theorem dX4_setPlace_31 : decode cX4_setPlace 31 = .ok (.iastore, 1) := by decide +kernel
theorem dX4_setPlace_32 : decode cX4_setPlace 32 = .ok (.return_, 1) := by decide +kernel
theorem dX4_remove_0 : decode cX4_remove 0 = .ok (.aload_n 0, 1) := by decide +kernel
theorem dX4_remove_1 : decode cX4_remove 1 = .ok (.getfield 18, 3) := by decide +kernel
theorem dX4_remove_4 : decode cX4_remove 4 = .ok (.iload_n 1, 1) := by decide +kernel
theorem dX4_remove_5 : decode cX4_remove 5 = .ok (.isub, 1) := by decide +kernel
theorem dX4_remove_6 : decode cX4_remove 6 = .ok (.iconst 1, 1) := by decide +kernel
theorem dX4_remove_7 : decode cX4_remove 7 = .ok (.isub, 1) := by decide +kernel
theorem dX4_remove_8 : decode cX4_remove 8 = .ok (.istore_n 2, 1) := by decide +kernel
theorem dX4_remove_9 : decode cX4_remove 9 = .ok (.aload_n 0, 1) := by decide +kernel
theorem dX4_remove_10 : decode cX4_remove 10 = .ok (.getfield 11, 3) := by decide +kernel
theorem dX4_remove_13 : decode cX4_remove 13 = .ok (.iconst 3, 1) := by decide +kernel
theorem dX4_remove_14 : decode cX4_remove 14 = .ok (.iload_n 1, 1) := by decide +kernel
theorem dX4_remove_15 : decode cX4_remove 15 = .ok (.imul, 1) := by decide +kernel
theorem dX4_remove_16 : decode cX4_remove 16 = .ok (.iconst 3, 1) := by decide +kernel
theorem dX4_remove_17 : decode cX4_remove 17 = .ok (.iadd, 1) := by decide +kernel
theorem dX4_remove_18 : decode cX4_remove 18 = .ok (.aload_n 0, 1) := by decide +kernel
theorem dX4_remove_19 : decode cX4_remove 19 = .ok (.getfield 11, 3) := by decide +kernel
theorem dX4_remove_22 : decode cX4_remove 22 = .ok (.iconst 3, 1) := by decide +kernel
theorem dX4_remove_23 : decode cX4_remove 23 = .ok (.iload_n 1, 1) := by decide +kernel
theorem dX4_remove_24 : decode cX4_remove 24 = .ok (.imul, 1) := by decide +kernel
theorem dX4_remove_25 : decode cX4_remove 25 = .ok (.iconst 3, 1) := by decide +kernel
theorem dX4_remove_26 : decode cX4_remove 26 = .ok (.iload_n 2, 1) := by decide +kernel
theorem dX4_remove_27 : decode cX4_remove 27 = .ok (.imul, 1) := by decide +kernel
theorem dX4_remove_28 : decode cX4_remove 28 = .ok (.invokestatic 22, 3) := by decide +kernel
theorem dX4_remove_31 : decode cX4_remove 31 = .ok (.aload_n 0, 1) := by decide +kernel
theorem dX4_remove_32 : decode cX4_remove 32 = .ok (.getfield 15, 3) := by decide +kernel
theorem dX4_remove_35 : decode cX4_remove 35 = .ok (.iload_n 1, 1) := by decide +kernel
theorem dX4_remove_36 : decode cX4_remove 36 = .ok (.iconst 1, 1) := by decide +kernel
theorem dX4_remove_37 : decode cX4_remove 37 = .ok (.iadd, 1) := by decide +kernel
theorem dX4_remove_38 : decode cX4_remove 38 = .ok (.aload_n 0, 1) := by decide +kernel
theorem dX4_remove_39 : decode cX4_remove 39 = .ok (.getfield 15, 3) := by decide +kernel
theorem dX4_remove_42 : decode cX4_remove 42 = .ok (.iload_n 1, 1) := by decide +kernel
theorem dX4_remove_43 : decode cX4_remove 43 = .ok (.iload_n 2, 1) := by decide +kernel
theorem dX4_remove_44 : decode cX4_remove 44 = .ok (.invokestatic 22, 3) := by decide +kernel
theorem dX4_remove_47 : decode cX4_remove 47 = .ok (.aload_n 0, 1) := by decide +kernel
theorem dX4_remove_48 : decode cX4_remove 48 = .ok (.dup, 1) := by decide +kernel
theorem dX4_remove_49 : decode cX4_remove 49 = .ok (.getfield 18, 3) := by decide +kernel
theorem dX4_remove_52 : decode cX4_remove 52 = .ok (.iconst 1, 1) := by decide +kernel
theorem dX4_remove_53 : decode cX4_remove 53 = .ok (.isub, 1) := by decide +kernel
theorem dX4_remove_54 : decode cX4_remove 54 = .ok (.putfield 18, 3) := by decide +kernel
theorem dX4_remove_57 : decode cX4_remove 57 = .ok (.return_, 1) := by decide +kernel
theorem dX4_pointAt_0 : decode cX4_pointAt 0 = .ok (.iconst 0, 1) := by decide +kernel
theorem dX4_pointAt_1 : decode cX4_pointAt 1 = .ok (.istore 4, 2) := by decide +kernel
theorem dX4_pointAt_3 : decode cX4_pointAt 3 = .ok (.iload 4, 2) := by decide +kernel
theorem dX4_pointAt_5 : decode cX4_pointAt 5 = .ok (.aload_n 0, 1) := by decide +kernel
theorem dX4_pointAt_6 : decode cX4_pointAt 6 = .ok (.getfield 18, 3) := by decide +kernel
theorem dX4_pointAt_9 : decode cX4_pointAt 9 = .ok (.if_icmp .ge 55, 3) := by decide +kernel
theorem dX4_pointAt_12 : decode cX4_pointAt 12 = .ok (.iconst 3, 1) := by decide +kernel
theorem dX4_pointAt_13 : decode cX4_pointAt 13 = .ok (.iload 4, 2) := by decide +kernel
theorem dX4_pointAt_15 : decode cX4_pointAt 15 = .ok (.imul, 1) := by decide +kernel
theorem dX4_pointAt_16 : decode cX4_pointAt 16 = .ok (.istore 5, 2) := by decide +kernel
theorem dX4_pointAt_18 : decode cX4_pointAt 18 = .ok (.aload_n 0, 1) := by decide +kernel
theorem dX4_pointAt_19 : decode cX4_pointAt 19 = .ok (.getfield 11, 3) := by decide +kernel
theorem dX4_pointAt_22 : decode cX4_pointAt 22 = .ok (.iload 5, 2) := by decide +kernel
theorem dX4_pointAt_24 : decode cX4_pointAt 24 = .ok (.iaload, 1) := by decide +kernel
theorem dX4_pointAt_25 : decode cX4_pointAt 25 = .ok (.iload_n 1, 1) := by decide +kernel
theorem dX4_pointAt_26 : decode cX4_pointAt 26 = .ok (.if_icmp .ne 32, 3) := by decide +kernel
theorem dX4_pointAt_29 : decode cX4_pointAt 29 = .ok (.aload_n 0, 1) := by decide +kernel
theorem dX4_pointAt_30 : decode cX4_pointAt 30 = .ok (.getfield 11, 3) := by decide +kernel
theorem dX4_pointAt_33 : decode cX4_pointAt 33 = .ok (.iload 5, 2) := by decide +kernel
theorem dX4_pointAt_35 : decode cX4_pointAt 35 = .ok (.iconst 1, 1) := by decide +kernel
theorem dX4_pointAt_36 : decode cX4_pointAt 36 = .ok (.iadd, 1) := by decide +kernel
theorem dX4_pointAt_37 : decode cX4_pointAt 37 = .ok (.iaload, 1) := by decide +kernel
theorem dX4_pointAt_38 : decode cX4_pointAt 38 = .ok (.iload_n 2, 1) := by decide +kernel
theorem dX4_pointAt_39 : decode cX4_pointAt 39 = .ok (.if_icmp .ne 19, 3) := by decide +kernel
theorem dX4_pointAt_42 : decode cX4_pointAt 42 = .ok (.aload_n 0, 1) := by decide +kernel
theorem dX4_pointAt_43 : decode cX4_pointAt 43 = .ok (.getfield 11, 3) := by decide +kernel
theorem dX4_pointAt_46 : decode cX4_pointAt 46 = .ok (.iload 5, 2) := by decide +kernel
theorem dX4_pointAt_48 : decode cX4_pointAt 48 = .ok (.iconst 2, 1) := by decide +kernel
theorem dX4_pointAt_49 : decode cX4_pointAt 49 = .ok (.iadd, 1) := by decide +kernel
theorem dX4_pointAt_50 : decode cX4_pointAt 50 = .ok (.iaload, 1) := by decide +kernel
theorem dX4_pointAt_51 : decode cX4_pointAt 51 = .ok (.iload_n 3, 1) := by decide +kernel
theorem dX4_pointAt_52 : decode cX4_pointAt 52 = .ok (.if_icmp .ne 6, 3) := by decide +kernel
theorem dX4_pointAt_55 : decode cX4_pointAt 55 = .ok (.iload 4, 2) := by decide +kernel
theorem dX4_pointAt_57 : decode cX4_pointAt 57 = .ok (.ireturn, 1) := by decide +kernel
theorem dX4_pointAt_58 : decode cX4_pointAt 58 = .ok (.iinc 4 1, 3) := by decide +kernel
theorem dX4_pointAt_61 : decode cX4_pointAt 61 = .ok (.goto (-58), 3) := by decide +kernel
theorem dX4_pointAt_64 : decode cX4_pointAt 64 = .ok (.bipush (-5), 2) := by decide +kernel
theorem dX4_pointAt_66 : decode cX4_pointAt 66 = .ok (.ireturn, 1) := by decide +kernel
theorem dX4_axisBehind_0 : decode cX4_axisBehind 0 = .ok (.aload_n 0, 1) := by decide +kernel
theorem dX4_axisBehind_1 : decode cX4_axisBehind 1 = .ok (.getfield 11, 3) := by decide +kernel
theorem dX4_axisBehind_4 : decode cX4_axisBehind 4 = .ok (.iconst 3, 1) := by decide +kernel
theorem dX4_axisBehind_5 : decode cX4_axisBehind 5 = .ok (.iload_n 2, 1) := by decide +kernel
theorem dX4_axisBehind_6 : decode cX4_axisBehind 6 = .ok (.imul, 1) := by decide +kernel
theorem dX4_axisBehind_7 : decode cX4_axisBehind 7 = .ok (.iload_n 1, 1) := by decide +kernel
theorem dX4_axisBehind_8 : decode cX4_axisBehind 8 = .ok (.iload_n 3, 1) := by decide +kernel
theorem dX4_axisBehind_9 : decode cX4_axisBehind 9 = .ok (.invokestatic 32, 3) := by decide +kernel
theorem dX4_axisBehind_12 : decode cX4_axisBehind 12 = .ok (.iadd, 1) := by decide +kernel
theorem dX4_axisBehind_13 : decode cX4_axisBehind 13 = .ok (.iaload, 1) := by decide +kernel
theorem dX4_axisBehind_14 : decode cX4_axisBehind 14 = .ok (.istore 4, 2) := by decide +kernel
theorem dX4_axisBehind_16 : decode cX4_axisBehind 16 = .ok (.iload_n 1, 1) := by decide +kernel
theorem dX4_axisBehind_17 : decode cX4_axisBehind 17 = .ok (.iload_n 3, 1) := by decide +kernel
theorem dX4_axisBehind_18 : decode cX4_axisBehind 18 = .ok (.invokestatic 38, 3) := by decide +kernel
theorem dX4_axisBehind_21 : decode cX4_axisBehind 21 = .ok (.ifCond .ne 8, 3) := by decide +kernel
theorem dX4_axisBehind_24 : decode cX4_axisBehind 24 = .ok (.iload 4, 2) := by decide +kernel
theorem dX4_axisBehind_26 : decode cX4_axisBehind 26 = .ok (.goto 6, 3) := by decide +kernel
theorem dX4_axisBehind_29 : decode cX4_axisBehind 29 = .ok (.iload 4, 2) := by decide +kernel
theorem dX4_axisBehind_31 : decode cX4_axisBehind 31 = .ok (.ineg, 1) := by decide +kernel
theorem dX4_axisBehind_32 : decode cX4_axisBehind 32 = .ok (.ireturn, 1) := by decide +kernel
theorem dX4_pointBehind_0 : decode cX4_pointBehind 0 = .ok (.aload_n 0, 1) := by decide +kernel
theorem dX4_pointBehind_1 : decode cX4_pointBehind 1 = .ok (.aload_n 0, 1) := by decide +kernel
theorem dX4_pointBehind_2 : decode cX4_pointBehind 2 = .ok (.iload_n 1, 1) := by decide +kernel
theorem dX4_pointBehind_3 : decode cX4_pointBehind 3 = .ok (.iload_n 2, 1) := by decide +kernel
theorem dX4_pointBehind_4 : decode cX4_pointBehind 4 = .ok (.iconst 0, 1) := by decide +kernel
theorem dX4_pointBehind_5 : decode cX4_pointBehind 5 = .ok (.invokevirtual 41, 3) := by decide +kernel
theorem dX4_pointBehind_8 : decode cX4_pointBehind 8 = .ok (.aload_n 0, 1) := by decide +kernel
theorem dX4_pointBehind_9 : decode cX4_pointBehind 9 = .ok (.iload_n 1, 1) := by decide +kernel
theorem dX4_pointBehind_10 : decode cX4_pointBehind 10 = .ok (.iload_n 2, 1) := by decide +kernel
theorem dX4_pointBehind_11 : decode cX4_pointBehind 11 = .ok (.iconst 1, 1) := by decide +kernel
theorem dX4_pointBehind_12 : decode cX4_pointBehind 12 = .ok (.invokevirtual 41, 3) := by decide +kernel
theorem dX4_pointBehind_15 : decode cX4_pointBehind 15 = .ok (.aload_n 0, 1) := by decide +kernel
theorem dX4_pointBehind_16 : decode cX4_pointBehind 16 = .ok (.iload_n 1, 1) := by decide +kernel
theorem dX4_pointBehind_17 : decode cX4_pointBehind 17 = .ok (.iload_n 2, 1) := by decide +kernel
theorem dX4_pointBehind_18 : decode cX4_pointBehind 18 = .ok (.iconst 2, 1) := by decide +kernel
theorem dX4_pointBehind_19 : decode cX4_pointBehind 19 = .ok (.invokevirtual 41, 3) := by decide +kernel
theorem dX4_pointBehind_22 : decode cX4_pointBehind 22 = .ok (.invokevirtual 45, 3) := by decide +kernel
theorem dX4_pointBehind_25 : decode cX4_pointBehind 25 = .ok (.ireturn, 1) := by decide +kernel
theorem dX4_isMovedBy_0 : decode cX4_isMovedBy 0 = .ok (.aload_n 0, 1) := by decide +kernel
theorem dX4_isMovedBy_1 : decode cX4_isMovedBy 1 = .ok (.iload_n 1, 1) := by decide +kernel
theorem dX4_isMovedBy_2 : decode cX4_isMovedBy 2 = .ok (.iload_n 2, 1) := by decide +kernel
theorem dX4_isMovedBy_3 : decode cX4_isMovedBy 3 = .ok (.invokevirtual 48, 3) := by decide +kernel
theorem dX4_isMovedBy_6 : decode cX4_isMovedBy 6 = .ok (.istore_n 3, 1) := by decide +kernel
theorem dX4_isMovedBy_7 : decode cX4_isMovedBy 7 = .ok (.iload_n 3, 1) := by decide +kernel
theorem dX4_isMovedBy_8 : decode cX4_isMovedBy 8 = .ok (.bipush (-5), 2) := by decide +kernel
theorem dX4_isMovedBy_10 : decode cX4_isMovedBy 10 = .ok (.if_icmp .eq 18, 3) := by decide +kernel
theorem dX4_isMovedBy_13 : decode cX4_isMovedBy 13 = .ok (.aload_n 0, 1) := by decide +kernel
theorem dX4_isMovedBy_14 : decode cX4_isMovedBy 14 = .ok (.getfield 15, 3) := by decide +kernel
theorem dX4_isMovedBy_17 : decode cX4_isMovedBy 17 = .ok (.iload_n 3, 1) := by decide +kernel
theorem dX4_isMovedBy_18 : decode cX4_isMovedBy 18 = .ok (.iaload, 1) := by decide +kernel
theorem dX4_isMovedBy_19 : decode cX4_isMovedBy 19 = .ok (.aload_n 0, 1) := by decide +kernel
theorem dX4_isMovedBy_20 : decode cX4_isMovedBy 20 = .ok (.getfield 15, 3) := by decide +kernel
theorem dX4_isMovedBy_23 : decode cX4_isMovedBy 23 = .ok (.iload_n 2, 1) := by decide +kernel
theorem dX4_isMovedBy_24 : decode cX4_isMovedBy 24 = .ok (.iaload, 1) := by decide +kernel
theorem dX4_isMovedBy_25 : decode cX4_isMovedBy 25 = .ok (.if_icmp .eq 7, 3) := by decide +kernel
theorem dX4_isMovedBy_28 : decode cX4_isMovedBy 28 = .ok (.iconst 1, 1) := by decide +kernel
theorem dX4_isMovedBy_29 : decode cX4_isMovedBy 29 = .ok (.goto 4, 3) := by decide +kernel
theorem dX4_isMovedBy_32 : decode cX4_isMovedBy 32 = .ok (.iconst 0, 1) := by decide +kernel
theorem dX4_isMovedBy_33 : decode cX4_isMovedBy 33 = .ok (.ireturn, 1) := by decide +kernel
theorem dX4_movedBy_0 : decode cX4_movedBy 0 = .ok (.iconst 0, 1) := by decide +kernel
theorem dX4_movedBy_1 : decode cX4_movedBy 1 = .ok (.istore_n 2, 1) := by decide +kernel
theorem dX4_movedBy_2 : decode cX4_movedBy 2 = .ok (.iconst 0, 1) := by decide +kernel
theorem dX4_movedBy_3 : decode cX4_movedBy 3 = .ok (.istore_n 3, 1) := by decide +kernel
theorem dX4_movedBy_4 : decode cX4_movedBy 4 = .ok (.iload_n 3, 1) := by decide +kernel
theorem dX4_movedBy_5 : decode cX4_movedBy 5 = .ok (.aload_n 0, 1) := by decide +kernel
theorem dX4_movedBy_6 : decode cX4_movedBy 6 = .ok (.getfield 18, 3) := by decide +kernel
theorem dX4_movedBy_9 : decode cX4_movedBy 9 = .ok (.if_icmp .ge 21, 3) := by decide +kernel
theorem dX4_movedBy_12 : decode cX4_movedBy 12 = .ok (.aload_n 0, 1) := by decide +kernel
theorem dX4_movedBy_13 : decode cX4_movedBy 13 = .ok (.iload_n 1, 1) := by decide +kernel
theorem dX4_movedBy_14 : decode cX4_movedBy 14 = .ok (.iload_n 3, 1) := by decide +kernel
theorem dX4_movedBy_15 : decode cX4_movedBy 15 = .ok (.invokevirtual 51, 3) := by decide +kernel
theorem dX4_movedBy_18 : decode cX4_movedBy 18 = .ok (.ifCond .eq 6, 3) := by decide +kernel
theorem dX4_movedBy_21 : decode cX4_movedBy 21 = .ok (.iinc 2 1, 3) := by decide +kernel
theorem dX4_movedBy_24 : decode cX4_movedBy 24 = .ok (.iinc 3 1, 3) := by decide +kernel
theorem dX4_movedBy_27 : decode cX4_movedBy 27 = .ok (.goto (-23), 3) := by decide +kernel
theorem dX4_movedBy_30 : decode cX4_movedBy 30 = .ok (.iload_n 2, 1) := by decide +kernel
theorem dX4_movedBy_31 : decode cX4_movedBy 31 = .ok (.ireturn, 1) := by decide +kernel
theorem dX4_isKeptBy_0 : decode cX4_isKeptBy 0 = .ok (.iconst 0, 1) := by decide +kernel
theorem dX4_isKeptBy_1 : decode cX4_isKeptBy 1 = .ok (.istore_n 2, 1) := by decide +kernel
theorem dX4_isKeptBy_2 : decode cX4_isKeptBy 2 = .ok (.iload_n 2, 1) := by decide +kernel
theorem dX4_isKeptBy_3 : decode cX4_isKeptBy 3 = .ok (.aload_n 0, 1) := by decide +kernel
theorem dX4_isKeptBy_4 : decode cX4_isKeptBy 4 = .ok (.getfield 18, 3) := by decide +kernel
theorem dX4_isKeptBy_7 : decode cX4_isKeptBy 7 = .ok (.if_icmp .ge 20, 3) := by decide +kernel
theorem dX4_isKeptBy_10 : decode cX4_isKeptBy 10 = .ok (.aload_n 0, 1) := by decide +kernel
theorem dX4_isKeptBy_11 : decode cX4_isKeptBy 11 = .ok (.iload_n 1, 1) := by decide +kernel
theorem dX4_isKeptBy_12 : decode cX4_isKeptBy 12 = .ok (.iload_n 2, 1) := by decide +kernel
theorem dX4_isKeptBy_13 : decode cX4_isKeptBy 13 = .ok (.invokevirtual 51, 3) := by decide +kernel
theorem dX4_isKeptBy_16 : decode cX4_isKeptBy 16 = .ok (.ifCond .eq 5, 3) := by decide +kernel
theorem dX4_isKeptBy_19 : decode cX4_isKeptBy 19 = .ok (.iconst 0, 1) := by decide +kernel
theorem dX4_isKeptBy_20 : decode cX4_isKeptBy 20 = .ok (.ireturn, 1) := by decide +kernel
theorem dX4_isKeptBy_21 : decode cX4_isKeptBy 21 = .ok (.iinc 2 1, 3) := by decide +kernel
theorem dX4_isKeptBy_24 : decode cX4_isKeptBy 24 = .ok (.goto (-22), 3) := by decide +kernel
theorem dX4_isKeptBy_27 : decode cX4_isKeptBy 27 = .ok (.iconst 1, 1) := by decide +kernel
theorem dX4_isKeptBy_28 : decode cX4_isKeptBy 28 = .ok (.ireturn, 1) := by decide +kernel
theorem dX4_keepers_0 : decode cX4_keepers 0 = .ok (.iconst 0, 1) := by decide +kernel
theorem dX4_keepers_1 : decode cX4_keepers 1 = .ok (.istore_n 1, 1) := by decide +kernel
theorem dX4_keepers_2 : decode cX4_keepers 2 = .ok (.iconst 0, 1) := by decide +kernel
theorem dX4_keepers_3 : decode cX4_keepers 3 = .ok (.istore_n 2, 1) := by decide +kernel
theorem dX4_keepers_4 : decode cX4_keepers 4 = .ok (.iload_n 2, 1) := by decide +kernel
theorem dX4_keepers_5 : decode cX4_keepers 5 = .ok (.bipush 48, 2) := by decide +kernel
theorem dX4_keepers_7 : decode cX4_keepers 7 = .ok (.if_icmp .ge 20, 3) := by decide +kernel
theorem dX4_keepers_10 : decode cX4_keepers 10 = .ok (.aload_n 0, 1) := by decide +kernel
theorem dX4_keepers_11 : decode cX4_keepers 11 = .ok (.iload_n 2, 1) := by decide +kernel
theorem dX4_keepers_12 : decode cX4_keepers 12 = .ok (.invokevirtual 55, 3) := by decide +kernel
theorem dX4_keepers_15 : decode cX4_keepers 15 = .ok (.ifCond .eq 6, 3) := by decide +kernel
theorem dX4_keepers_18 : decode cX4_keepers 18 = .ok (.iinc 1 1, 3) := by decide +kernel
theorem dX4_keepers_21 : decode cX4_keepers 21 = .ok (.iinc 2 1, 3) := by decide +kernel
theorem dX4_keepers_24 : decode cX4_keepers 24 = .ok (.goto (-20), 3) := by decide +kernel
theorem dX4_keepers_27 : decode cX4_keepers 27 = .ok (.iload_n 1, 1) := by decide +kernel
theorem dX4_keepers_28 : decode cX4_keepers 28 = .ok (.ireturn, 1) := by decide +kernel
theorem dX4_happen_0 : decode cX4_happen 0 = .ok (.iload_n 1, 1) := by decide +kernel
theorem dX4_happen_1 : decode cX4_happen 1 = .ok (.tableswitch 59 0 2 #[27, 43, 51], 27) := by decide +kernel
theorem dX4_happen_28 : decode cX4_happen 28 = .ok (.iload_n 2, 1) := by decide +kernel
theorem dX4_happen_29 : decode cX4_happen 29 = .ok (.aload_n 0, 1) := by decide +kernel
theorem dX4_happen_30 : decode cX4_happen 30 = .ok (.getfield 18, 3) := by decide +kernel
theorem dX4_happen_33 : decode cX4_happen 33 = .ok (.if_icmp .ge 32, 3) := by decide +kernel
theorem dX4_happen_36 : decode cX4_happen 36 = .ok (.aload_n 0, 1) := by decide +kernel
theorem dX4_happen_37 : decode cX4_happen 37 = .ok (.iload_n 2, 1) := by decide +kernel
theorem dX4_happen_38 : decode cX4_happen 38 = .ok (.invokevirtual 59, 3) := by decide +kernel
theorem dX4_happen_41 : decode cX4_happen 41 = .ok (.goto 24, 3) := by decide +kernel
theorem dX4_happen_44 : decode cX4_happen 44 = .ok (.aload_n 0, 1) := by decide +kernel
theorem dX4_happen_45 : decode cX4_happen 45 = .ok (.iload_n 2, 1) := by decide +kernel
theorem dX4_happen_46 : decode cX4_happen 46 = .ok (.invokevirtual 63, 3) := by decide +kernel
theorem dX4_happen_49 : decode cX4_happen 49 = .ok (.goto 16, 3) := by decide +kernel
theorem dX4_happen_52 : decode cX4_happen 52 = .ok (.aload_n 0, 1) := by decide +kernel
theorem dX4_happen_53 : decode cX4_happen 53 = .ok (.iload_n 2, 1) := by decide +kernel
theorem dX4_happen_54 : decode cX4_happen 54 = .ok (.invokevirtual 66, 3) := by decide +kernel
theorem dX4_happen_57 : decode cX4_happen 57 = .ok (.goto 8, 3) := by decide +kernel
theorem dX4_happen_60 : decode cX4_happen 60 = .ok (.aload_n 0, 1) := by decide +kernel
theorem dX4_happen_61 : decode cX4_happen 61 = .ok (.iload_n 2, 1) := by decide +kernel
theorem dX4_happen_62 : decode cX4_happen 62 = .ok (.invokevirtual 69, 3) := by decide +kernel
theorem dX4_happen_65 : decode cX4_happen 65 = .ok (.return_, 1) := by decide +kernel
theorem dX4_replaceMark_0 : decode cX4_replaceMark 0 = .ok (.iconst 0, 1) := by decide +kernel
theorem dX4_replaceMark_1 : decode cX4_replaceMark 1 = .ok (.istore_n 2, 1) := by decide +kernel
theorem dX4_replaceMark_2 : decode cX4_replaceMark 2 = .ok (.iload_n 2, 1) := by decide +kernel
theorem dX4_replaceMark_3 : decode cX4_replaceMark 3 = .ok (.aload_n 0, 1) := by decide +kernel
theorem dX4_replaceMark_4 : decode cX4_replaceMark 4 = .ok (.getfield 18, 3) := by decide +kernel
theorem dX4_replaceMark_7 : decode cX4_replaceMark 7 = .ok (.if_icmp .ge 26, 3) := by decide +kernel
theorem dX4_replaceMark_10 : decode cX4_replaceMark 10 = .ok (.aload_n 0, 1) := by decide +kernel
theorem dX4_replaceMark_11 : decode cX4_replaceMark 11 = .ok (.getfield 15, 3) := by decide +kernel
theorem dX4_replaceMark_14 : decode cX4_replaceMark 14 = .ok (.iload_n 2, 1) := by decide +kernel
theorem dX4_replaceMark_15 : decode cX4_replaceMark 15 = .ok (.iaload, 1) := by decide +kernel
theorem dX4_replaceMark_16 : decode cX4_replaceMark 16 = .ok (.iload_n 1, 1) := by decide +kernel
theorem dX4_replaceMark_17 : decode cX4_replaceMark 17 = .ok (.if_icmp .ne 10, 3) := by decide +kernel
theorem dX4_replaceMark_20 : decode cX4_replaceMark 20 = .ok (.aload_n 0, 1) := by decide +kernel
theorem dX4_replaceMark_21 : decode cX4_replaceMark 21 = .ok (.getfield 15, 3) := by decide +kernel
theorem dX4_replaceMark_24 : decode cX4_replaceMark 24 = .ok (.iload_n 2, 1) := by decide +kernel
theorem dX4_replaceMark_25 : decode cX4_replaceMark 25 = .ok (.iconst 0, 1) := by decide +kernel
theorem dX4_replaceMark_26 : decode cX4_replaceMark 26 = .ok (.iastore, 1) := by decide +kernel
theorem dX4_replaceMark_27 : decode cX4_replaceMark 27 = .ok (.iinc 2 1, 3) := by decide +kernel
theorem dX4_replaceMark_30 : decode cX4_replaceMark 30 = .ok (.goto (-28), 3) := by decide +kernel
theorem dX4_replaceMark_33 : decode cX4_replaceMark 33 = .ok (.return_, 1) := by decide +kernel
theorem dX4_takeBy_0 : decode cX4_takeBy 0 = .ok (.iconst 0, 1) := by decide +kernel
theorem dX4_takeBy_1 : decode cX4_takeBy 1 = .ok (.istore_n 2, 1) := by decide +kernel
theorem dX4_takeBy_2 : decode cX4_takeBy 2 = .ok (.iload_n 2, 1) := by decide +kernel
theorem dX4_takeBy_3 : decode cX4_takeBy 3 = .ok (.aload_n 0, 1) := by decide +kernel
theorem dX4_takeBy_4 : decode cX4_takeBy 4 = .ok (.getfield 18, 3) := by decide +kernel
theorem dX4_takeBy_7 : decode cX4_takeBy 7 = .ok (.if_icmp .ge 35, 3) := by decide +kernel
theorem dX4_takeBy_10 : decode cX4_takeBy 10 = .ok (.aload_n 0, 1) := by decide +kernel
theorem dX4_takeBy_11 : decode cX4_takeBy 11 = .ok (.iload_n 2, 1) := by decide +kernel
theorem dX4_takeBy_12 : decode cX4_takeBy 12 = .ok (.aload_n 0, 1) := by decide +kernel
theorem dX4_takeBy_13 : decode cX4_takeBy 13 = .ok (.iload_n 1, 1) := by decide +kernel
theorem dX4_takeBy_14 : decode cX4_takeBy 14 = .ok (.iload_n 2, 1) := by decide +kernel
theorem dX4_takeBy_15 : decode cX4_takeBy 15 = .ok (.iconst 0, 1) := by decide +kernel
theorem dX4_takeBy_16 : decode cX4_takeBy 16 = .ok (.invokevirtual 41, 3) := by decide +kernel
theorem dX4_takeBy_19 : decode cX4_takeBy 19 = .ok (.aload_n 0, 1) := by decide +kernel
theorem dX4_takeBy_20 : decode cX4_takeBy 20 = .ok (.iload_n 1, 1) := by decide +kernel
theorem dX4_takeBy_21 : decode cX4_takeBy 21 = .ok (.iload_n 2, 1) := by decide +kernel
theorem dX4_takeBy_22 : decode cX4_takeBy 22 = .ok (.iconst 1, 1) := by decide +kernel
theorem dX4_takeBy_23 : decode cX4_takeBy 23 = .ok (.invokevirtual 41, 3) := by decide +kernel
theorem dX4_takeBy_26 : decode cX4_takeBy 26 = .ok (.aload_n 0, 1) := by decide +kernel
theorem dX4_takeBy_27 : decode cX4_takeBy 27 = .ok (.iload_n 1, 1) := by decide +kernel
theorem dX4_takeBy_28 : decode cX4_takeBy 28 = .ok (.iload_n 2, 1) := by decide +kernel
theorem dX4_takeBy_29 : decode cX4_takeBy 29 = .ok (.iconst 2, 1) := by decide +kernel
theorem dX4_takeBy_30 : decode cX4_takeBy 30 = .ok (.invokevirtual 41, 3) := by decide +kernel
theorem dX4_takeBy_33 : decode cX4_takeBy 33 = .ok (.invokevirtual 28, 3) := by decide +kernel
theorem dX4_takeBy_36 : decode cX4_takeBy 36 = .ok (.iinc 2 1, 3) := by decide +kernel
theorem dX4_takeBy_39 : decode cX4_takeBy 39 = .ok (.goto (-37), 3) := by decide +kernel
theorem dX4_takeBy_42 : decode cX4_takeBy 42 = .ok (.return_, 1) := by decide +kernel
theorem dX4_markAll_0 : decode cX4_markAll 0 = .ok (.iconst 0, 1) := by decide +kernel
theorem dX4_markAll_1 : decode cX4_markAll 1 = .ok (.istore_n 2, 1) := by decide +kernel
theorem dX4_markAll_2 : decode cX4_markAll 2 = .ok (.iload_n 2, 1) := by decide +kernel
theorem dX4_markAll_3 : decode cX4_markAll 3 = .ok (.aload_n 0, 1) := by decide +kernel
theorem dX4_markAll_4 : decode cX4_markAll 4 = .ok (.getfield 18, 3) := by decide +kernel
theorem dX4_markAll_7 : decode cX4_markAll 7 = .ok (.if_icmp .ge 16, 3) := by decide +kernel
theorem dX4_markAll_10 : decode cX4_markAll 10 = .ok (.aload_n 0, 1) := by decide +kernel
theorem dX4_markAll_11 : decode cX4_markAll 11 = .ok (.getfield 15, 3) := by decide +kernel
theorem dX4_markAll_14 : decode cX4_markAll 14 = .ok (.iload_n 2, 1) := by decide +kernel
theorem dX4_markAll_15 : decode cX4_markAll 15 = .ok (.iload_n 1, 1) := by decide +kernel
theorem dX4_markAll_16 : decode cX4_markAll 16 = .ok (.iastore, 1) := by decide +kernel
theorem dX4_markAll_17 : decode cX4_markAll 17 = .ok (.iinc 2 1, 3) := by decide +kernel
theorem dX4_markAll_20 : decode cX4_markAll 20 = .ok (.goto (-18), 3) := by decide +kernel
theorem dX4_markAll_23 : decode cX4_markAll 23 = .ok (.return_, 1) := by decide +kernel
end
section
theorem dX7_init_0 : decode cX7_init 0 = .ok (.aload_n 0, 1) := by decide +kernel
theorem dX7_init_1 : decode cX7_init 1 = .ok (.invokespecial 3, 3) := by decide +kernel
theorem dX7_init_4 : decode cX7_init 4 = .ok (.aload_n 0, 1) := by decide +kernel
theorem dX7_init_5 : decode cX7_init 5 = .ok (.new 9, 3) := by decide +kernel
theorem dX7_init_8 : decode cX7_init 8 = .ok (.dup, 1) := by decide +kernel
theorem dX7_init_9 : decode cX7_init 9 = .ok (.invokespecial 11, 3) := by decide +kernel
theorem dX7_init_12 : decode cX7_init 12 = .ok (.putfield 12, 3) := by decide +kernel
theorem dX7_init_15 : decode cX7_init 15 = .ok (.aload_n 0, 1) := by decide +kernel
theorem dX7_init_16 : decode cX7_init 16 = .ok (.new 9, 3) := by decide +kernel
theorem dX7_init_19 : decode cX7_init 19 = .ok (.dup, 1) := by decide +kernel
theorem dX7_init_20 : decode cX7_init 20 = .ok (.invokespecial 11, 3) := by decide +kernel
theorem dX7_init_23 : decode cX7_init 23 = .ok (.putfield 18, 3) := by decide +kernel
theorem dX7_init_26 : decode cX7_init 26 = .ok (.aload_n 0, 1) := by decide +kernel
theorem dX7_init_27 : decode cX7_init 27 = .ok (.iconst 0, 1) := by decide +kernel
theorem dX7_init_28 : decode cX7_init 28 = .ok (.putfield 21, 3) := by decide +kernel
theorem dX7_init_31 : decode cX7_init 31 = .ok (.aload_n 0, 1) := by decide +kernel
theorem dX7_init_32 : decode cX7_init 32 = .ok (.new 25, 3) := by decide +kernel
theorem dX7_init_35 : decode cX7_init 35 = .ok (.dup, 1) := by decide +kernel
theorem dX7_init_36 : decode cX7_init 36 = .ok (.invokespecial 27, 3) := by decide +kernel
theorem dX7_init_39 : decode cX7_init 39 = .ok (.putfield 28, 3) := by decide +kernel
theorem dX7_init_42 : decode cX7_init 42 = .ok (.aload_n 0, 1) := by decide +kernel
theorem dX7_init_43 : decode cX7_init 43 = .ok (.iconst 1, 1) := by decide +kernel
theorem dX7_init_44 : decode cX7_init 44 = .ok (.putfield 32, 3) := by decide +kernel
theorem dX7_init_47 : decode cX7_init 47 = .ok (.aload_n 0, 1) := by decide +kernel
theorem dX7_init_48 : decode cX7_init 48 = .ok (.new 35, 3) := by decide +kernel
theorem dX7_init_51 : decode cX7_init 51 = .ok (.dup, 1) := by decide +kernel
theorem dX7_init_52 : decode cX7_init 52 = .ok (.invokespecial 37, 3) := by decide +kernel
theorem dX7_init_55 : decode cX7_init 55 = .ok (.putfield 38, 3) := by decide +kernel
theorem dX7_init_58 : decode cX7_init 58 = .ok (.aload_n 0, 1) := by decide +kernel
theorem dX7_init_59 : decode cX7_init 59 = .ok (.new 25, 3) := by decide +kernel
theorem dX7_init_62 : decode cX7_init 62 = .ok (.dup, 1) := by decide +kernel
theorem dX7_init_63 : decode cX7_init 63 = .ok (.invokespecial 27, 3) := by decide +kernel
theorem dX7_init_66 : decode cX7_init 66 = .ok (.putfield 42, 3) := by decide +kernel
theorem dX7_init_69 : decode cX7_init 69 = .ok (.aload_n 0, 1) := by decide +kernel
theorem dX7_init_70 : decode cX7_init 70 = .ok (.new 45, 3) := by decide +kernel
theorem dX7_init_73 : decode cX7_init 73 = .ok (.dup, 1) := by decide +kernel
theorem dX7_init_74 : decode cX7_init 74 = .ok (.invokespecial 47, 3) := by decide +kernel
theorem dX7_init_77 : decode cX7_init 77 = .ok (.putfield 48, 3) := by decide +kernel
theorem dX7_init_80 : decode cX7_init 80 = .ok (.aload_n 0, 1) := by decide +kernel
theorem dX7_init_81 : decode cX7_init 81 = .ok (.bipush 6, 2) := by decide +kernel
theorem dX7_init_83 : decode cX7_init 83 = .ok (.anewarray 52, 3) := by decide +kernel
theorem dX7_init_86 : decode cX7_init 86 = .ok (.putfield 54, 3) := by decide +kernel
theorem dX7_init_89 : decode cX7_init 89 = .ok (.iconst 0, 1) := by decide +kernel
theorem dX7_init_90 : decode cX7_init 90 = .ok (.istore_n 1, 1) := by decide +kernel
theorem dX7_init_91 : decode cX7_init 91 = .ok (.iload_n 1, 1) := by decide +kernel
theorem dX7_init_92 : decode cX7_init 92 = .ok (.bipush 6, 2) := by decide +kernel
theorem dX7_init_94 : decode cX7_init 94 = .ok (.if_icmp .ge 22, 3) := by decide +kernel
theorem dX7_init_97 : decode cX7_init 97 = .ok (.aload_n 0, 1) := by decide +kernel
theorem dX7_init_98 : decode cX7_init 98 = .ok (.getfield 54, 3) := by decide +kernel
theorem dX7_init_101 : decode cX7_init 101 = .ok (.iload_n 1, 1) := by decide +kernel
theorem dX7_init_102 : decode cX7_init 102 = .ok (.new 52, 3) := by decide +kernel
theorem dX7_init_105 : decode cX7_init 105 = .ok (.dup, 1) := by decide +kernel
theorem dX7_init_106 : decode cX7_init 106 = .ok (.invokespecial 58, 3) := by decide +kernel
theorem dX7_init_109 : decode cX7_init 109 = .ok (.aastore, 1) := by decide +kernel
theorem dX7_init_110 : decode cX7_init 110 = .ok (.iinc 1 1, 3) := by decide +kernel
theorem dX7_init_113 : decode cX7_init 113 = .ok (.goto (-22), 3) := by decide +kernel
theorem dX7_init_116 : decode cX7_init 116 = .ok (.return_, 1) := by decide +kernel
theorem dX7_point_0 : decode cX7_point 0 = .ok (.iload_n 1, 1) := by decide +kernel
theorem dX7_point_1 : decode cX7_point 1 = .ok (.iload_n 2, 1) := by decide +kernel
theorem dX7_point_2 : decode cX7_point 2 = .ok (.iload_n 3, 1) := by decide +kernel
theorem dX7_point_3 : decode cX7_point 3 = .ok (.invokestatic 59, 3) := by decide +kernel
theorem dX7_point_6 : decode cX7_point 6 = .ok (.ifCond .eq 11, 3) := by decide +kernel
theorem dX7_point_9 : decode cX7_point 9 = .ok (.iload 4, 2) := by decide +kernel
theorem dX7_point_11 : decode cX7_point 11 = .ok (.invokestatic 63, 3) := by decide +kernel
theorem dX7_point_14 : decode cX7_point 14 = .ok (.ifCond .ne 6, 3) := by decide +kernel
theorem dX7_point_17 : decode cX7_point 17 = .ok (.bipush (-2), 2) := by decide +kernel
theorem dX7_point_19 : decode cX7_point 19 = .ok (.ireturn, 1) := by decide +kernel
theorem dX7_point_20 : decode cX7_point 20 = .ok (.aload_n 0, 1) := by decide +kernel
theorem dX7_point_21 : decode cX7_point 21 = .ok (.getfield 12, 3) := by decide +kernel
theorem dX7_point_24 : decode cX7_point 24 = .ok (.getfield 67, 3) := by decide +kernel
theorem dX7_point_27 : decode cX7_point 27 = .ok (.iload_n 1, 1) := by decide +kernel
theorem dX7_point_28 : decode cX7_point 28 = .ok (.iload_n 2, 1) := by decide +kernel
theorem dX7_point_29 : decode cX7_point 29 = .ok (.iload_n 3, 1) := by decide +kernel
theorem dX7_point_30 : decode cX7_point 30 = .ok (.invokevirtual 70, 3) := by decide +kernel
theorem dX7_point_33 : decode cX7_point 33 = .ok (.bipush (-5), 2) := by decide +kernel
theorem dX7_point_35 : decode cX7_point 35 = .ok (.if_icmp .eq 6, 3) := by decide +kernel
theorem dX7_point_38 : decode cX7_point 38 = .ok (.bipush (-3), 2) := by decide +kernel
theorem dX7_point_40 : decode cX7_point 40 = .ok (.ireturn, 1) := by decide +kernel
theorem dX7_point_41 : decode cX7_point 41 = .ok (.aload_n 0, 1) := by decide +kernel
theorem dX7_point_42 : decode cX7_point 42 = .ok (.getfield 12, 3) := by decide +kernel
theorem dX7_point_45 : decode cX7_point 45 = .ok (.getfield 67, 3) := by decide +kernel
theorem dX7_point_48 : decode cX7_point 48 = .ok (.getfield 74, 3) := by decide +kernel
theorem dX7_point_51 : decode cX7_point 51 = .ok (.bipush 8, 2) := by decide +kernel
theorem dX7_point_53 : decode cX7_point 53 = .ok (.if_icmp .ne 6, 3) := by decide +kernel
theorem dX7_point_56 : decode cX7_point 56 = .ok (.bipush (-4), 2) := by decide +kernel
theorem dX7_point_58 : decode cX7_point 58 = .ok (.ireturn, 1) := by decide +kernel
theorem dX7_point_59 : decode cX7_point 59 = .ok (.aload_n 0, 1) := by decide +kernel
theorem dX7_point_60 : decode cX7_point 60 = .ok (.iconst 1, 1) := by decide +kernel
theorem dX7_point_61 : decode cX7_point 61 = .ok (.putfield 32, 3) := by decide +kernel
theorem dX7_point_64 : decode cX7_point 64 = .ok (.aload_n 0, 1) := by decide +kernel
theorem dX7_point_65 : decode cX7_point 65 = .ok (.getfield 12, 3) := by decide +kernel
theorem dX7_point_68 : decode cX7_point 68 = .ok (.getfield 67, 3) := by decide +kernel
theorem dX7_point_71 : decode cX7_point 71 = .ok (.iload_n 1, 1) := by decide +kernel
theorem dX7_point_72 : decode cX7_point 72 = .ok (.iload_n 2, 1) := by decide +kernel
theorem dX7_point_73 : decode cX7_point 73 = .ok (.iload_n 3, 1) := by decide +kernel
theorem dX7_point_74 : decode cX7_point 74 = .ok (.iload 4, 2) := by decide +kernel
theorem dX7_point_76 : decode cX7_point 76 = .ok (.invokevirtual 78, 3) := by decide +kernel
theorem dX7_point_79 : decode cX7_point 79 = .ok (.ireturn, 1) := by decide +kernel
theorem dX7_mark_0 : decode cX7_mark 0 = .ok (.aload_n 0, 1) := by decide +kernel
theorem dX7_mark_1 : decode cX7_mark 1 = .ok (.iload_n 1, 1) := by decide +kernel
theorem dX7_mark_2 : decode cX7_mark 2 = .ok (.invokevirtual 82, 3) := by decide +kernel
theorem dX7_mark_5 : decode cX7_mark 5 = .ok (.ifCond .ne 5, 3) := by decide +kernel
theorem dX7_mark_8 : decode cX7_mark 8 = .ok (.iconst (-1), 1) := by decide +kernel
theorem dX7_mark_9 : decode cX7_mark 9 = .ok (.ireturn, 1) := by decide +kernel
theorem dX7_mark_10 : decode cX7_mark 10 = .ok (.iload_n 2, 1) := by decide +kernel
theorem dX7_mark_11 : decode cX7_mark 11 = .ok (.invokestatic 63, 3) := by decide +kernel
theorem dX7_mark_14 : decode cX7_mark 14 = .ok (.ifCond .ne 6, 3) := by decide +kernel
theorem dX7_mark_17 : decode cX7_mark 17 = .ok (.bipush (-2), 2) := by decide +kernel
theorem dX7_mark_19 : decode cX7_mark 19 = .ok (.ireturn, 1) := by decide +kernel
theorem dX7_mark_20 : decode cX7_mark 20 = .ok (.aload_n 0, 1) := by decide +kernel
theorem dX7_mark_21 : decode cX7_mark 21 = .ok (.getfield 12, 3) := by decide +kernel
theorem dX7_mark_24 : decode cX7_mark 24 = .ok (.getfield 67, 3) := by decide +kernel
theorem dX7_mark_27 : decode cX7_mark 27 = .ok (.getfield 85, 3) := by decide +kernel
theorem dX7_mark_30 : decode cX7_mark 30 = .ok (.iload_n 1, 1) := by decide +kernel
theorem dX7_mark_31 : decode cX7_mark 31 = .ok (.iaload, 1) := by decide +kernel
theorem dX7_mark_32 : decode cX7_mark 32 = .ok (.istore_n 3, 1) := by decide +kernel
theorem dX7_mark_33 : decode cX7_mark 33 = .ok (.aload_n 0, 1) := by decide +kernel
theorem dX7_mark_34 : decode cX7_mark 34 = .ok (.getfield 12, 3) := by decide +kernel
theorem dX7_mark_37 : decode cX7_mark 37 = .ok (.getfield 67, 3) := by decide +kernel
theorem dX7_mark_40 : decode cX7_mark 40 = .ok (.getfield 85, 3) := by decide +kernel
theorem dX7_mark_43 : decode cX7_mark 43 = .ok (.iload_n 1, 1) := by decide +kernel
theorem dX7_mark_44 : decode cX7_mark 44 = .ok (.iload_n 2, 1) := by decide +kernel
theorem dX7_mark_45 : decode cX7_mark 45 = .ok (.iastore, 1) := by decide +kernel
theorem dX7_mark_46 : decode cX7_mark 46 = .ok (.aload_n 0, 1) := by decide +kernel
theorem dX7_mark_47 : decode cX7_mark 47 = .ok (.iconst 1, 1) := by decide +kernel
theorem dX7_mark_48 : decode cX7_mark 48 = .ok (.putfield 32, 3) := by decide +kernel
theorem dX7_mark_51 : decode cX7_mark 51 = .ok (.iload_n 3, 1) := by decide +kernel
theorem dX7_mark_52 : decode cX7_mark 52 = .ok (.ireturn, 1) := by decide +kernel
theorem dX7_drop_0 : decode cX7_drop 0 = .ok (.aload_n 0, 1) := by decide +kernel
theorem dX7_drop_1 : decode cX7_drop 1 = .ok (.iload_n 1, 1) := by decide +kernel
theorem dX7_drop_2 : decode cX7_drop 2 = .ok (.invokevirtual 82, 3) := by decide +kernel
theorem dX7_drop_5 : decode cX7_drop 5 = .ok (.ifCond .ne 5, 3) := by decide +kernel
theorem dX7_drop_8 : decode cX7_drop 8 = .ok (.iconst (-1), 1) := by decide +kernel
theorem dX7_drop_9 : decode cX7_drop 9 = .ok (.ireturn, 1) := by decide +kernel
theorem dX7_drop_10 : decode cX7_drop 10 = .ok (.aload_n 0, 1) := by decide +kernel
theorem dX7_drop_11 : decode cX7_drop 11 = .ok (.getfield 12, 3) := by decide +kernel
theorem dX7_drop_14 : decode cX7_drop 14 = .ok (.getfield 67, 3) := by decide +kernel
theorem dX7_drop_17 : decode cX7_drop 17 = .ok (.iload_n 1, 1) := by decide +kernel
theorem dX7_drop_18 : decode cX7_drop 18 = .ok (.invokevirtual 89, 3) := by decide +kernel
theorem dX7_drop_21 : decode cX7_drop 21 = .ok (.aload_n 0, 1) := by decide +kernel
theorem dX7_drop_22 : decode cX7_drop 22 = .ok (.iconst 1, 1) := by decide +kernel
theorem dX7_drop_23 : decode cX7_drop 23 = .ok (.putfield 32, 3) := by decide +kernel
theorem dX7_drop_26 : decode cX7_drop 26 = .ok (.aload_n 0, 1) := by decide +kernel
theorem dX7_drop_27 : decode cX7_drop 27 = .ok (.getfield 12, 3) := by decide +kernel
theorem dX7_drop_30 : decode cX7_drop 30 = .ok (.getfield 67, 3) := by decide +kernel
theorem dX7_drop_33 : decode cX7_drop 33 = .ok (.getfield 74, 3) := by decide +kernel
theorem dX7_drop_36 : decode cX7_drop 36 = .ok (.ireturn, 1) := by decide +kernel
theorem dX7_of_0 : decode cX7_of 0 = .ok (.aload_n 0, 1) := by decide +kernel
theorem dX7_of_1 : decode cX7_of 1 = .ok (.iload_n 1, 1) := by decide +kernel
theorem dX7_of_2 : decode cX7_of 2 = .ok (.invokevirtual 82, 3) := by decide +kernel
theorem dX7_of_5 : decode cX7_of 5 = .ok (.ifCond .eq 12, 3) := by decide +kernel
theorem dX7_of_8 : decode cX7_of 8 = .ok (.iload_n 2, 1) := by decide +kernel
theorem dX7_of_9 : decode cX7_of 9 = .ok (.ifCond .lt 8, 3) := by decide +kernel
theorem dX7_of_12 : decode cX7_of 12 = .ok (.iload_n 2, 1) := by decide +kernel
theorem dX7_of_13 : decode cX7_of 13 = .ok (.iconst 4, 1) := by decide +kernel
theorem dX7_of_14 : decode cX7_of 14 = .ok (.if_icmp .le 6, 3) := by decide +kernel
theorem dX7_of_17 : decode cX7_of 17 = .ok (.bipush (-9), 2) := by decide +kernel
theorem dX7_of_19 : decode cX7_of 19 = .ok (.ireturn, 1) := by decide +kernel
theorem dX7_of_20 : decode cX7_of 20 = .ok (.iload_n 2, 1) := by decide +kernel
theorem dX7_of_21 : decode cX7_of 21 = .ok (.iconst 4, 1) := by decide +kernel
theorem dX7_of_22 : decode cX7_of 22 = .ok (.if_icmp .ne 13, 3) := by decide +kernel
theorem dX7_of_25 : decode cX7_of 25 = .ok (.aload_n 0, 1) := by decide +kernel
theorem dX7_of_26 : decode cX7_of 26 = .ok (.invokevirtual 93, 3) := by decide +kernel
theorem dX7_of_29 : decode cX7_of 29 = .ok (.getfield 97, 3) := by decide +kernel
theorem dX7_of_32 : decode cX7_of 32 = .ok (.iload_n 1, 1) := by decide +kernel
theorem dX7_of_33 : decode cX7_of 33 = .ok (.iaload, 1) := by decide +kernel
theorem dX7_of_34 : decode cX7_of 34 = .ok (.ireturn, 1) := by decide +kernel
theorem dX7_of_35 : decode cX7_of 35 = .ok (.iload_n 2, 1) := by decide +kernel
theorem dX7_of_36 : decode cX7_of 36 = .ok (.iconst 3, 1) := by decide +kernel
theorem dX7_of_37 : decode cX7_of 37 = .ok (.if_icmp .ne 18, 3) := by decide +kernel
theorem dX7_of_40 : decode cX7_of 40 = .ok (.aload_n 0, 1) := by decide +kernel
theorem dX7_of_41 : decode cX7_of 41 = .ok (.getfield 12, 3) := by decide +kernel
theorem dX7_of_44 : decode cX7_of 44 = .ok (.getfield 67, 3) := by decide +kernel
theorem dX7_of_47 : decode cX7_of 47 = .ok (.getfield 85, 3) := by decide +kernel
theorem dX7_of_50 : decode cX7_of 50 = .ok (.iload_n 1, 1) := by decide +kernel
theorem dX7_of_51 : decode cX7_of 51 = .ok (.iaload, 1) := by decide +kernel
theorem dX7_of_52 : decode cX7_of 52 = .ok (.goto 19, 3) := by decide +kernel
theorem dX7_of_55 : decode cX7_of 55 = .ok (.aload_n 0, 1) := by decide +kernel
theorem dX7_of_56 : decode cX7_of 56 = .ok (.getfield 12, 3) := by decide +kernel
theorem dX7_of_59 : decode cX7_of 59 = .ok (.getfield 67, 3) := by decide +kernel
theorem dX7_of_62 : decode cX7_of 62 = .ok (.getfield 100, 3) := by decide +kernel
theorem dX7_of_65 : decode cX7_of 65 = .ok (.iconst 3, 1) := by decide +kernel
theorem dX7_of_66 : decode cX7_of 66 = .ok (.iload_n 1, 1) := by decide +kernel
theorem dX7_of_67 : decode cX7_of 67 = .ok (.imul, 1) := by decide +kernel
theorem dX7_of_68 : decode cX7_of 68 = .ok (.iload_n 2, 1) := by decide +kernel
theorem dX7_of_69 : decode cX7_of 69 = .ok (.iadd, 1) := by decide +kernel
theorem dX7_of_70 : decode cX7_of 70 = .ok (.iaload, 1) := by decide +kernel
theorem dX7_of_71 : decode cX7_of 71 = .ok (.ireturn, 1) := by decide +kernel
theorem dX7_at_0 : decode cX7_at 0 = .ok (.iload_n 1, 1) := by decide +kernel
theorem dX7_at_1 : decode cX7_at 1 = .ok (.iload_n 2, 1) := by decide +kernel
theorem dX7_at_2 : decode cX7_at 2 = .ok (.iload_n 3, 1) := by decide +kernel
theorem dX7_at_3 : decode cX7_at 3 = .ok (.invokestatic 59, 3) := by decide +kernel
theorem dX7_at_6 : decode cX7_at 6 = .ok (.ifCond .eq 19, 3) := by decide +kernel
theorem dX7_at_9 : decode cX7_at 9 = .ok (.aload_n 0, 1) := by decide +kernel
theorem dX7_at_10 : decode cX7_at 10 = .ok (.getfield 12, 3) := by decide +kernel
theorem dX7_at_13 : decode cX7_at 13 = .ok (.getfield 67, 3) := by decide +kernel
theorem dX7_at_16 : decode cX7_at 16 = .ok (.iload_n 1, 1) := by decide +kernel
theorem dX7_at_17 : decode cX7_at 17 = .ok (.iload_n 2, 1) := by decide +kernel
theorem dX7_at_18 : decode cX7_at 18 = .ok (.iload_n 3, 1) := by decide +kernel
theorem dX7_at_19 : decode cX7_at 19 = .ok (.invokevirtual 70, 3) := by decide +kernel
theorem dX7_at_22 : decode cX7_at 22 = .ok (.goto 5, 3) := by decide +kernel
theorem dX7_at_25 : decode cX7_at 25 = .ok (.bipush (-2), 2) := by decide +kernel
theorem dX7_at_27 : decode cX7_at 27 = .ok (.ireturn, 1) := by decide +kernel
theorem dX7_feed_0 : decode cX7_feed 0 = .ok (.iload_n 1, 1) := by decide +kernel
theorem dX7_feed_1 : decode cX7_feed 1 = .ok (.ifCond .lt 9, 3) := by decide +kernel
theorem dX7_feed_4 : decode cX7_feed 4 = .ok (.iload_n 1, 1) := by decide +kernel
theorem dX7_feed_5 : decode cX7_feed 5 = .ok (.bipush 127, 2) := by decide +kernel
theorem dX7_feed_7 : decode cX7_feed 7 = .ok (.if_icmp .le 6, 3) := by decide +kernel
theorem dX7_feed_10 : decode cX7_feed 10 = .ok (.bipush (-2), 2) := by decide +kernel
theorem dX7_feed_12 : decode cX7_feed 12 = .ok (.ireturn, 1) := by decide +kernel
theorem dX7_feed_13 : decode cX7_feed 13 = .ok (.aload_n 0, 1) := by decide +kernel
theorem dX7_feed_14 : decode cX7_feed 14 = .ok (.getfield 48, 3) := by decide +kernel
theorem dX7_feed_17 : decode cX7_feed 17 = .ok (.getfield 103, 3) := by decide +kernel
theorem dX7_feed_20 : decode cX7_feed 20 = .ok (.bipush 100, 2) := by decide +kernel
theorem dX7_feed_22 : decode cX7_feed 22 = .ok (.if_icmp .ne 6, 3) := by decide +kernel
theorem dX7_feed_25 : decode cX7_feed 25 = .ok (.bipush (-4), 2) := by decide +kernel
theorem dX7_feed_27 : decode cX7_feed 27 = .ok (.ireturn, 1) := by decide +kernel
theorem dX7_feed_28 : decode cX7_feed 28 = .ok (.aload_n 0, 1) := by decide +kernel
theorem dX7_feed_29 : decode cX7_feed 29 = .ok (.getfield 48, 3) := by decide +kernel
theorem dX7_feed_32 : decode cX7_feed 32 = .ok (.iload_n 1, 1) := by decide +kernel
theorem dX7_feed_33 : decode cX7_feed 33 = .ok (.invokevirtual 104, 3) := by decide +kernel
theorem dX7_feed_36 : decode cX7_feed 36 = .ok (.ireturn, 1) := by decide +kernel
theorem dX7_read_0 : decode cX7_read 0 = .ok (.aload_n 0, 1) := by decide +kernel
theorem dX7_read_1 : decode cX7_read 1 = .ok (.getfield 48, 3) := by decide +kernel
theorem dX7_read_4 : decode cX7_read 4 = .ok (.invokevirtual 107, 3) := by decide +kernel
theorem dX7_read_7 : decode cX7_read 7 = .ok (.istore_n 1, 1) := by decide +kernel
theorem dX7_read_8 : decode cX7_read 8 = .ok (.aload_n 0, 1) := by decide +kernel
theorem dX7_read_9 : decode cX7_read 9 = .ok (.getfield 48, 3) := by decide +kernel
theorem dX7_read_12 : decode cX7_read 12 = .ok (.iconst 0, 1) := by decide +kernel
theorem dX7_read_13 : decode cX7_read 13 = .ok (.putfield 103, 3) := by decide +kernel
theorem dX7_read_16 : decode cX7_read 16 = .ok (.iload_n 1, 1) := by decide +kernel
theorem dX7_read_17 : decode cX7_read 17 = .ok (.iconst (-1), 1) := by decide +kernel
theorem dX7_read_18 : decode cX7_read 18 = .ok (.if_icmp .eq 8, 3) := by decide +kernel
theorem dX7_read_21 : decode cX7_read 21 = .ok (.bipush (-10), 2) := by decide +kernel
theorem dX7_read_23 : decode cX7_read 23 = .ok (.iload_n 1, 1) := by decide +kernel
theorem dX7_read_24 : decode cX7_read 24 = .ok (.isub, 1) := by decide +kernel
theorem dX7_read_25 : decode cX7_read 25 = .ok (.ireturn, 1) := by decide +kernel
theorem dX7_read_26 : decode cX7_read 26 = .ok (.iconst 0, 1) := by decide +kernel
theorem dX7_read_27 : decode cX7_read 27 = .ok (.istore_n 2, 1) := by decide +kernel
theorem dX7_read_28 : decode cX7_read 28 = .ok (.iconst 0, 1) := by decide +kernel
theorem dX7_read_29 : decode cX7_read 29 = .ok (.istore_n 3, 1) := by decide +kernel
theorem dX7_read_30 : decode cX7_read 30 = .ok (.iload_n 3, 1) := by decide +kernel
theorem dX7_read_31 : decode cX7_read 31 = .ok (.aload_n 0, 1) := by decide +kernel
theorem dX7_read_32 : decode cX7_read 32 = .ok (.getfield 48, 3) := by decide +kernel
theorem dX7_read_35 : decode cX7_read 35 = .ok (.getfield 111, 3) := by decide +kernel
theorem dX7_read_38 : decode cX7_read 38 = .ok (.if_icmp .ge 20, 3) := by decide +kernel
theorem dX7_read_41 : decode cX7_read 41 = .ok (.aload_n 0, 1) := by decide +kernel
theorem dX7_read_42 : decode cX7_read 42 = .ok (.iload_n 3, 1) := by decide +kernel
theorem dX7_read_43 : decode cX7_read 43 = .ok (.invokevirtual 114, 3) := by decide +kernel
theorem dX7_read_46 : decode cX7_read 46 = .ok (.ifCond .eq 6, 3) := by decide +kernel
theorem dX7_read_49 : decode cX7_read 49 = .ok (.iinc 2 1, 3) := by decide +kernel
theorem dX7_read_52 : decode cX7_read 52 = .ok (.iinc 3 1, 3) := by decide +kernel
theorem dX7_read_55 : decode cX7_read 55 = .ok (.goto (-25), 3) := by decide +kernel
theorem dX7_read_58 : decode cX7_read 58 = .ok (.iload_n 2, 1) := by decide +kernel
theorem dX7_read_59 : decode cX7_read 59 = .ok (.ireturn, 1) := by decide +kernel
theorem dX7_doClause_0 : decode cX7_doClause 0 = .ok (.aload_n 0, 1) := by decide +kernel
theorem dX7_doClause_1 : decode cX7_doClause 1 = .ok (.getfield 48, 3) := by decide +kernel
theorem dX7_doClause_4 : decode cX7_doClause 4 = .ok (.iload_n 1, 1) := by decide +kernel
theorem dX7_doClause_5 : decode cX7_doClause 5 = .ok (.iconst 1, 1) := by decide +kernel
theorem dX7_doClause_6 : decode cX7_doClause 6 = .ok (.invokevirtual 117, 3) := by decide +kernel
theorem dX7_doClause_9 : decode cX7_doClause 9 = .ok (.istore_n 2, 1) := by decide +kernel
theorem dX7_doClause_10 : decode cX7_doClause 10 = .ok (.aload_n 0, 1) := by decide +kernel
theorem dX7_doClause_11 : decode cX7_doClause 11 = .ok (.getfield 48, 3) := by decide +kernel
theorem dX7_doClause_14 : decode cX7_doClause 14 = .ok (.iload_n 1, 1) := by decide +kernel
theorem dX7_doClause_15 : decode cX7_doClause 15 = .ok (.iconst 2, 1) := by decide +kernel
theorem dX7_doClause_16 : decode cX7_doClause 16 = .ok (.invokevirtual 117, 3) := by decide +kernel
theorem dX7_doClause_19 : decode cX7_doClause 19 = .ok (.istore_n 3, 1) := by decide +kernel
theorem dX7_doClause_20 : decode cX7_doClause 20 = .ok (.aload_n 0, 1) := by decide +kernel
theorem dX7_doClause_21 : decode cX7_doClause 21 = .ok (.getfield 48, 3) := by decide +kernel
theorem dX7_doClause_24 : decode cX7_doClause 24 = .ok (.iload_n 1, 1) := by decide +kernel
theorem dX7_doClause_25 : decode cX7_doClause 25 = .ok (.iconst 0, 1) := by decide +kernel
theorem dX7_doClause_26 : decode cX7_doClause 26 = .ok (.invokevirtual 117, 3) := by decide +kernel
theorem dX7_doClause_29 : decode cX7_doClause 29 = .ok (.lookupswitch 75 #[(109, 60), (112, 27)], 27) := by decide +kernel
theorem dX7_doClause_56 : decode cX7_doClause 56 = .ok (.aload_n 0, 1) := by decide +kernel
theorem dX7_doClause_57 : decode cX7_doClause 57 = .ok (.iload_n 2, 1) := by decide +kernel
theorem dX7_doClause_58 : decode cX7_doClause 58 = .ok (.iload_n 3, 1) := by decide +kernel
theorem dX7_doClause_59 : decode cX7_doClause 59 = .ok (.aload_n 0, 1) := by decide +kernel
theorem dX7_doClause_60 : decode cX7_doClause 60 = .ok (.getfield 48, 3) := by decide +kernel
theorem dX7_doClause_63 : decode cX7_doClause 63 = .ok (.iload_n 1, 1) := by decide +kernel
theorem dX7_doClause_64 : decode cX7_doClause 64 = .ok (.iconst 3, 1) := by decide +kernel
theorem dX7_doClause_65 : decode cX7_doClause 65 = .ok (.invokevirtual 117, 3) := by decide +kernel
theorem dX7_doClause_68 : decode cX7_doClause 68 = .ok (.aload_n 0, 1) := by decide +kernel
theorem dX7_doClause_69 : decode cX7_doClause 69 = .ok (.getfield 48, 3) := by decide +kernel
theorem dX7_doClause_72 : decode cX7_doClause 72 = .ok (.iload_n 1, 1) := by decide +kernel
theorem dX7_doClause_73 : decode cX7_doClause 73 = .ok (.iconst 4, 1) := by decide +kernel
theorem dX7_doClause_74 : decode cX7_doClause 74 = .ok (.invokevirtual 117, 3) := by decide +kernel
theorem dX7_doClause_77 : decode cX7_doClause 77 = .ok (.invokevirtual 121, 3) := by decide +kernel
theorem dX7_doClause_80 : decode cX7_doClause 80 = .ok (.ifCond .lt 7, 3) := by decide +kernel
theorem dX7_doClause_83 : decode cX7_doClause 83 = .ok (.iconst 1, 1) := by decide +kernel
theorem dX7_doClause_84 : decode cX7_doClause 84 = .ok (.goto 4, 3) := by decide +kernel
theorem dX7_doClause_87 : decode cX7_doClause 87 = .ok (.iconst 0, 1) := by decide +kernel
theorem dX7_doClause_88 : decode cX7_doClause 88 = .ok (.ireturn, 1) := by decide +kernel
theorem dX7_doClause_89 : decode cX7_doClause 89 = .ok (.aload_n 0, 1) := by decide +kernel
theorem dX7_doClause_90 : decode cX7_doClause 90 = .ok (.iload_n 2, 1) := by decide +kernel
theorem dX7_doClause_91 : decode cX7_doClause 91 = .ok (.iload_n 3, 1) := by decide +kernel
theorem dX7_doClause_92 : decode cX7_doClause 92 = .ok (.invokevirtual 124, 3) := by decide +kernel
theorem dX7_doClause_95 : decode cX7_doClause 95 = .ok (.ifCond .lt 7, 3) := by decide +kernel
theorem dX7_doClause_98 : decode cX7_doClause 98 = .ok (.iconst 1, 1) := by decide +kernel
theorem dX7_doClause_99 : decode cX7_doClause 99 = .ok (.goto 4, 3) := by decide +kernel
theorem dX7_doClause_102 : decode cX7_doClause 102 = .ok (.iconst 0, 1) := by decide +kernel
theorem dX7_doClause_103 : decode cX7_doClause 103 = .ok (.ireturn, 1) := by decide +kernel
theorem dX7_doClause_104 : decode cX7_doClause 104 = .ok (.aload_n 0, 1) := by decide +kernel
theorem dX7_doClause_105 : decode cX7_doClause 105 = .ok (.iload_n 2, 1) := by decide +kernel
theorem dX7_doClause_106 : decode cX7_doClause 106 = .ok (.invokevirtual 127, 3) := by decide +kernel
theorem dX7_doClause_109 : decode cX7_doClause 109 = .ok (.ifCond .lt 7, 3) := by decide +kernel
theorem dX7_doClause_112 : decode cX7_doClause 112 = .ok (.iconst 1, 1) := by decide +kernel
theorem dX7_doClause_113 : decode cX7_doClause 113 = .ok (.goto 4, 3) := by decide +kernel
theorem dX7_doClause_116 : decode cX7_doClause 116 = .ok (.iconst 0, 1) := by decide +kernel
theorem dX7_doClause_117 : decode cX7_doClause 117 = .ok (.ireturn, 1) := by decide +kernel
theorem dX7_product_0 : decode cX7_product 0 = .ok (.iload_n 1, 1) := by decide +kernel
theorem dX7_product_1 : decode cX7_product 1 = .ok (.invokestatic 130, 3) := by decide +kernel
theorem dX7_product_4 : decode cX7_product 4 = .ok (.ifCond .eq 18, 3) := by decide +kernel
theorem dX7_product_7 : decode cX7_product 7 = .ok (.iload_n 2, 1) := by decide +kernel
theorem dX7_product_8 : decode cX7_product 8 = .ok (.invokestatic 130, 3) := by decide +kernel
theorem dX7_product_11 : decode cX7_product 11 = .ok (.ifCond .eq 11, 3) := by decide +kernel
theorem dX7_product_14 : decode cX7_product 14 = .ok (.iload_n 1, 1) := by decide +kernel
theorem dX7_product_15 : decode cX7_product 15 = .ok (.iload_n 2, 1) := by decide +kernel
theorem dX7_product_16 : decode cX7_product 16 = .ok (.invokestatic 135, 3) := by decide +kernel
theorem dX7_product_19 : decode cX7_product 19 = .ok (.goto 4, 3) := by decide +kernel
theorem dX7_product_22 : decode cX7_product 22 = .ok (.iconst (-1), 1) := by decide +kernel
theorem dX7_product_23 : decode cX7_product 23 = .ok (.ireturn, 1) := by decide +kernel
theorem dX7_move_0 : decode cX7_move 0 = .ok (.iload_n 1, 1) := by decide +kernel
theorem dX7_move_1 : decode cX7_move 1 = .ok (.invokestatic 130, 3) := by decide +kernel
theorem dX7_move_4 : decode cX7_move 4 = .ok (.ifCond .eq 12, 3) := by decide +kernel
theorem dX7_move_7 : decode cX7_move 7 = .ok (.iload_n 2, 1) := by decide +kernel
theorem dX7_move_8 : decode cX7_move 8 = .ok (.ifCond .lt 8, 3) := by decide +kernel
theorem dX7_move_11 : decode cX7_move 11 = .ok (.iload_n 2, 1) := by decide +kernel
theorem dX7_move_12 : decode cX7_move 12 = .ok (.iconst 3, 1) := by decide +kernel
theorem dX7_move_13 : decode cX7_move 13 = .ok (.if_icmp .le 5, 3) := by decide +kernel
theorem dX7_move_16 : decode cX7_move 16 = .ok (.iconst (-1), 1) := by decide +kernel
theorem dX7_move_17 : decode cX7_move 17 = .ok (.ireturn, 1) := by decide +kernel
theorem dX7_move_18 : decode cX7_move 18 = .ok (.iload_n 2, 1) := by decide +kernel
theorem dX7_move_19 : decode cX7_move 19 = .ok (.tableswitch 55 0 2 #[25, 30, 35], 25) := by decide +kernel
theorem dX7_move_44 : decode cX7_move 44 = .ok (.iload_n 1, 1) := by decide +kernel
theorem dX7_move_45 : decode cX7_move 45 = .ok (.invokestatic 138, 3) := by decide +kernel
theorem dX7_move_48 : decode cX7_move 48 = .ok (.ireturn, 1) := by decide +kernel
theorem dX7_move_49 : decode cX7_move 49 = .ok (.iload_n 1, 1) := by decide +kernel
theorem dX7_move_50 : decode cX7_move 50 = .ok (.invokestatic 141, 3) := by decide +kernel
theorem dX7_move_53 : decode cX7_move 53 = .ok (.ireturn, 1) := by decide +kernel
theorem dX7_move_54 : decode cX7_move 54 = .ok (.aload_n 0, 1) := by decide +kernel
theorem dX7_move_55 : decode cX7_move 55 = .ok (.getfield 12, 3) := by decide +kernel
theorem dX7_move_58 : decode cX7_move 58 = .ok (.getfield 67, 3) := by decide +kernel
theorem dX7_move_61 : decode cX7_move 61 = .ok (.iload_n 1, 1) := by decide +kernel
theorem dX7_move_62 : decode cX7_move 62 = .ok (.invokevirtual 144, 3) := by decide +kernel
theorem dX7_move_65 : decode cX7_move 65 = .ok (.ifCond .eq 7, 3) := by decide +kernel
theorem dX7_move_68 : decode cX7_move 68 = .ok (.iconst 1, 1) := by decide +kernel
theorem dX7_move_69 : decode cX7_move 69 = .ok (.goto 4, 3) := by decide +kernel
theorem dX7_move_72 : decode cX7_move 72 = .ok (.iconst 0, 1) := by decide +kernel
theorem dX7_move_73 : decode cX7_move 73 = .ok (.ireturn, 1) := by decide +kernel
theorem dX7_move_74 : decode cX7_move 74 = .ok (.aload_n 0, 1) := by decide +kernel
theorem dX7_move_75 : decode cX7_move 75 = .ok (.getfield 12, 3) := by decide +kernel
theorem dX7_move_78 : decode cX7_move 78 = .ok (.getfield 67, 3) := by decide +kernel
theorem dX7_move_81 : decode cX7_move 81 = .ok (.iload_n 1, 1) := by decide +kernel
theorem dX7_move_82 : decode cX7_move 82 = .ok (.invokevirtual 147, 3) := by decide +kernel
theorem dX7_move_85 : decode cX7_move 85 = .ok (.ireturn, 1) := by decide +kernel
theorem dX7_trace_0 : decode cX7_trace 0 = .ok (.iload_n 1, 1) := by decide +kernel
theorem dX7_trace_1 : decode cX7_trace 1 = .ok (.invokestatic 130, 3) := by decide +kernel
theorem dX7_trace_4 : decode cX7_trace 4 = .ok (.ifCond .eq 12, 3) := by decide +kernel
theorem dX7_trace_7 : decode cX7_trace 7 = .ok (.iload_n 2, 1) := by decide +kernel
theorem dX7_trace_8 : decode cX7_trace 8 = .ok (.ifCond .lt 8, 3) := by decide +kernel
theorem dX7_trace_11 : decode cX7_trace 11 = .ok (.iload_n 2, 1) := by decide +kernel
theorem dX7_trace_12 : decode cX7_trace 12 = .ok (.iconst 1, 1) := by decide +kernel
theorem dX7_trace_13 : decode cX7_trace 13 = .ok (.if_icmp .le 6, 3) := by decide +kernel
theorem dX7_trace_16 : decode cX7_trace 16 = .ok (.bipush (-9), 2) := by decide +kernel
theorem dX7_trace_18 : decode cX7_trace 18 = .ok (.ireturn, 1) := by decide +kernel
theorem dX7_trace_19 : decode cX7_trace 19 = .ok (.iload_n 2, 1) := by decide +kernel
theorem dX7_trace_20 : decode cX7_trace 20 = .ok (.ifCond .ne 10, 3) := by decide +kernel
theorem dX7_trace_23 : decode cX7_trace 23 = .ok (.iload_n 1, 1) := by decide +kernel
theorem dX7_trace_24 : decode cX7_trace 24 = .ok (.invokestatic 150, 3) := by decide +kernel
theorem dX7_trace_27 : decode cX7_trace 27 = .ok (.goto 7, 3) := by decide +kernel
theorem dX7_trace_30 : decode cX7_trace 30 = .ok (.iload_n 1, 1) := by decide +kernel
theorem dX7_trace_31 : decode cX7_trace 31 = .ok (.invokestatic 153, 3) := by decide +kernel
theorem dX7_trace_34 : decode cX7_trace 34 = .ok (.ireturn, 1) := by decide +kernel
theorem dX7_takes_0 : decode cX7_takes 0 = .ok (.iload_n 1, 1) := by decide +kernel
theorem dX7_takes_1 : decode cX7_takes 1 = .ok (.invokestatic 130, 3) := by decide +kernel
theorem dX7_takes_4 : decode cX7_takes 4 = .ok (.ifCond .eq 26, 3) := by decide +kernel
theorem dX7_takes_7 : decode cX7_takes 7 = .ok (.aload_n 0, 1) := by decide +kernel
theorem dX7_takes_8 : decode cX7_takes 8 = .ok (.iload_n 2, 1) := by decide +kernel
theorem dX7_takes_9 : decode cX7_takes 9 = .ok (.invokevirtual 82, 3) := by decide +kernel
theorem dX7_takes_12 : decode cX7_takes 12 = .ok (.ifCond .eq 18, 3) := by decide +kernel
theorem dX7_takes_15 : decode cX7_takes 15 = .ok (.aload_n 0, 1) := by decide +kernel
theorem dX7_takes_16 : decode cX7_takes 16 = .ok (.getfield 12, 3) := by decide +kernel
theorem dX7_takes_19 : decode cX7_takes 19 = .ok (.getfield 67, 3) := by decide +kernel
theorem dX7_takes_22 : decode cX7_takes 22 = .ok (.iload_n 1, 1) := by decide +kernel
theorem dX7_takes_23 : decode cX7_takes 23 = .ok (.iload_n 2, 1) := by decide +kernel
theorem dX7_takes_24 : decode cX7_takes 24 = .ok (.invokevirtual 156, 3) := by decide +kernel
theorem dX7_takes_27 : decode cX7_takes 27 = .ok (.goto 4, 3) := by decide +kernel
theorem dX7_takes_30 : decode cX7_takes 30 = .ok (.iconst (-1), 1) := by decide +kernel
theorem dX7_takes_31 : decode cX7_takes 31 = .ok (.ireturn, 1) := by decide +kernel
theorem dX7_told_0 : decode cX7_told 0 = .ok (.iload_n 1, 1) := by decide +kernel
theorem dX7_told_1 : decode cX7_told 1 = .ok (.ifCond .lt 9, 3) := by decide +kernel
theorem dX7_told_4 : decode cX7_told 4 = .ok (.iload_n 1, 1) := by decide +kernel
theorem dX7_told_5 : decode cX7_told 5 = .ok (.bipush 7, 2) := by decide +kernel
theorem dX7_told_7 : decode cX7_told 7 = .ok (.if_icmp .le 5, 3) := by decide +kernel
theorem dX7_told_10 : decode cX7_told 10 = .ok (.iconst (-1), 1) := by decide +kernel
theorem dX7_told_11 : decode cX7_told 11 = .ok (.ireturn, 1) := by decide +kernel
theorem dX7_told_12 : decode cX7_told 12 = .ok (.aload_n 0, 1) := by decide +kernel
theorem dX7_told_13 : decode cX7_told 13 = .ok (.invokevirtual 93, 3) := by decide +kernel
theorem dX7_told_16 : decode cX7_told 16 = .ok (.astore_n 2, 1) := by decide +kernel
theorem dX7_told_17 : decode cX7_told 17 = .ok (.iload_n 1, 1) := by decide +kernel
theorem dX7_told_18 : decode cX7_told 18 = .ok (.tableswitch 102 0 6 #[42, 53, 58, 63, 68, 81, 97], 42) := by decide +kernel
theorem dX7_told_60 : decode cX7_told 60 = .ok (.aload_n 0, 1) := by decide +kernel
theorem dX7_told_61 : decode cX7_told 61 = .ok (.getfield 12, 3) := by decide +kernel
theorem dX7_told_64 : decode cX7_told 64 = .ok (.getfield 67, 3) := by decide +kernel
theorem dX7_told_67 : decode cX7_told 67 = .ok (.getfield 74, 3) := by decide +kernel
theorem dX7_told_70 : decode cX7_told 70 = .ok (.ireturn, 1) := by decide +kernel
theorem dX7_told_71 : decode cX7_told 71 = .ok (.aload_n 2, 1) := by decide +kernel
theorem dX7_told_72 : decode cX7_told 72 = .ok (.getfield 159, 3) := by decide +kernel
theorem dX7_told_75 : decode cX7_told 75 = .ok (.ireturn, 1) := by decide +kernel
theorem dX7_told_76 : decode cX7_told 76 = .ok (.aload_n 2, 1) := by decide +kernel
theorem dX7_told_77 : decode cX7_told 77 = .ok (.getfield 160, 3) := by decide +kernel
theorem dX7_told_80 : decode cX7_told 80 = .ok (.ireturn, 1) := by decide +kernel
theorem dX7_told_81 : decode cX7_told 81 = .ok (.aload_n 2, 1) := by decide +kernel
theorem dX7_told_82 : decode cX7_told 82 = .ok (.getfield 163, 3) := by decide +kernel
theorem dX7_told_85 : decode cX7_told 85 = .ok (.ireturn, 1) := by decide +kernel
theorem dX7_told_86 : decode cX7_told 86 = .ok (.aload_n 2, 1) := by decide +kernel
theorem dX7_told_87 : decode cX7_told 87 = .ok (.invokevirtual 166, 3) := by decide +kernel
theorem dX7_told_90 : decode cX7_told 90 = .ok (.ifCond .eq 7, 3) := by decide +kernel
theorem dX7_told_93 : decode cX7_told 93 = .ok (.iconst 1, 1) := by decide +kernel
theorem dX7_told_94 : decode cX7_told 94 = .ok (.goto 4, 3) := by decide +kernel
theorem dX7_told_97 : decode cX7_told 97 = .ok (.iconst 0, 1) := by decide +kernel
theorem dX7_told_98 : decode cX7_told 98 = .ok (.ireturn, 1) := by decide +kernel
theorem dX7_told_99 : decode cX7_told 99 = .ok (.aload_n 2, 1) := by decide +kernel
theorem dX7_told_100 : decode cX7_told 100 = .ok (.getfield 170, 3) := by decide +kernel
theorem dX7_told_103 : decode cX7_told 103 = .ok (.bipush 7, 2) := by decide +kernel
theorem dX7_told_105 : decode cX7_told 105 = .ok (.baload, 1) := by decide +kernel
theorem dX7_told_106 : decode cX7_told 106 = .ok (.ifCond .eq 7, 3) := by decide +kernel
theorem dX7_told_109 : decode cX7_told 109 = .ok (.iconst 1, 1) := by decide +kernel
theorem dX7_told_110 : decode cX7_told 110 = .ok (.goto 4, 3) := by decide +kernel
theorem dX7_told_113 : decode cX7_told 113 = .ok (.iconst 0, 1) := by decide +kernel
theorem dX7_told_114 : decode cX7_told 114 = .ok (.ireturn, 1) := by decide +kernel
theorem dX7_told_115 : decode cX7_told 115 = .ok (.aload_n 2, 1) := by decide +kernel
theorem dX7_told_116 : decode cX7_told 116 = .ok (.invokevirtual 174, 3) := by decide +kernel
theorem dX7_told_119 : decode cX7_told 119 = .ok (.ireturn, 1) := by decide +kernel
theorem dX7_told_120 : decode cX7_told 120 = .ok (.aload_n 0, 1) := by decide +kernel
theorem dX7_told_121 : decode cX7_told 121 = .ok (.aload_n 2, 1) := by decide +kernel
theorem dX7_told_122 : decode cX7_told 122 = .ok (.invokevirtual 177, 3) := by decide +kernel
theorem dX7_told_125 : decode cX7_told 125 = .ok (.ireturn, 1) := by decide +kernel
theorem dX7_nearest_0 : decode cX7_nearest 0 = .ok (.bipush (-5), 2) := by decide +kernel
theorem dX7_nearest_2 : decode cX7_nearest 2 = .ok (.istore_n 2, 1) := by decide +kernel
theorem dX7_nearest_3 : decode cX7_nearest 3 = .ok (.bipush 9, 2) := by decide +kernel
theorem dX7_nearest_5 : decode cX7_nearest 5 = .ok (.istore_n 3, 1) := by decide +kernel
theorem dX7_nearest_6 : decode cX7_nearest 6 = .ok (.iconst 0, 1) := by decide +kernel
theorem dX7_nearest_7 : decode cX7_nearest 7 = .ok (.istore 4, 2) := by decide +kernel
theorem dX7_nearest_9 : decode cX7_nearest 9 = .ok (.iload 4, 2) := by decide +kernel
theorem dX7_nearest_11 : decode cX7_nearest 11 = .ok (.bipush 48, 2) := by decide +kernel
theorem dX7_nearest_13 : decode cX7_nearest 13 = .ok (.if_icmp .ge 45, 3) := by decide +kernel
theorem dX7_nearest_16 : decode cX7_nearest 16 = .ok (.aload_n 1, 1) := by decide +kernel
theorem dX7_nearest_17 : decode cX7_nearest 17 = .ok (.getfield 170, 3) := by decide +kernel
theorem dX7_nearest_20 : decode cX7_nearest 20 = .ok (.iload 4, 2) := by decide +kernel
theorem dX7_nearest_22 : decode cX7_nearest 22 = .ok (.baload, 1) := by decide +kernel
theorem dX7_nearest_23 : decode cX7_nearest 23 = .ok (.ifCond .ne 29, 3) := by decide +kernel
theorem dX7_nearest_26 : decode cX7_nearest 26 = .ok (.aload_n 0, 1) := by decide +kernel
theorem dX7_nearest_27 : decode cX7_nearest 27 = .ok (.getfield 12, 3) := by decide +kernel
theorem dX7_nearest_30 : decode cX7_nearest 30 = .ok (.getfield 67, 3) := by decide +kernel
theorem dX7_nearest_33 : decode cX7_nearest 33 = .ok (.iload 4, 2) := by decide +kernel
theorem dX7_nearest_35 : decode cX7_nearest 35 = .ok (.invokevirtual 147, 3) := by decide +kernel
theorem dX7_nearest_38 : decode cX7_nearest 38 = .ok (.istore 5, 2) := by decide +kernel
theorem dX7_nearest_40 : decode cX7_nearest 40 = .ok (.iload 5, 2) := by decide +kernel
theorem dX7_nearest_42 : decode cX7_nearest 42 = .ok (.iload_n 3, 1) := by decide +kernel
theorem dX7_nearest_43 : decode cX7_nearest 43 = .ok (.if_icmp .ge 9, 3) := by decide +kernel
theorem dX7_nearest_46 : decode cX7_nearest 46 = .ok (.iload 5, 2) := by decide +kernel
theorem dX7_nearest_48 : decode cX7_nearest 48 = .ok (.istore_n 3, 1) := by decide +kernel
theorem dX7_nearest_49 : decode cX7_nearest 49 = .ok (.iload 4, 2) := by decide +kernel
theorem dX7_nearest_51 : decode cX7_nearest 51 = .ok (.istore_n 2, 1) := by decide +kernel
theorem dX7_nearest_52 : decode cX7_nearest 52 = .ok (.iinc 4 1, 3) := by decide +kernel
theorem dX7_nearest_55 : decode cX7_nearest 55 = .ok (.goto (-46), 3) := by decide +kernel
theorem dX7_nearest_58 : decode cX7_nearest 58 = .ok (.iload_n 2, 1) := by decide +kernel
theorem dX7_nearest_59 : decode cX7_nearest 59 = .ok (.ireturn, 1) := by decide +kernel
theorem dX7_group_0 : decode cX7_group 0 = .ok (.iload_n 1, 1) := by decide +kernel
theorem dX7_group_1 : decode cX7_group 1 = .ok (.ifCond .ge 5, 3) := by decide +kernel
theorem dX7_group_4 : decode cX7_group 4 = .ok (.iconst (-1), 1) := by decide +kernel
theorem dX7_group_5 : decode cX7_group 5 = .ok (.ireturn, 1) := by decide +kernel
theorem dX7_group_6 : decode cX7_group 6 = .ok (.aload_n 0, 1) := by decide +kernel
theorem dX7_group_7 : decode cX7_group 7 = .ok (.invokevirtual 93, 3) := by decide +kernel
theorem dX7_group_10 : decode cX7_group 10 = .ok (.astore_n 2, 1) := by decide +kernel
theorem dX7_group_11 : decode cX7_group 11 = .ok (.iload_n 1, 1) := by decide +kernel
theorem dX7_group_12 : decode cX7_group 12 = .ok (.aload_n 2, 1) := by decide +kernel
theorem dX7_group_13 : decode cX7_group 13 = .ok (.getfield 159, 3) := by decide +kernel
theorem dX7_group_16 : decode cX7_group 16 = .ok (.if_icmp .ge 12, 3) := by decide +kernel
theorem dX7_group_19 : decode cX7_group 19 = .ok (.aload_n 2, 1) := by decide +kernel
theorem dX7_group_20 : decode cX7_group 20 = .ok (.getfield 181, 3) := by decide +kernel
theorem dX7_group_23 : decode cX7_group 23 = .ok (.iload_n 1, 1) := by decide +kernel
theorem dX7_group_24 : decode cX7_group 24 = .ok (.iaload, 1) := by decide +kernel
theorem dX7_group_25 : decode cX7_group 25 = .ok (.goto 5, 3) := by decide +kernel
theorem dX7_group_28 : decode cX7_group 28 = .ok (.bipush (-5), 2) := by decide +kernel
theorem dX7_group_30 : decode cX7_group 30 = .ok (.ireturn, 1) := by decide +kernel
theorem dX7_classOf_0 : decode cX7_classOf 0 = .ok (.iload_n 1, 1) := by decide +kernel
theorem dX7_classOf_1 : decode cX7_classOf 1 = .ok (.invokestatic 130, 3) := by decide +kernel
theorem dX7_classOf_4 : decode cX7_classOf 4 = .ok (.ifCond .eq 12, 3) := by decide +kernel
theorem dX7_classOf_7 : decode cX7_classOf 7 = .ok (.iload_n 2, 1) := by decide +kernel
theorem dX7_classOf_8 : decode cX7_classOf 8 = .ok (.ifCond .lt 8, 3) := by decide +kernel
theorem dX7_classOf_11 : decode cX7_classOf 11 = .ok (.iload_n 2, 1) := by decide +kernel
theorem dX7_classOf_12 : decode cX7_classOf 12 = .ok (.iconst 1, 1) := by decide +kernel
theorem dX7_classOf_13 : decode cX7_classOf 13 = .ok (.if_icmp .le 5, 3) := by decide +kernel
theorem dX7_classOf_16 : decode cX7_classOf 16 = .ok (.iconst (-1), 1) := by decide +kernel
theorem dX7_classOf_17 : decode cX7_classOf 17 = .ok (.ireturn, 1) := by decide +kernel
theorem dX7_classOf_18 : decode cX7_classOf 18 = .ok (.aload_n 0, 1) := by decide +kernel
theorem dX7_classOf_19 : decode cX7_classOf 19 = .ok (.invokevirtual 93, 3) := by decide +kernel
theorem dX7_classOf_22 : decode cX7_classOf 22 = .ok (.astore_n 3, 1) := by decide +kernel
theorem dX7_classOf_23 : decode cX7_classOf 23 = .ok (.aload_n 3, 1) := by decide +kernel
theorem dX7_classOf_24 : decode cX7_classOf 24 = .ok (.getfield 170, 3) := by decide +kernel
theorem dX7_classOf_27 : decode cX7_classOf 27 = .ok (.iload_n 1, 1) := by decide +kernel
theorem dX7_classOf_28 : decode cX7_classOf 28 = .ok (.baload, 1) := by decide +kernel
theorem dX7_classOf_29 : decode cX7_classOf 29 = .ok (.ifCond .ne 6, 3) := by decide +kernel
theorem dX7_classOf_32 : decode cX7_classOf 32 = .ok (.bipush (-3), 2) := by decide +kernel
theorem dX7_classOf_34 : decode cX7_classOf 34 = .ok (.ireturn, 1) := by decide +kernel
theorem dX7_classOf_35 : decode cX7_classOf 35 = .ok (.iload_n 2, 1) := by decide +kernel
theorem dX7_classOf_36 : decode cX7_classOf 36 = .ok (.ifCond .ne 12, 3) := by decide +kernel
theorem dX7_classOf_39 : decode cX7_classOf 39 = .ok (.aload_n 3, 1) := by decide +kernel
theorem dX7_classOf_40 : decode cX7_classOf 40 = .ok (.getfield 184, 3) := by decide +kernel
theorem dX7_classOf_43 : decode cX7_classOf 43 = .ok (.iload_n 1, 1) := by decide +kernel
theorem dX7_classOf_44 : decode cX7_classOf 44 = .ok (.iaload, 1) := by decide +kernel
theorem dX7_classOf_45 : decode cX7_classOf 45 = .ok (.goto 8, 3) := by decide +kernel
theorem dX7_classOf_48 : decode cX7_classOf 48 = .ok (.aload_n 3, 1) := by decide +kernel
theorem dX7_classOf_49 : decode cX7_classOf 49 = .ok (.iload_n 1, 1) := by decide +kernel
theorem dX7_classOf_50 : decode cX7_classOf 50 = .ok (.invokevirtual 187, 3) := by decide +kernel
theorem dX7_classOf_53 : decode cX7_classOf 53 = .ok (.ireturn, 1) := by decide +kernel
theorem dX7_classAt_0 : decode cX7_classAt 0 = .ok (.iload_n 1, 1) := by decide +kernel
theorem dX7_classAt_1 : decode cX7_classAt 1 = .ok (.ifCond .ge 5, 3) := by decide +kernel
theorem dX7_classAt_4 : decode cX7_classAt 4 = .ok (.iconst (-1), 1) := by decide +kernel
theorem dX7_classAt_5 : decode cX7_classAt 5 = .ok (.ireturn, 1) := by decide +kernel
theorem dX7_classAt_6 : decode cX7_classAt 6 = .ok (.aload_n 0, 1) := by decide +kernel
theorem dX7_classAt_7 : decode cX7_classAt 7 = .ok (.invokevirtual 93, 3) := by decide +kernel
theorem dX7_classAt_10 : decode cX7_classAt 10 = .ok (.astore_n 2, 1) := by decide +kernel
theorem dX7_classAt_11 : decode cX7_classAt 11 = .ok (.iload_n 1, 1) := by decide +kernel
theorem dX7_classAt_12 : decode cX7_classAt 12 = .ok (.aload_n 2, 1) := by decide +kernel
theorem dX7_classAt_13 : decode cX7_classAt 13 = .ok (.getfield 160, 3) := by decide +kernel
theorem dX7_classAt_16 : decode cX7_classAt 16 = .ok (.if_icmp .ge 12, 3) := by decide +kernel
theorem dX7_classAt_19 : decode cX7_classAt 19 = .ok (.aload_n 2, 1) := by decide +kernel
theorem dX7_classAt_20 : decode cX7_classAt 20 = .ok (.getfield 190, 3) := by decide +kernel
theorem dX7_classAt_23 : decode cX7_classAt 23 = .ok (.iload_n 1, 1) := by decide +kernel
theorem dX7_classAt_24 : decode cX7_classAt 24 = .ok (.iaload, 1) := by decide +kernel
theorem dX7_classAt_25 : decode cX7_classAt 25 = .ok (.goto 5, 3) := by decide +kernel
theorem dX7_classAt_28 : decode cX7_classAt 28 = .ok (.bipush (-5), 2) := by decide +kernel
theorem dX7_classAt_30 : decode cX7_classAt 30 = .ok (.ireturn, 1) := by decide +kernel
theorem dX7_motion_0 : decode cX7_motion 0 = .ok (.iload_n 1, 1) := by decide +kernel
theorem dX7_motion_1 : decode cX7_motion 1 = .ok (.invokestatic 193, 3) := by decide +kernel
theorem dX7_motion_4 : decode cX7_motion 4 = .ok (.ifCond .eq 10, 3) := by decide +kernel
theorem dX7_motion_7 : decode cX7_motion 7 = .ok (.iload_n 2, 1) := by decide +kernel
theorem dX7_motion_8 : decode cX7_motion 8 = .ok (.invokestatic 130, 3) := by decide +kernel
theorem dX7_motion_11 : decode cX7_motion 11 = .ok (.ifCond .ne 7, 3) := by decide +kernel
theorem dX7_motion_14 : decode cX7_motion 14 = .ok (.sipush (-1000), 3) := by decide +kernel
theorem dX7_motion_17 : decode cX7_motion 17 = .ok (.ireturn, 1) := by decide +kernel
theorem dX7_motion_18 : decode cX7_motion 18 = .ok (.aload_n 0, 1) := by decide +kernel
theorem dX7_motion_19 : decode cX7_motion 19 = .ok (.invokevirtual 93, 3) := by decide +kernel
theorem dX7_motion_22 : decode cX7_motion 22 = .ok (.astore_n 3, 1) := by decide +kernel
theorem dX7_motion_23 : decode cX7_motion 23 = .ok (.aload_n 3, 1) := by decide +kernel
theorem dX7_motion_24 : decode cX7_motion 24 = .ok (.getfield 170, 3) := by decide +kernel
theorem dX7_motion_27 : decode cX7_motion 27 = .ok (.iload_n 2, 1) := by decide +kernel
theorem dX7_motion_28 : decode cX7_motion 28 = .ok (.baload, 1) := by decide +kernel
theorem dX7_motion_29 : decode cX7_motion 29 = .ok (.ifCond .eq 12, 3) := by decide +kernel
theorem dX7_motion_32 : decode cX7_motion 32 = .ok (.aload_n 3, 1) := by decide +kernel
theorem dX7_motion_33 : decode cX7_motion 33 = .ok (.iload_n 1, 1) := by decide +kernel
theorem dX7_motion_34 : decode cX7_motion 34 = .ok (.iload_n 2, 1) := by decide +kernel
theorem dX7_motion_35 : decode cX7_motion 35 = .ok (.invokevirtual 196, 3) := by decide +kernel
theorem dX7_motion_38 : decode cX7_motion 38 = .ok (.goto 6, 3) := by decide +kernel
theorem dX7_motion_41 : decode cX7_motion 41 = .ok (.sipush (-1000), 3) := by decide +kernel
theorem dX7_motion_44 : decode cX7_motion 44 = .ok (.ireturn, 1) := by decide +kernel
theorem dX7_sign_0 : decode cX7_sign 0 = .ok (.iload_n 1, 1) := by decide +kernel
theorem dX7_sign_1 : decode cX7_sign 1 = .ok (.ifCond .lt 10, 3) := by decide +kernel
theorem dX7_sign_4 : decode cX7_sign 4 = .ok (.iload_n 2, 1) := by decide +kernel
theorem dX7_sign_5 : decode cX7_sign 5 = .ok (.invokestatic 130, 3) := by decide +kernel
theorem dX7_sign_8 : decode cX7_sign 8 = .ok (.ifCond .ne 5, 3) := by decide +kernel
theorem dX7_sign_11 : decode cX7_sign 11 = .ok (.iconst 0, 1) := by decide +kernel
theorem dX7_sign_12 : decode cX7_sign 12 = .ok (.ireturn, 1) := by decide +kernel
theorem dX7_sign_13 : decode cX7_sign 13 = .ok (.aload_n 0, 1) := by decide +kernel
theorem dX7_sign_14 : decode cX7_sign 14 = .ok (.invokevirtual 93, 3) := by decide +kernel
theorem dX7_sign_17 : decode cX7_sign 17 = .ok (.astore_n 3, 1) := by decide +kernel
theorem dX7_sign_18 : decode cX7_sign 18 = .ok (.aload_n 3, 1) := by decide +kernel
theorem dX7_sign_19 : decode cX7_sign 19 = .ok (.getfield 170, 3) := by decide +kernel
theorem dX7_sign_22 : decode cX7_sign 22 = .ok (.iload_n 2, 1) := by decide +kernel
theorem dX7_sign_23 : decode cX7_sign 23 = .ok (.baload, 1) := by decide +kernel
theorem dX7_sign_24 : decode cX7_sign 24 = .ok (.ifCond .eq 20, 3) := by decide +kernel
theorem dX7_sign_27 : decode cX7_sign 27 = .ok (.iload_n 1, 1) := by decide +kernel
theorem dX7_sign_28 : decode cX7_sign 28 = .ok (.aload_n 3, 1) := by decide +kernel
theorem dX7_sign_29 : decode cX7_sign 29 = .ok (.invokevirtual 174, 3) := by decide +kernel
theorem dX7_sign_32 : decode cX7_sign 32 = .ok (.if_icmp .ge 12, 3) := by decide +kernel
theorem dX7_sign_35 : decode cX7_sign 35 = .ok (.aload_n 3, 1) := by decide +kernel
theorem dX7_sign_36 : decode cX7_sign 36 = .ok (.iload_n 1, 1) := by decide +kernel
theorem dX7_sign_37 : decode cX7_sign 37 = .ok (.iload_n 2, 1) := by decide +kernel
theorem dX7_sign_38 : decode cX7_sign 38 = .ok (.invokevirtual 199, 3) := by decide +kernel
theorem dX7_sign_41 : decode cX7_sign 41 = .ok (.goto 4, 3) := by decide +kernel
theorem dX7_sign_44 : decode cX7_sign 44 = .ok (.iconst 0, 1) := by decide +kernel
theorem dX7_sign_45 : decode cX7_sign 45 = .ok (.ireturn, 1) := by decide +kernel
theorem dX7_has_0 : decode cX7_has 0 = .ok (.iload_n 1, 1) := by decide +kernel
theorem dX7_has_1 : decode cX7_has 1 = .ok (.invokestatic 193, 3) := by decide +kernel
theorem dX7_has_4 : decode cX7_has 4 = .ok (.ifCond .eq 7, 3) := by decide +kernel
theorem dX7_has_7 : decode cX7_has 7 = .ok (.iload_n 2, 1) := by decide +kernel
theorem dX7_has_8 : decode cX7_has 8 = .ok (.ifCond .ge 7, 3) := by decide +kernel
theorem dX7_has_11 : decode cX7_has 11 = .ok (.sipush (-1000), 3) := by decide +kernel
theorem dX7_has_14 : decode cX7_has 14 = .ok (.ireturn, 1) := by decide +kernel
theorem dX7_has_15 : decode cX7_has 15 = .ok (.aload_n 0, 1) := by decide +kernel
theorem dX7_has_16 : decode cX7_has 16 = .ok (.invokevirtual 93, 3) := by decide +kernel
theorem dX7_has_19 : decode cX7_has 19 = .ok (.astore_n 3, 1) := by decide +kernel
theorem dX7_has_20 : decode cX7_has 20 = .ok (.iload_n 2, 1) := by decide +kernel
theorem dX7_has_21 : decode cX7_has 21 = .ok (.aload_n 3, 1) := by decide +kernel
theorem dX7_has_22 : decode cX7_has 22 = .ok (.invokevirtual 174, 3) := by decide +kernel
theorem dX7_has_25 : decode cX7_has 25 = .ok (.if_icmp .ge 12, 3) := by decide +kernel
theorem dX7_has_28 : decode cX7_has 28 = .ok (.aload_n 3, 1) := by decide +kernel
theorem dX7_has_29 : decode cX7_has 29 = .ok (.iload_n 1, 1) := by decide +kernel
theorem dX7_has_30 : decode cX7_has 30 = .ok (.iload_n 2, 1) := by decide +kernel
theorem dX7_has_31 : decode cX7_has 31 = .ok (.invokevirtual 202, 3) := by decide +kernel
theorem dX7_has_34 : decode cX7_has 34 = .ok (.goto 6, 3) := by decide +kernel
theorem dX7_has_37 : decode cX7_has 37 = .ok (.sipush (-1000), 3) := by decide +kernel
theorem dX7_has_40 : decode cX7_has 40 = .ok (.ireturn, 1) := by decide +kernel
theorem dX7_active_0 : decode cX7_active 0 = .ok (.iload_n 1, 1) := by decide +kernel
theorem dX7_active_1 : decode cX7_active 1 = .ok (.ifCond .lt 8, 3) := by decide +kernel
theorem dX7_active_4 : decode cX7_active 4 = .ok (.iload_n 1, 1) := by decide +kernel
theorem dX7_active_5 : decode cX7_active 5 = .ok (.iconst 2, 1) := by decide +kernel
theorem dX7_active_6 : decode cX7_active 6 = .ok (.if_icmp .le 5, 3) := by decide +kernel
theorem dX7_active_9 : decode cX7_active 9 = .ok (.iconst (-1), 1) := by decide +kernel
theorem dX7_active_10 : decode cX7_active 10 = .ok (.ireturn, 1) := by decide +kernel
theorem dX7_active_11 : decode cX7_active 11 = .ok (.aload_n 0, 1) := by decide +kernel
theorem dX7_active_12 : decode cX7_active 12 = .ok (.invokevirtual 93, 3) := by decide +kernel
theorem dX7_active_15 : decode cX7_active 15 = .ok (.astore_n 2, 1) := by decide +kernel
theorem dX7_active_16 : decode cX7_active 16 = .ok (.iconst 0, 1) := by decide +kernel
theorem dX7_active_17 : decode cX7_active 17 = .ok (.istore_n 3, 1) := by decide +kernel
theorem dX7_active_18 : decode cX7_active 18 = .ok (.iconst 0, 1) := by decide +kernel
theorem dX7_active_19 : decode cX7_active 19 = .ok (.istore 4, 2) := by decide +kernel
theorem dX7_active_21 : decode cX7_active 21 = .ok (.iload 4, 2) := by decide +kernel
theorem dX7_active_23 : decode cX7_active 23 = .ok (.aload_n 2, 1) := by decide +kernel
theorem dX7_active_24 : decode cX7_active 24 = .ok (.invokevirtual 174, 3) := by decide +kernel
theorem dX7_active_27 : decode cX7_active 27 = .ok (.if_icmp .ge 26, 3) := by decide +kernel
theorem dX7_active_30 : decode cX7_active 30 = .ok (.aload_n 2, 1) := by decide +kernel
theorem dX7_active_31 : decode cX7_active 31 = .ok (.iload 4, 2) := by decide +kernel
theorem dX7_active_33 : decode cX7_active 33 = .ok (.iload_n 1, 1) := by decide +kernel
theorem dX7_active_34 : decode cX7_active 34 = .ok (.invokestatic 205, 3) := by decide +kernel
theorem dX7_active_37 : decode cX7_active 37 = .ok (.ifCond .eq 10, 3) := by decide +kernel
theorem dX7_active_40 : decode cX7_active 40 = .ok (.iload_n 3, 1) := by decide +kernel
theorem dX7_active_41 : decode cX7_active 41 = .ok (.iconst 1, 1) := by decide +kernel
theorem dX7_active_42 : decode cX7_active 42 = .ok (.iload 4, 2) := by decide +kernel
theorem dX7_active_44 : decode cX7_active 44 = .ok (.ishl, 1) := by decide +kernel
theorem dX7_active_45 : decode cX7_active 45 = .ok (.ior, 1) := by decide +kernel
theorem dX7_active_46 : decode cX7_active 46 = .ok (.istore_n 3, 1) := by decide +kernel
theorem dX7_active_47 : decode cX7_active 47 = .ok (.iinc 4 1, 3) := by decide +kernel
theorem dX7_active_50 : decode cX7_active 50 = .ok (.goto (-29), 3) := by decide +kernel
theorem dX7_active_53 : decode cX7_active 53 = .ok (.iload_n 3, 1) := by decide +kernel
theorem dX7_active_54 : decode cX7_active 54 = .ok (.ireturn, 1) := by decide +kernel
theorem dX7_isActive_0 : decode cX7_isActive 0 = .ok (.aload_n 0, 1) := by decide +kernel
theorem dX7_isActive_1 : decode cX7_isActive 1 = .ok (.iconst 2, 1) := by decide +kernel
theorem dX7_isActive_2 : decode cX7_isActive 2 = .ok (.iload_n 1, 1) := by decide +kernel
theorem dX7_isActive_3 : decode cX7_isActive 3 = .ok (.invokevirtual 202, 3) := by decide +kernel
theorem dX7_isActive_6 : decode cX7_isActive 6 = .ok (.ifCond .le 7, 3) := by decide +kernel
theorem dX7_isActive_9 : decode cX7_isActive 9 = .ok (.iconst 1, 1) := by decide +kernel
theorem dX7_isActive_10 : decode cX7_isActive 10 = .ok (.goto 4, 3) := by decide +kernel
theorem dX7_isActive_13 : decode cX7_isActive 13 = .ok (.iconst 0, 1) := by decide +kernel
theorem dX7_isActive_14 : decode cX7_isActive 14 = .ok (.istore_n 3, 1) := by decide +kernel
theorem dX7_isActive_15 : decode cX7_isActive 15 = .ok (.aload_n 0, 1) := by decide +kernel
theorem dX7_isActive_16 : decode cX7_isActive 16 = .ok (.iconst 5, 1) := by decide +kernel
theorem dX7_isActive_17 : decode cX7_isActive 17 = .ok (.iload_n 1, 1) := by decide +kernel
theorem dX7_isActive_18 : decode cX7_isActive 18 = .ok (.invokevirtual 202, 3) := by decide +kernel
theorem dX7_isActive_21 : decode cX7_isActive 21 = .ok (.ifCond .le 7, 3) := by decide +kernel
theorem dX7_isActive_24 : decode cX7_isActive 24 = .ok (.iconst 1, 1) := by decide +kernel
theorem dX7_isActive_25 : decode cX7_isActive 25 = .ok (.goto 4, 3) := by decide +kernel
theorem dX7_isActive_28 : decode cX7_isActive 28 = .ok (.iconst 0, 1) := by decide +kernel
theorem dX7_isActive_29 : decode cX7_isActive 29 = .ok (.istore 4, 2) := by decide +kernel
theorem dX7_isActive_31 : decode cX7_isActive 31 = .ok (.iload_n 2, 1) := by decide +kernel
theorem dX7_isActive_32 : decode cX7_isActive 32 = .ok (.lookupswitch 33 #[(0, 28), (1, 30)], 28) := by decide +kernel
theorem dX7_isActive_60 : decode cX7_isActive 60 = .ok (.iload_n 3, 1) := by decide +kernel
theorem dX7_isActive_61 : decode cX7_isActive 61 = .ok (.ireturn, 1) := by decide +kernel
theorem dX7_isActive_62 : decode cX7_isActive 62 = .ok (.iload 4, 2) := by decide +kernel
theorem dX7_isActive_64 : decode cX7_isActive 64 = .ok (.ireturn, 1) := by decide +kernel
theorem dX7_isActive_65 : decode cX7_isActive 65 = .ok (.iload_n 3, 1) := by decide +kernel
theorem dX7_isActive_66 : decode cX7_isActive 66 = .ok (.ifCond .ne 12, 3) := by decide +kernel
theorem dX7_isActive_69 : decode cX7_isActive 69 = .ok (.iload 4, 2) := by decide +kernel
theorem dX7_isActive_71 : decode cX7_isActive 71 = .ok (.ifCond .ne 7, 3) := by decide +kernel
theorem dX7_isActive_74 : decode cX7_isActive 74 = .ok (.iconst 1, 1) := by decide +kernel
theorem dX7_isActive_75 : decode cX7_isActive 75 = .ok (.goto 4, 3) := by decide +kernel
theorem dX7_isActive_78 : decode cX7_isActive 78 = .ok (.iconst 0, 1) := by decide +kernel
theorem dX7_isActive_79 : decode cX7_isActive 79 = .ok (.ireturn, 1) := by decide +kernel
theorem dX7_see_0 : decode cX7_see 0 = .ok (.iload_n 1, 1) := by decide +kernel
theorem dX7_see_1 : decode cX7_see 1 = .ok (.iconst (-1), 1) := by decide +kernel
theorem dX7_see_2 : decode cX7_see 2 = .ok (.if_icmp .ne 14, 3) := by decide +kernel
theorem dX7_see_5 : decode cX7_see 5 = .ok (.aload_n 0, 1) := by decide +kernel
theorem dX7_see_6 : decode cX7_see 6 = .ok (.getfield 12, 3) := by decide +kernel
theorem dX7_see_9 : decode cX7_see 9 = .ok (.getfield 209, 3) := by decide +kernel
theorem dX7_see_12 : decode cX7_see 12 = .ok (.invokevirtual 213, 3) := by decide +kernel
theorem dX7_see_15 : decode cX7_see 15 = .ok (.ireturn, 1) := by decide +kernel
theorem dX7_see_16 : decode cX7_see 16 = .ok (.iload_n 1, 1) := by decide +kernel
theorem dX7_see_17 : decode cX7_see 17 = .ok (.invokestatic 130, 3) := by decide +kernel
theorem dX7_see_20 : decode cX7_see 20 = .ok (.ifCond .ne 5, 3) := by decide +kernel
theorem dX7_see_23 : decode cX7_see 23 = .ok (.iconst (-1), 1) := by decide +kernel
theorem dX7_see_24 : decode cX7_see 24 = .ok (.ireturn, 1) := by decide +kernel
theorem dX7_see_25 : decode cX7_see 25 = .ok (.aload_n 0, 1) := by decide +kernel
theorem dX7_see_26 : decode cX7_see 26 = .ok (.getfield 12, 3) := by decide +kernel
theorem dX7_see_29 : decode cX7_see 29 = .ok (.getfield 209, 3) := by decide +kernel
theorem dX7_see_32 : decode cX7_see 32 = .ok (.invokevirtual 218, 3) := by decide +kernel
theorem dX7_see_35 : decode cX7_see 35 = .ok (.ifCond .eq 8, 3) := by decide +kernel
theorem dX7_see_38 : decode cX7_see 38 = .ok (.bipush (-4), 2) := by decide +kernel
theorem dX7_see_40 : decode cX7_see 40 = .ok (.goto 23, 3) := by decide +kernel
theorem dX7_see_43 : decode cX7_see 43 = .ok (.aload_n 0, 1) := by decide +kernel
theorem dX7_see_44 : decode cX7_see 44 = .ok (.getfield 12, 3) := by decide +kernel
theorem dX7_see_47 : decode cX7_see 47 = .ok (.getfield 209, 3) := by decide +kernel
theorem dX7_see_50 : decode cX7_see 50 = .ok (.iload_n 1, 1) := by decide +kernel
theorem dX7_see_51 : decode cX7_see 51 = .ok (.iload_n 2, 1) := by decide +kernel
theorem dX7_see_52 : decode cX7_see 52 = .ok (.ifCond .eq 7, 3) := by decide +kernel
theorem dX7_see_55 : decode cX7_see 55 = .ok (.iconst 1, 1) := by decide +kernel
theorem dX7_see_56 : decode cX7_see 56 = .ok (.goto 4, 3) := by decide +kernel
theorem dX7_see_59 : decode cX7_see 59 = .ok (.iconst 0, 1) := by decide +kernel
theorem dX7_see_60 : decode cX7_see 60 = .ok (.invokevirtual 221, 3) := by decide +kernel
theorem dX7_see_63 : decode cX7_see 63 = .ok (.ireturn, 1) := by decide +kernel
theorem dX7_fits_0 : decode cX7_fits 0 = .ok (.aload_n 0, 1) := by decide +kernel
theorem dX7_fits_1 : decode cX7_fits 1 = .ok (.iload_n 1, 1) := by decide +kernel
theorem dX7_fits_2 : decode cX7_fits 2 = .ok (.invokevirtual 82, 3) := by decide +kernel
theorem dX7_fits_5 : decode cX7_fits 5 = .ok (.ifCond .eq 12, 3) := by decide +kernel
theorem dX7_fits_8 : decode cX7_fits 8 = .ok (.iload_n 2, 1) := by decide +kernel
theorem dX7_fits_9 : decode cX7_fits 9 = .ok (.ifCond .lt 8, 3) := by decide +kernel
theorem dX7_fits_12 : decode cX7_fits 12 = .ok (.iload_n 2, 1) := by decide +kernel
theorem dX7_fits_13 : decode cX7_fits 13 = .ok (.iconst 1, 1) := by decide +kernel
theorem dX7_fits_14 : decode cX7_fits 14 = .ok (.if_icmp .le 5, 3) := by decide +kernel
theorem dX7_fits_17 : decode cX7_fits 17 = .ok (.iconst (-1), 1) := by decide +kernel
theorem dX7_fits_18 : decode cX7_fits 18 = .ok (.ireturn, 1) := by decide +kernel
theorem dX7_fits_19 : decode cX7_fits 19 = .ok (.iconst 0, 1) := by decide +kernel
theorem dX7_fits_20 : decode cX7_fits 20 = .ok (.istore_n 3, 1) := by decide +kernel
theorem dX7_fits_21 : decode cX7_fits 21 = .ok (.bipush (-5), 2) := by decide +kernel
theorem dX7_fits_23 : decode cX7_fits 23 = .ok (.istore 4, 2) := by decide +kernel
theorem dX7_fits_25 : decode cX7_fits 25 = .ok (.aload_n 0, 1) := by decide +kernel
theorem dX7_fits_26 : decode cX7_fits 26 = .ok (.getfield 38, 3) := by decide +kernel
theorem dX7_fits_29 : decode cX7_fits 29 = .ok (.aload_n 0, 1) := by decide +kernel
theorem dX7_fits_30 : decode cX7_fits 30 = .ok (.getfield 12, 3) := by decide +kernel
theorem dX7_fits_33 : decode cX7_fits 33 = .ok (.getfield 67, 3) := by decide +kernel
theorem dX7_fits_36 : decode cX7_fits 36 = .ok (.invokevirtual 223, 3) := by decide +kernel
theorem dX7_fits_39 : decode cX7_fits 39 = .ok (.iconst 4, 1) := by decide +kernel
theorem dX7_fits_40 : decode cX7_fits 40 = .ok (.istore 5, 2) := by decide +kernel
theorem dX7_fits_42 : decode cX7_fits 42 = .ok (.iload 5, 2) := by decide +kernel
theorem dX7_fits_44 : decode cX7_fits 44 = .ok (.ifCond .lt 38, 3) := by decide +kernel
theorem dX7_fits_47 : decode cX7_fits 47 = .ok (.aload_n 0, 1) := by decide +kernel
theorem dX7_fits_48 : decode cX7_fits 48 = .ok (.getfield 38, 3) := by decide +kernel
theorem dX7_fits_51 : decode cX7_fits 51 = .ok (.getfield 85, 3) := by decide +kernel
theorem dX7_fits_54 : decode cX7_fits 54 = .ok (.iload_n 1, 1) := by decide +kernel
theorem dX7_fits_55 : decode cX7_fits 55 = .ok (.iload 5, 2) := by decide +kernel
theorem dX7_fits_57 : decode cX7_fits 57 = .ok (.iastore, 1) := by decide +kernel
theorem dX7_fits_58 : decode cX7_fits 58 = .ok (.aload_n 0, 1) := by decide +kernel
theorem dX7_fits_59 : decode cX7_fits 59 = .ok (.aload_n 0, 1) := by decide +kernel
theorem dX7_fits_60 : decode cX7_fits 60 = .ok (.getfield 38, 3) := by decide +kernel
theorem dX7_fits_63 : decode cX7_fits 63 = .ok (.invokevirtual 227, 3) := by decide +kernel
theorem dX7_fits_66 : decode cX7_fits 66 = .ok (.ifCond .eq 10, 3) := by decide +kernel
theorem dX7_fits_69 : decode cX7_fits 69 = .ok (.iinc 3 1, 3) := by decide +kernel
theorem dX7_fits_72 : decode cX7_fits 72 = .ok (.iload 5, 2) := by decide +kernel
theorem dX7_fits_74 : decode cX7_fits 74 = .ok (.istore 4, 2) := by decide +kernel
theorem dX7_fits_76 : decode cX7_fits 76 = .ok (.iinc 5 (-1), 3) := by decide +kernel
theorem dX7_fits_79 : decode cX7_fits 79 = .ok (.goto (-37), 3) := by decide +kernel
theorem dX7_fits_82 : decode cX7_fits 82 = .ok (.iload_n 2, 1) := by decide +kernel
theorem dX7_fits_83 : decode cX7_fits 83 = .ok (.ifCond .ne 7, 3) := by decide +kernel
theorem dX7_fits_86 : decode cX7_fits 86 = .ok (.iload_n 3, 1) := by decide +kernel
theorem dX7_fits_87 : decode cX7_fits 87 = .ok (.goto 5, 3) := by decide +kernel
theorem dX7_fits_90 : decode cX7_fits 90 = .ok (.iload 4, 2) := by decide +kernel
theorem dX7_fits_92 : decode cX7_fits 92 = .ok (.ireturn, 1) := by decide +kernel
theorem dX7_isAllAsSeen_0 : decode cX7_isAllAsSeen 0 = .ok (.iconst 0, 1) := by decide +kernel
theorem dX7_isAllAsSeen_1 : decode cX7_isAllAsSeen 1 = .ok (.istore_n 2, 1) := by decide +kernel
theorem dX7_isAllAsSeen_2 : decode cX7_isAllAsSeen 2 = .ok (.iload_n 2, 1) := by decide +kernel
theorem dX7_isAllAsSeen_3 : decode cX7_isAllAsSeen 3 = .ok (.aload_n 0, 1) := by decide +kernel
theorem dX7_isAllAsSeen_4 : decode cX7_isAllAsSeen 4 = .ok (.getfield 12, 3) := by decide +kernel
theorem dX7_isAllAsSeen_7 : decode cX7_isAllAsSeen 7 = .ok (.getfield 209, 3) := by decide +kernel
theorem dX7_isAllAsSeen_10 : decode cX7_isAllAsSeen 10 = .ok (.getfield 231, 3) := by decide +kernel
theorem dX7_isAllAsSeen_13 : decode cX7_isAllAsSeen 13 = .ok (.if_icmp .ge 53, 3) := by decide +kernel
theorem dX7_isAllAsSeen_16 : decode cX7_isAllAsSeen 16 = .ok (.aload_n 0, 1) := by decide +kernel
theorem dX7_isAllAsSeen_17 : decode cX7_isAllAsSeen 17 = .ok (.getfield 12, 3) := by decide +kernel
theorem dX7_isAllAsSeen_20 : decode cX7_isAllAsSeen 20 = .ok (.getfield 209, 3) := by decide +kernel
theorem dX7_isAllAsSeen_23 : decode cX7_isAllAsSeen 23 = .ok (.getfield 232, 3) := by decide +kernel
theorem dX7_isAllAsSeen_26 : decode cX7_isAllAsSeen 26 = .ok (.iload_n 2, 1) := by decide +kernel
theorem dX7_isAllAsSeen_27 : decode cX7_isAllAsSeen 27 = .ok (.iaload, 1) := by decide +kernel
theorem dX7_isAllAsSeen_28 : decode cX7_isAllAsSeen 28 = .ok (.iconst 1, 1) := by decide +kernel
theorem dX7_isAllAsSeen_29 : decode cX7_isAllAsSeen 29 = .ok (.if_icmp .ne 7, 3) := by decide +kernel
theorem dX7_isAllAsSeen_32 : decode cX7_isAllAsSeen 32 = .ok (.iconst 1, 1) := by decide +kernel
theorem dX7_isAllAsSeen_33 : decode cX7_isAllAsSeen 33 = .ok (.goto 4, 3) := by decide +kernel
theorem dX7_isAllAsSeen_36 : decode cX7_isAllAsSeen 36 = .ok (.iconst 0, 1) := by decide +kernel
theorem dX7_isAllAsSeen_37 : decode cX7_isAllAsSeen 37 = .ok (.istore_n 3, 1) := by decide +kernel
theorem dX7_isAllAsSeen_38 : decode cX7_isAllAsSeen 38 = .ok (.aload_n 1, 1) := by decide +kernel
theorem dX7_isAllAsSeen_39 : decode cX7_isAllAsSeen 39 = .ok (.aload_n 0, 1) := by decide +kernel
theorem dX7_isAllAsSeen_40 : decode cX7_isAllAsSeen 40 = .ok (.getfield 12, 3) := by decide +kernel
theorem dX7_isAllAsSeen_43 : decode cX7_isAllAsSeen 43 = .ok (.getfield 209, 3) := by decide +kernel
theorem dX7_isAllAsSeen_46 : decode cX7_isAllAsSeen 46 = .ok (.getfield 235, 3) := by decide +kernel
theorem dX7_isAllAsSeen_49 : decode cX7_isAllAsSeen 49 = .ok (.iload_n 2, 1) := by decide +kernel
theorem dX7_isAllAsSeen_50 : decode cX7_isAllAsSeen 50 = .ok (.iaload, 1) := by decide +kernel
theorem dX7_isAllAsSeen_51 : decode cX7_isAllAsSeen 51 = .ok (.invokevirtual 144, 3) := by decide +kernel
theorem dX7_isAllAsSeen_54 : decode cX7_isAllAsSeen 54 = .ok (.iload_n 3, 1) := by decide +kernel
theorem dX7_isAllAsSeen_55 : decode cX7_isAllAsSeen 55 = .ok (.if_icmp .eq 5, 3) := by decide +kernel
theorem dX7_isAllAsSeen_58 : decode cX7_isAllAsSeen 58 = .ok (.iconst 0, 1) := by decide +kernel
theorem dX7_isAllAsSeen_59 : decode cX7_isAllAsSeen 59 = .ok (.ireturn, 1) := by decide +kernel
theorem dX7_isAllAsSeen_60 : decode cX7_isAllAsSeen 60 = .ok (.iinc 2 1, 3) := by decide +kernel
theorem dX7_isAllAsSeen_63 : decode cX7_isAllAsSeen 63 = .ok (.goto (-61), 3) := by decide +kernel
theorem dX7_isAllAsSeen_66 : decode cX7_isAllAsSeen 66 = .ok (.iconst 1, 1) := by decide +kernel
theorem dX7_isAllAsSeen_67 : decode cX7_isAllAsSeen 67 = .ok (.ireturn, 1) := by decide +kernel
theorem dX7_odds_0 : decode cX7_odds 0 = .ok (.aload_n 0, 1) := by decide +kernel
theorem dX7_odds_1 : decode cX7_odds 1 = .ok (.iload_n 1, 1) := by decide +kernel
theorem dX7_odds_2 : decode cX7_odds 2 = .ok (.invokevirtual 82, 3) := by decide +kernel
theorem dX7_odds_5 : decode cX7_odds 5 = .ok (.ifCond .eq 20, 3) := by decide +kernel
theorem dX7_odds_8 : decode cX7_odds 8 = .ok (.iload_n 2, 1) := by decide +kernel
theorem dX7_odds_9 : decode cX7_odds 9 = .ok (.ifCond .lt 16, 3) := by decide +kernel
theorem dX7_odds_12 : decode cX7_odds 12 = .ok (.iload_n 2, 1) := by decide +kernel
theorem dX7_odds_13 : decode cX7_odds 13 = .ok (.bipush 48, 2) := by decide +kernel
theorem dX7_odds_15 : decode cX7_odds 15 = .ok (.if_icmp .gt 10, 3) := by decide +kernel
theorem dX7_odds_18 : decode cX7_odds 18 = .ok (.iload_n 3, 1) := by decide +kernel
theorem dX7_odds_19 : decode cX7_odds 19 = .ok (.invokestatic 238, 3) := by decide +kernel
theorem dX7_odds_22 : decode cX7_odds 22 = .ok (.ifCond .ne 7, 3) := by decide +kernel
theorem dX7_odds_25 : decode cX7_odds 25 = .ok (.ldc2_w 241, 3) := by decide +kernel
theorem dX7_odds_28 : decode cX7_odds 28 = .ok (.lreturn, 1) := by decide +kernel
theorem dX7_odds_29 : decode cX7_odds 29 = .ok (.iconst 0, 1) := by decide +kernel
theorem dX7_odds_30 : decode cX7_odds 30 = .ok (.istore 4, 2) := by decide +kernel
theorem dX7_odds_32 : decode cX7_odds 32 = .ok (.aload_n 0, 1) := by decide +kernel
theorem dX7_odds_33 : decode cX7_odds 33 = .ok (.getfield 38, 3) := by decide +kernel
theorem dX7_odds_36 : decode cX7_odds 36 = .ok (.aload_n 0, 1) := by decide +kernel
theorem dX7_odds_37 : decode cX7_odds 37 = .ok (.getfield 12, 3) := by decide +kernel
theorem dX7_odds_40 : decode cX7_odds 40 = .ok (.getfield 67, 3) := by decide +kernel
theorem dX7_odds_43 : decode cX7_odds 43 = .ok (.invokevirtual 223, 3) := by decide +kernel
theorem dX7_odds_46 : decode cX7_odds 46 = .ok (.iconst 0, 1) := by decide +kernel
theorem dX7_odds_47 : decode cX7_odds 47 = .ok (.istore 5, 2) := by decide +kernel
theorem dX7_odds_49 : decode cX7_odds 49 = .ok (.iload 5, 2) := by decide +kernel
theorem dX7_odds_51 : decode cX7_odds 51 = .ok (.iconst 5, 1) := by decide +kernel
theorem dX7_odds_52 : decode cX7_odds 52 = .ok (.if_icmp .ge 34, 3) := by decide +kernel
theorem dX7_odds_55 : decode cX7_odds 55 = .ok (.aload_n 0, 1) := by decide +kernel
theorem dX7_odds_56 : decode cX7_odds 56 = .ok (.getfield 38, 3) := by decide +kernel
theorem dX7_odds_59 : decode cX7_odds 59 = .ok (.getfield 85, 3) := by decide +kernel
theorem dX7_odds_62 : decode cX7_odds 62 = .ok (.iload_n 1, 1) := by decide +kernel
theorem dX7_odds_63 : decode cX7_odds 63 = .ok (.iload 5, 2) := by decide +kernel
theorem dX7_odds_65 : decode cX7_odds 65 = .ok (.iastore, 1) := by decide +kernel
theorem dX7_odds_66 : decode cX7_odds 66 = .ok (.aload_n 0, 1) := by decide +kernel
theorem dX7_odds_67 : decode cX7_odds 67 = .ok (.getfield 38, 3) := by decide +kernel
theorem dX7_odds_70 : decode cX7_odds 70 = .ok (.invokevirtual 243, 3) := by decide +kernel
theorem dX7_odds_73 : decode cX7_odds 73 = .ok (.iload_n 2, 1) := by decide +kernel
theorem dX7_odds_74 : decode cX7_odds 74 = .ok (.if_icmp .lt 6, 3) := by decide +kernel
theorem dX7_odds_77 : decode cX7_odds 77 = .ok (.iinc 4 1, 3) := by decide +kernel
theorem dX7_odds_80 : decode cX7_odds 80 = .ok (.iinc 5 1, 3) := by decide +kernel
theorem dX7_odds_83 : decode cX7_odds 83 = .ok (.goto (-34), 3) := by decide +kernel
theorem dX7_odds_86 : decode cX7_odds 86 = .ok (.iload 4, 2) := by decide +kernel
theorem dX7_odds_88 : decode cX7_odds 88 = .ok (.iconst 5, 1) := by decide +kernel
theorem dX7_odds_89 : decode cX7_odds 89 = .ok (.iload_n 3, 1) := by decide +kernel
theorem dX7_odds_90 : decode cX7_odds 90 = .ok (.invokestatic 246, 3) := by decide +kernel
theorem dX7_odds_93 : decode cX7_odds 93 = .ok (.i2l, 1) := by decide +kernel
theorem dX7_odds_94 : decode cX7_odds 94 = .ok (.lreturn, 1) := by decide +kernel
theorem dX7_mean_0 : decode cX7_mean 0 = .ok (.iload_n 1, 1) := by decide +kernel
theorem dX7_mean_1 : decode cX7_mean 1 = .ok (.invokestatic 238, 3) := by decide +kernel
theorem dX7_mean_4 : decode cX7_mean 4 = .ok (.ifCond .ne 7, 3) := by decide +kernel
theorem dX7_mean_7 : decode cX7_mean 7 = .ok (.ldc2_w 241, 3) := by decide +kernel
theorem dX7_mean_10 : decode cX7_mean 10 = .ok (.lreturn, 1) := by decide +kernel
theorem dX7_mean_11 : decode cX7_mean 11 = .ok (.aload_n 0, 1) := by decide +kernel
theorem dX7_mean_12 : decode cX7_mean 12 = .ok (.invokevirtual 93, 3) := by decide +kernel
theorem dX7_mean_15 : decode cX7_mean 15 = .ok (.astore_n 2, 1) := by decide +kernel
theorem dX7_mean_16 : decode cX7_mean 16 = .ok (.aload_n 2, 1) := by decide +kernel
theorem dX7_mean_17 : decode cX7_mean 17 = .ok (.invokevirtual 249, 3) := by decide +kernel
theorem dX7_mean_20 : decode cX7_mean 20 = .ok (.aload_n 2, 1) := by decide +kernel
theorem dX7_mean_21 : decode cX7_mean 21 = .ok (.getfield 159, 3) := by decide +kernel
theorem dX7_mean_24 : decode cX7_mean 24 = .ok (.iload_n 1, 1) := by decide +kernel
theorem dX7_mean_25 : decode cX7_mean 25 = .ok (.invokestatic 246, 3) := by decide +kernel
theorem dX7_mean_28 : decode cX7_mean 28 = .ok (.i2l, 1) := by decide +kernel
theorem dX7_mean_29 : decode cX7_mean 29 = .ok (.lreturn, 1) := by decide +kernel
theorem dX7_partOfFraction_0 : decode cX7_partOfFraction 0 = .ok (.iload_n 2, 1) := by decide +kernel
theorem dX7_partOfFraction_1 : decode cX7_partOfFraction 1 = .ok (.ifCond .ne 7, 3) := by decide +kernel
theorem dX7_partOfFraction_4 : decode cX7_partOfFraction 4 = .ok (.iload_n 0, 1) := by decide +kernel
theorem dX7_partOfFraction_5 : decode cX7_partOfFraction 5 = .ok (.goto 4, 3) := by decide +kernel
theorem dX7_partOfFraction_8 : decode cX7_partOfFraction 8 = .ok (.iload_n 1, 1) := by decide +kernel
theorem dX7_partOfFraction_9 : decode cX7_partOfFraction 9 = .ok (.istore_n 3, 1) := by decide +kernel
theorem dX7_partOfFraction_10 : decode cX7_partOfFraction 10 = .ok (.iload_n 1, 1) := by decide +kernel
theorem dX7_partOfFraction_11 : decode cX7_partOfFraction 11 = .ok (.istore 4, 2) := by decide +kernel
theorem dX7_partOfFraction_13 : decode cX7_partOfFraction 13 = .ok (.iload 4, 2) := by decide +kernel
theorem dX7_partOfFraction_15 : decode cX7_partOfFraction 15 = .ok (.iconst 1, 1) := by decide +kernel
theorem dX7_partOfFraction_16 : decode cX7_partOfFraction 16 = .ok (.if_icmp .le 28, 3) := by decide +kernel
theorem dX7_partOfFraction_19 : decode cX7_partOfFraction 19 = .ok (.iload_n 0, 1) := by decide +kernel
theorem dX7_partOfFraction_20 : decode cX7_partOfFraction 20 = .ok (.iload 4, 2) := by decide +kernel
theorem dX7_partOfFraction_22 : decode cX7_partOfFraction 22 = .ok (.irem, 1) := by decide +kernel
theorem dX7_partOfFraction_23 : decode cX7_partOfFraction 23 = .ok (.ifCond .ne 15, 3) := by decide +kernel
theorem dX7_partOfFraction_26 : decode cX7_partOfFraction 26 = .ok (.iload_n 1, 1) := by decide +kernel
theorem dX7_partOfFraction_27 : decode cX7_partOfFraction 27 = .ok (.iload 4, 2) := by decide +kernel
theorem dX7_partOfFraction_29 : decode cX7_partOfFraction 29 = .ok (.irem, 1) := by decide +kernel
theorem dX7_partOfFraction_30 : decode cX7_partOfFraction 30 = .ok (.ifCond .ne 8, 3) := by decide +kernel
theorem dX7_partOfFraction_33 : decode cX7_partOfFraction 33 = .ok (.iload_n 3, 1) := by decide +kernel
theorem dX7_partOfFraction_34 : decode cX7_partOfFraction 34 = .ok (.iload 4, 2) := by decide +kernel
theorem dX7_partOfFraction_36 : decode cX7_partOfFraction 36 = .ok (.idiv, 1) := by decide +kernel
theorem dX7_partOfFraction_37 : decode cX7_partOfFraction 37 = .ok (.ireturn, 1) := by decide +kernel
theorem dX7_partOfFraction_38 : decode cX7_partOfFraction 38 = .ok (.iinc 4 (-1), 3) := by decide +kernel
theorem dX7_partOfFraction_41 : decode cX7_partOfFraction 41 = .ok (.goto (-28), 3) := by decide +kernel
theorem dX7_partOfFraction_44 : decode cX7_partOfFraction 44 = .ok (.iload_n 3, 1) := by decide +kernel
theorem dX7_partOfFraction_45 : decode cX7_partOfFraction 45 = .ok (.ireturn, 1) := by decide +kernel
theorem dX7_event_0 : decode cX7_event 0 = .ok (.iload_n 1, 1) := by decide +kernel
theorem dX7_event_1 : decode cX7_event 1 = .ok (.iconst (-1), 1) := by decide +kernel
theorem dX7_event_2 : decode cX7_event 2 = .ok (.if_icmp .ne 14, 3) := by decide +kernel
theorem dX7_event_5 : decode cX7_event 5 = .ok (.aload_n 0, 1) := by decide +kernel
theorem dX7_event_6 : decode cX7_event 6 = .ok (.getfield 12, 3) := by decide +kernel
theorem dX7_event_9 : decode cX7_event 9 = .ok (.getfield 252, 3) := by decide +kernel
theorem dX7_event_12 : decode cX7_event 12 = .ok (.invokevirtual 213, 3) := by decide +kernel
theorem dX7_event_15 : decode cX7_event 15 = .ok (.ireturn, 1) := by decide +kernel
theorem dX7_event_16 : decode cX7_event 16 = .ok (.iload_n 1, 1) := by decide +kernel
theorem dX7_event_17 : decode cX7_event 17 = .ok (.ifCond .lt 8, 3) := by decide +kernel
theorem dX7_event_20 : decode cX7_event 20 = .ok (.iload_n 1, 1) := by decide +kernel
theorem dX7_event_21 : decode cX7_event 21 = .ok (.iconst 3, 1) := by decide +kernel
theorem dX7_event_22 : decode cX7_event 22 = .ok (.if_icmp .le 5, 3) := by decide +kernel
theorem dX7_event_25 : decode cX7_event 25 = .ok (.iconst (-1), 1) := by decide +kernel
theorem dX7_event_26 : decode cX7_event 26 = .ok (.ireturn, 1) := by decide +kernel
theorem dX7_event_27 : decode cX7_event 27 = .ok (.iload_n 1, 1) := by decide +kernel
theorem dX7_event_28 : decode cX7_event 28 = .ok (.iload_n 2, 1) := by decide +kernel
theorem dX7_event_29 : decode cX7_event 29 = .ok (.invokestatic 255, 3) := by decide +kernel
theorem dX7_event_32 : decode cX7_event 32 = .ok (.ifCond .ne 6, 3) := by decide +kernel
theorem dX7_event_35 : decode cX7_event 35 = .ok (.bipush (-2), 2) := by decide +kernel
theorem dX7_event_37 : decode cX7_event 37 = .ok (.ireturn, 1) := by decide +kernel
theorem dX7_event_38 : decode cX7_event 38 = .ok (.aload_n 0, 1) := by decide +kernel
theorem dX7_event_39 : decode cX7_event 39 = .ok (.getfield 12, 3) := by decide +kernel
theorem dX7_event_42 : decode cX7_event 42 = .ok (.getfield 252, 3) := by decide +kernel
theorem dX7_event_45 : decode cX7_event 45 = .ok (.invokevirtual 218, 3) := by decide +kernel
theorem dX7_event_48 : decode cX7_event 48 = .ok (.ifCond .eq 8, 3) := by decide +kernel
theorem dX7_event_51 : decode cX7_event 51 = .ok (.bipush (-4), 2) := by decide +kernel
theorem dX7_event_53 : decode cX7_event 53 = .ok (.goto 15, 3) := by decide +kernel
theorem dX7_event_56 : decode cX7_event 56 = .ok (.aload_n 0, 1) := by decide +kernel
theorem dX7_event_57 : decode cX7_event 57 = .ok (.getfield 12, 3) := by decide +kernel
theorem dX7_event_60 : decode cX7_event 60 = .ok (.getfield 252, 3) := by decide +kernel
theorem dX7_event_63 : decode cX7_event 63 = .ok (.iload_n 1, 1) := by decide +kernel
theorem dX7_event_64 : decode cX7_event 64 = .ok (.iload_n 2, 1) := by decide +kernel
theorem dX7_event_65 : decode cX7_event 65 = .ok (.invokevirtual 221, 3) := by decide +kernel
theorem dX7_event_68 : decode cX7_event 68 = .ok (.ireturn, 1) := by decide +kernel
theorem dX7_isForEvent_0 : decode cX7_isForEvent 0 = .ok (.iload_n 0, 1) := by decide +kernel
theorem dX7_isForEvent_1 : decode cX7_isForEvent 1 = .ok (.lookupswitch 48 #[(0, 27), (2, 43)], 27) := by decide +kernel
theorem dX7_isForEvent_28 : decode cX7_isForEvent 28 = .ok (.iload_n 1, 1) := by decide +kernel
theorem dX7_isForEvent_29 : decode cX7_isForEvent 29 = .ok (.ifCond .lt 13, 3) := by decide +kernel
theorem dX7_isForEvent_32 : decode cX7_isForEvent 32 = .ok (.iload_n 1, 1) := by decide +kernel
theorem dX7_isForEvent_33 : decode cX7_isForEvent 33 = .ok (.bipush 8, 2) := by decide +kernel
theorem dX7_isForEvent_35 : decode cX7_isForEvent 35 = .ok (.if_icmp .ge 7, 3) := by decide +kernel
theorem dX7_isForEvent_38 : decode cX7_isForEvent 38 = .ok (.iconst 1, 1) := by decide +kernel
theorem dX7_isForEvent_39 : decode cX7_isForEvent 39 = .ok (.goto 4, 3) := by decide +kernel
theorem dX7_isForEvent_42 : decode cX7_isForEvent 42 = .ok (.iconst 0, 1) := by decide +kernel
theorem dX7_isForEvent_43 : decode cX7_isForEvent 43 = .ok (.ireturn, 1) := by decide +kernel
theorem dX7_isForEvent_44 : decode cX7_isForEvent 44 = .ok (.iload_n 1, 1) := by decide +kernel
theorem dX7_isForEvent_45 : decode cX7_isForEvent 45 = .ok (.invokestatic 130, 3) := by decide +kernel
theorem dX7_isForEvent_48 : decode cX7_isForEvent 48 = .ok (.ireturn, 1) := by decide +kernel
theorem dX7_isForEvent_49 : decode cX7_isForEvent 49 = .ok (.iload_n 1, 1) := by decide +kernel
theorem dX7_isForEvent_50 : decode cX7_isForEvent 50 = .ok (.invokestatic 63, 3) := by decide +kernel
theorem dX7_isForEvent_53 : decode cX7_isForEvent 53 = .ok (.ireturn, 1) := by decide +kernel
theorem dX7_after_0 : decode cX7_after 0 = .ok (.iload_n 1, 1) := by decide +kernel
theorem dX7_after_1 : decode cX7_after 1 = .ok (.ifCond .lt 8, 3) := by decide +kernel
theorem dX7_after_4 : decode cX7_after 4 = .ok (.iload_n 1, 1) := by decide +kernel
theorem dX7_after_5 : decode cX7_after 5 = .ok (.iconst 2, 1) := by decide +kernel
theorem dX7_after_6 : decode cX7_after 6 = .ok (.if_icmp .le 5, 3) := by decide +kernel
theorem dX7_after_9 : decode cX7_after 9 = .ok (.iconst (-1), 1) := by decide +kernel
theorem dX7_after_10 : decode cX7_after 10 = .ok (.ireturn, 1) := by decide +kernel
theorem dX7_after_11 : decode cX7_after 11 = .ok (.aload_n 0, 1) := by decide +kernel
theorem dX7_after_12 : decode cX7_after 12 = .ok (.getfield 38, 3) := by decide +kernel
theorem dX7_after_15 : decode cX7_after 15 = .ok (.aload_n 0, 1) := by decide +kernel
theorem dX7_after_16 : decode cX7_after 16 = .ok (.getfield 12, 3) := by decide +kernel
theorem dX7_after_19 : decode cX7_after 19 = .ok (.getfield 67, 3) := by decide +kernel
theorem dX7_after_22 : decode cX7_after 22 = .ok (.invokevirtual 223, 3) := by decide +kernel
theorem dX7_after_25 : decode cX7_after 25 = .ok (.iconst 0, 1) := by decide +kernel
theorem dX7_after_26 : decode cX7_after 26 = .ok (.istore_n 2, 1) := by decide +kernel
theorem dX7_after_27 : decode cX7_after 27 = .ok (.iload_n 2, 1) := by decide +kernel
theorem dX7_after_28 : decode cX7_after 28 = .ok (.aload_n 0, 1) := by decide +kernel
theorem dX7_after_29 : decode cX7_after 29 = .ok (.getfield 12, 3) := by decide +kernel
theorem dX7_after_32 : decode cX7_after 32 = .ok (.getfield 252, 3) := by decide +kernel
theorem dX7_after_35 : decode cX7_after 35 = .ok (.getfield 231, 3) := by decide +kernel
theorem dX7_after_38 : decode cX7_after 38 = .ok (.if_icmp .ge 40, 3) := by decide +kernel
theorem dX7_after_41 : decode cX7_after 41 = .ok (.aload_n 0, 1) := by decide +kernel
theorem dX7_after_42 : decode cX7_after 42 = .ok (.getfield 38, 3) := by decide +kernel
theorem dX7_after_45 : decode cX7_after 45 = .ok (.aload_n 0, 1) := by decide +kernel
theorem dX7_after_46 : decode cX7_after 46 = .ok (.getfield 12, 3) := by decide +kernel
theorem dX7_after_49 : decode cX7_after 49 = .ok (.getfield 252, 3) := by decide +kernel
theorem dX7_after_52 : decode cX7_after 52 = .ok (.getfield 235, 3) := by decide +kernel
theorem dX7_after_55 : decode cX7_after 55 = .ok (.iload_n 2, 1) := by decide +kernel
theorem dX7_after_56 : decode cX7_after 56 = .ok (.iaload, 1) := by decide +kernel
theorem dX7_after_57 : decode cX7_after 57 = .ok (.aload_n 0, 1) := by decide +kernel
theorem dX7_after_58 : decode cX7_after 58 = .ok (.getfield 12, 3) := by decide +kernel
theorem dX7_after_61 : decode cX7_after 61 = .ok (.getfield 252, 3) := by decide +kernel
theorem dX7_after_64 : decode cX7_after 64 = .ok (.getfield 232, 3) := by decide +kernel
theorem dX7_after_67 : decode cX7_after 67 = .ok (.iload_n 2, 1) := by decide +kernel
theorem dX7_after_68 : decode cX7_after 68 = .ok (.iaload, 1) := by decide +kernel
theorem dX7_after_69 : decode cX7_after 69 = .ok (.invokevirtual 259, 3) := by decide +kernel
theorem dX7_after_72 : decode cX7_after 72 = .ok (.iinc 2 1, 3) := by decide +kernel
theorem dX7_after_75 : decode cX7_after 75 = .ok (.goto (-48), 3) := by decide +kernel
theorem dX7_after_78 : decode cX7_after 78 = .ok (.aload_n 0, 1) := by decide +kernel
theorem dX7_after_79 : decode cX7_after 79 = .ok (.getfield 42, 3) := by decide +kernel
theorem dX7_after_82 : decode cX7_after 82 = .ok (.aload_n 0, 1) := by decide +kernel
theorem dX7_after_83 : decode cX7_after 83 = .ok (.getfield 38, 3) := by decide +kernel
theorem dX7_after_86 : decode cX7_after 86 = .ok (.invokevirtual 263, 3) := by decide +kernel
theorem dX7_after_89 : decode cX7_after 89 = .ok (.iload_n 1, 1) := by decide +kernel
theorem dX7_after_90 : decode cX7_after 90 = .ok (.lookupswitch 42 #[(0, 26), (1, 34)], 26) := by decide +kernel
theorem dX7_after_116 : decode cX7_after 116 = .ok (.aload_n 0, 1) := by decide +kernel
theorem dX7_after_117 : decode cX7_after 117 = .ok (.getfield 42, 3) := by decide +kernel
theorem dX7_after_120 : decode cX7_after 120 = .ok (.getfield 159, 3) := by decide +kernel
theorem dX7_after_123 : decode cX7_after 123 = .ok (.ireturn, 1) := by decide +kernel
theorem dX7_after_124 : decode cX7_after 124 = .ok (.aload_n 0, 1) := by decide +kernel
theorem dX7_after_125 : decode cX7_after 125 = .ok (.getfield 42, 3) := by decide +kernel
theorem dX7_after_128 : decode cX7_after 128 = .ok (.getfield 160, 3) := by decide +kernel
theorem dX7_after_131 : decode cX7_after 131 = .ok (.ireturn, 1) := by decide +kernel
theorem dX7_after_132 : decode cX7_after 132 = .ok (.aload_n 0, 1) := by decide +kernel
theorem dX7_after_133 : decode cX7_after 133 = .ok (.getfield 42, 3) := by decide +kernel
theorem dX7_after_136 : decode cX7_after 136 = .ok (.getfield 163, 3) := by decide +kernel
theorem dX7_after_139 : decode cX7_after 139 = .ok (.ireturn, 1) := by decide +kernel
theorem dX7_book_0 : decode cX7_book 0 = .ok (.iload_n 1, 1) := by decide +kernel
theorem dX7_book_1 : decode cX7_book 1 = .ok (.iconst (-1), 1) := by decide +kernel
theorem dX7_book_2 : decode cX7_book 2 = .ok (.if_icmp .ne 14, 3) := by decide +kernel
theorem dX7_book_5 : decode cX7_book 5 = .ok (.aload_n 0, 1) := by decide +kernel
theorem dX7_book_6 : decode cX7_book 6 = .ok (.getfield 12, 3) := by decide +kernel
theorem dX7_book_9 : decode cX7_book 9 = .ok (.getfield 266, 3) := by decide +kernel
theorem dX7_book_12 : decode cX7_book 12 = .ok (.invokevirtual 213, 3) := by decide +kernel
theorem dX7_book_15 : decode cX7_book 15 = .ok (.ireturn, 1) := by decide +kernel
theorem dX7_book_16 : decode cX7_book 16 = .ok (.iload_n 1, 1) := by decide +kernel
theorem dX7_book_17 : decode cX7_book 17 = .ok (.invokestatic 130, 3) := by decide +kernel
theorem dX7_book_20 : decode cX7_book 20 = .ok (.ifCond .ne 5, 3) := by decide +kernel
theorem dX7_book_23 : decode cX7_book 23 = .ok (.iconst (-1), 1) := by decide +kernel
theorem dX7_book_24 : decode cX7_book 24 = .ok (.ireturn, 1) := by decide +kernel
theorem dX7_book_25 : decode cX7_book 25 = .ok (.iload_n 2, 1) := by decide +kernel
theorem dX7_book_26 : decode cX7_book 26 = .ok (.iconst 1, 1) := by decide +kernel
theorem dX7_book_27 : decode cX7_book 27 = .ok (.if_icmp .lt 9, 3) := by decide +kernel
theorem dX7_book_30 : decode cX7_book 30 = .ok (.iload_n 2, 1) := by decide +kernel
theorem dX7_book_31 : decode cX7_book 31 = .ok (.bipush 6, 2) := by decide +kernel
theorem dX7_book_33 : decode cX7_book 33 = .ok (.if_icmp .le 6, 3) := by decide +kernel
theorem dX7_book_36 : decode cX7_book 36 = .ok (.bipush (-2), 2) := by decide +kernel
theorem dX7_book_38 : decode cX7_book 38 = .ok (.ireturn, 1) := by decide +kernel
theorem dX7_book_39 : decode cX7_book 39 = .ok (.aload_n 0, 1) := by decide +kernel
theorem dX7_book_40 : decode cX7_book 40 = .ok (.getfield 12, 3) := by decide +kernel
theorem dX7_book_43 : decode cX7_book 43 = .ok (.getfield 266, 3) := by decide +kernel
theorem dX7_book_46 : decode cX7_book 46 = .ok (.invokevirtual 218, 3) := by decide +kernel
theorem dX7_book_49 : decode cX7_book 49 = .ok (.ifCond .eq 8, 3) := by decide +kernel
theorem dX7_book_52 : decode cX7_book 52 = .ok (.bipush (-4), 2) := by decide +kernel
theorem dX7_book_54 : decode cX7_book 54 = .ok (.goto 15, 3) := by decide +kernel
theorem dX7_book_57 : decode cX7_book 57 = .ok (.aload_n 0, 1) := by decide +kernel
theorem dX7_book_58 : decode cX7_book 58 = .ok (.getfield 12, 3) := by decide +kernel
theorem dX7_book_61 : decode cX7_book 61 = .ok (.getfield 266, 3) := by decide +kernel
theorem dX7_book_64 : decode cX7_book 64 = .ok (.iload_n 1, 1) := by decide +kernel
theorem dX7_book_65 : decode cX7_book 65 = .ok (.iload_n 2, 1) := by decide +kernel
theorem dX7_book_66 : decode cX7_book 66 = .ok (.invokevirtual 221, 3) := by decide +kernel
theorem dX7_book_69 : decode cX7_book 69 = .ok (.ireturn, 1) := by decide +kernel
theorem dX7_looked_0 : decode cX7_looked 0 = .ok (.aload_n 0, 1) := by decide +kernel
theorem dX7_looked_1 : decode cX7_looked 1 = .ok (.invokevirtual 93, 3) := by decide +kernel
theorem dX7_looked_4 : decode cX7_looked 4 = .ok (.astore_n 1, 1) := by decide +kernel
theorem dX7_looked_5 : decode cX7_looked 5 = .ok (.iconst 0, 1) := by decide +kernel
theorem dX7_looked_6 : decode cX7_looked 6 = .ok (.istore_n 2, 1) := by decide +kernel
theorem dX7_looked_7 : decode cX7_looked 7 = .ok (.iload_n 2, 1) := by decide +kernel
theorem dX7_looked_8 : decode cX7_looked 8 = .ok (.aload_n 0, 1) := by decide +kernel
theorem dX7_looked_9 : decode cX7_looked 9 = .ok (.getfield 12, 3) := by decide +kernel
theorem dX7_looked_12 : decode cX7_looked 12 = .ok (.getfield 266, 3) := by decide +kernel
theorem dX7_looked_15 : decode cX7_looked 15 = .ok (.getfield 231, 3) := by decide +kernel
theorem dX7_looked_18 : decode cX7_looked 18 = .ok (.if_icmp .ge 52, 3) := by decide +kernel
theorem dX7_looked_21 : decode cX7_looked 21 = .ok (.aload_n 0, 1) := by decide +kernel
theorem dX7_looked_22 : decode cX7_looked 22 = .ok (.getfield 12, 3) := by decide +kernel
theorem dX7_looked_25 : decode cX7_looked 25 = .ok (.getfield 266, 3) := by decide +kernel
theorem dX7_looked_28 : decode cX7_looked 28 = .ok (.getfield 235, 3) := by decide +kernel
theorem dX7_looked_31 : decode cX7_looked 31 = .ok (.iload_n 2, 1) := by decide +kernel
theorem dX7_looked_32 : decode cX7_looked 32 = .ok (.iaload, 1) := by decide +kernel
theorem dX7_looked_33 : decode cX7_looked 33 = .ok (.istore_n 3, 1) := by decide +kernel
theorem dX7_looked_34 : decode cX7_looked 34 = .ok (.aload_n 1, 1) := by decide +kernel
theorem dX7_looked_35 : decode cX7_looked 35 = .ok (.getfield 170, 3) := by decide +kernel
theorem dX7_looked_38 : decode cX7_looked 38 = .ok (.iload_n 3, 1) := by decide +kernel
theorem dX7_looked_39 : decode cX7_looked 39 = .ok (.baload, 1) := by decide +kernel
theorem dX7_looked_40 : decode cX7_looked 40 = .ok (.ifCond .eq 22, 3) := by decide +kernel
theorem dX7_looked_43 : decode cX7_looked 43 = .ok (.iload_n 3, 1) := by decide +kernel
theorem dX7_looked_44 : decode cX7_looked 44 = .ok (.invokestatic 141, 3) := by decide +kernel
theorem dX7_looked_47 : decode cX7_looked 47 = .ok (.aload_n 0, 1) := by decide +kernel
theorem dX7_looked_48 : decode cX7_looked 48 = .ok (.getfield 12, 3) := by decide +kernel
theorem dX7_looked_51 : decode cX7_looked 51 = .ok (.getfield 266, 3) := by decide +kernel
theorem dX7_looked_54 : decode cX7_looked 54 = .ok (.getfield 232, 3) := by decide +kernel
theorem dX7_looked_57 : decode cX7_looked 57 = .ok (.iload_n 2, 1) := by decide +kernel
theorem dX7_looked_58 : decode cX7_looked 58 = .ok (.iaload, 1) := by decide +kernel
theorem dX7_looked_59 : decode cX7_looked 59 = .ok (.if_icmp .eq 5, 3) := by decide +kernel
theorem dX7_looked_62 : decode cX7_looked 62 = .ok (.iload_n 2, 1) := by decide +kernel
theorem dX7_looked_63 : decode cX7_looked 63 = .ok (.ireturn, 1) := by decide +kernel
theorem dX7_looked_64 : decode cX7_looked 64 = .ok (.iinc 2 1, 3) := by decide +kernel
theorem dX7_looked_67 : decode cX7_looked 67 = .ok (.goto (-60), 3) := by decide +kernel
theorem dX7_looked_70 : decode cX7_looked 70 = .ok (.bipush (-5), 2) := by decide +kernel
theorem dX7_looked_72 : decode cX7_looked 72 = .ok (.ireturn, 1) := by decide +kernel
theorem dX7_judge_0 : decode cX7_judge 0 = .ok (.iload_n 1, 1) := by decide +kernel
theorem dX7_judge_1 : decode cX7_judge 1 = .ok (.invokestatic 269, 3) := by decide +kernel
theorem dX7_judge_4 : decode cX7_judge 4 = .ok (.ifCond .ne 5, 3) := by decide +kernel
theorem dX7_judge_7 : decode cX7_judge 7 = .ok (.iconst (-1), 1) := by decide +kernel
theorem dX7_judge_8 : decode cX7_judge 8 = .ok (.ireturn, 1) := by decide +kernel
theorem dX7_judge_9 : decode cX7_judge 9 = .ok (.aload_n 0, 1) := by decide +kernel
theorem dX7_judge_10 : decode cX7_judge 10 = .ok (.getfield 54, 3) := by decide +kernel
theorem dX7_judge_13 : decode cX7_judge 13 = .ok (.iload_n 1, 1) := by decide +kernel
theorem dX7_judge_14 : decode cX7_judge 14 = .ok (.aaload, 1) := by decide +kernel
theorem dX7_judge_15 : decode cX7_judge 15 = .ok (.astore_n 3, 1) := by decide +kernel
theorem dX7_judge_16 : decode cX7_judge 16 = .ok (.aload_n 3, 1) := by decide +kernel
theorem dX7_judge_17 : decode cX7_judge 17 = .ok (.getfield 272, 3) := by decide +kernel
theorem dX7_judge_20 : decode cX7_judge 20 = .ok (.iconst (-1), 1) := by decide +kernel
theorem dX7_judge_21 : decode cX7_judge 21 = .ok (.if_icmp .eq 13, 3) := by decide +kernel
theorem dX7_judge_24 : decode cX7_judge 24 = .ok (.aload_n 3, 1) := by decide +kernel
theorem dX7_judge_25 : decode cX7_judge 25 = .ok (.getfield 272, 3) := by decide +kernel
theorem dX7_judge_28 : decode cX7_judge 28 = .ok (.ifCond .eq 6, 3) := by decide +kernel
theorem dX7_judge_31 : decode cX7_judge 31 = .ok (.bipush (-12), 2) := by decide +kernel
theorem dX7_judge_33 : decode cX7_judge 33 = .ok (.ireturn, 1) := by decide +kernel
theorem dX7_judge_34 : decode cX7_judge 34 = .ok (.aload_n 0, 1) := by decide +kernel
theorem dX7_judge_35 : decode cX7_judge 35 = .ok (.invokevirtual 93, 3) := by decide +kernel
theorem dX7_judge_38 : decode cX7_judge 38 = .ok (.astore 4, 2) := by decide +kernel
theorem dX7_judge_40 : decode cX7_judge 40 = .ok (.iconst 0, 1) := by decide +kernel
theorem dX7_judge_41 : decode cX7_judge 41 = .ok (.istore 5, 2) := by decide +kernel
theorem dX7_judge_43 : decode cX7_judge 43 = .ok (.iload 5, 2) := by decide +kernel
theorem dX7_judge_45 : decode cX7_judge 45 = .ok (.aload 4, 2) := by decide +kernel
theorem dX7_judge_47 : decode cX7_judge 47 = .ok (.getfield 159, 3) := by decide +kernel
theorem dX7_judge_50 : decode cX7_judge 50 = .ok (.if_icmp .ge 59, 3) := by decide +kernel
theorem dX7_judge_53 : decode cX7_judge 53 = .ok (.aload_n 3, 1) := by decide +kernel
theorem dX7_judge_54 : decode cX7_judge 54 = .ok (.iload_n 2, 1) := by decide +kernel
theorem dX7_judge_55 : decode cX7_judge 55 = .ok (.invokevirtual 275, 3) := by decide +kernel
theorem dX7_judge_58 : decode cX7_judge 58 = .ok (.ifCond .eq 14, 3) := by decide +kernel
theorem dX7_judge_61 : decode cX7_judge 61 = .ok (.aload_n 3, 1) := by decide +kernel
theorem dX7_judge_62 : decode cX7_judge 62 = .ok (.iload_n 2, 1) := by decide +kernel
theorem dX7_judge_63 : decode cX7_judge 63 = .ok (.iload 5, 2) := by decide +kernel
theorem dX7_judge_65 : decode cX7_judge 65 = .ok (.iadd, 1) := by decide +kernel
theorem dX7_judge_66 : decode cX7_judge 66 = .ok (.invokevirtual 275, 3) := by decide +kernel
theorem dX7_judge_69 : decode cX7_judge 69 = .ok (.ifCond .ne 9, 3) := by decide +kernel
theorem dX7_judge_72 : decode cX7_judge 72 = .ok (.bipush 100, 2) := by decide +kernel
theorem dX7_judge_74 : decode cX7_judge 74 = .ok (.iload 5, 2) := by decide +kernel
theorem dX7_judge_76 : decode cX7_judge 76 = .ok (.iadd, 1) := by decide +kernel
theorem dX7_judge_77 : decode cX7_judge 77 = .ok (.ireturn, 1) := by decide +kernel
theorem dX7_judge_78 : decode cX7_judge 78 = .ok (.aload_n 3, 1) := by decide +kernel
theorem dX7_judge_79 : decode cX7_judge 79 = .ok (.getfield 278, 3) := by decide +kernel
theorem dX7_judge_82 : decode cX7_judge 82 = .ok (.iload_n 2, 1) := by decide +kernel
theorem dX7_judge_83 : decode cX7_judge 83 = .ok (.iload 5, 2) := by decide +kernel
theorem dX7_judge_85 : decode cX7_judge 85 = .ok (.iadd, 1) := by decide +kernel
theorem dX7_judge_86 : decode cX7_judge 86 = .ok (.laload, 1) := by decide +kernel
theorem dX7_judge_87 : decode cX7_judge 87 = .ok (.aload 4, 2) := by decide +kernel
theorem dX7_judge_89 : decode cX7_judge 89 = .ok (.getfield 181, 3) := by decide +kernel
theorem dX7_judge_92 : decode cX7_judge 92 = .ok (.iload 5, 2) := by decide +kernel
theorem dX7_judge_94 : decode cX7_judge 94 = .ok (.iaload, 1) := by decide +kernel
theorem dX7_judge_95 : decode cX7_judge 95 = .ok (.i2l, 1) := by decide +kernel
theorem dX7_judge_96 : decode cX7_judge 96 = .ok (.lcmp, 1) := by decide +kernel
theorem dX7_judge_97 : decode cX7_judge 97 = .ok (.ifCond .eq 6, 3) := by decide +kernel
theorem dX7_judge_100 : decode cX7_judge 100 = .ok (.iload 5, 2) := by decide +kernel
theorem dX7_judge_102 : decode cX7_judge 102 = .ok (.ireturn, 1) := by decide +kernel
theorem dX7_judge_103 : decode cX7_judge 103 = .ok (.iinc 5 1, 3) := by decide +kernel
theorem dX7_judge_106 : decode cX7_judge 106 = .ok (.goto (-63), 3) := by decide +kernel
theorem dX7_judge_109 : decode cX7_judge 109 = .ok (.bipush (-5), 2) := by decide +kernel
theorem dX7_judge_111 : decode cX7_judge 111 = .ok (.ireturn, 1) := by decide +kernel
theorem dX7_image_0 : decode cX7_image 0 = .ok (.aload_n 0, 1) := by decide +kernel
theorem dX7_image_1 : decode cX7_image 1 = .ok (.getfield 18, 3) := by decide +kernel
theorem dX7_image_4 : decode cX7_image 4 = .ok (.aload_n 0, 1) := by decide +kernel
theorem dX7_image_5 : decode cX7_image 5 = .ok (.getfield 12, 3) := by decide +kernel
theorem dX7_image_8 : decode cX7_image 8 = .ok (.invokevirtual 282, 3) := by decide +kernel
theorem dX7_image_11 : decode cX7_image 11 = .ok (.aload_n 0, 1) := by decide +kernel
theorem dX7_image_12 : decode cX7_image 12 = .ok (.iconst 1, 1) := by decide +kernel
theorem dX7_image_13 : decode cX7_image 13 = .ok (.putfield 21, 3) := by decide +kernel
theorem dX7_image_16 : decode cX7_image 16 = .ok (.aload_n 0, 1) := by decide +kernel
theorem dX7_image_17 : decode cX7_image 17 = .ok (.getfield 12, 3) := by decide +kernel
theorem dX7_image_20 : decode cX7_image 20 = .ok (.getfield 67, 3) := by decide +kernel
theorem dX7_image_23 : decode cX7_image 23 = .ok (.getfield 74, 3) := by decide +kernel
theorem dX7_image_26 : decode cX7_image 26 = .ok (.ireturn, 1) := by decide +kernel
theorem dX7_undo_0 : decode cX7_undo 0 = .ok (.aload_n 0, 1) := by decide +kernel
theorem dX7_undo_1 : decode cX7_undo 1 = .ok (.getfield 21, 3) := by decide +kernel
theorem dX7_undo_4 : decode cX7_undo 4 = .ok (.ifCond .ne 6, 3) := by decide +kernel
theorem dX7_undo_7 : decode cX7_undo 7 = .ok (.bipush (-3), 2) := by decide +kernel
theorem dX7_undo_9 : decode cX7_undo 9 = .ok (.ireturn, 1) := by decide +kernel
theorem dX7_undo_10 : decode cX7_undo 10 = .ok (.aload_n 0, 1) := by decide +kernel
theorem dX7_undo_11 : decode cX7_undo 11 = .ok (.getfield 12, 3) := by decide +kernel
theorem dX7_undo_14 : decode cX7_undo 14 = .ok (.aload_n 0, 1) := by decide +kernel
theorem dX7_undo_15 : decode cX7_undo 15 = .ok (.getfield 18, 3) := by decide +kernel
theorem dX7_undo_18 : decode cX7_undo 18 = .ok (.invokevirtual 282, 3) := by decide +kernel
theorem dX7_undo_21 : decode cX7_undo 21 = .ok (.aload_n 0, 1) := by decide +kernel
theorem dX7_undo_22 : decode cX7_undo 22 = .ok (.iconst 1, 1) := by decide +kernel
theorem dX7_undo_23 : decode cX7_undo 23 = .ok (.putfield 32, 3) := by decide +kernel
theorem dX7_undo_26 : decode cX7_undo 26 = .ok (.aload_n 0, 1) := by decide +kernel
theorem dX7_undo_27 : decode cX7_undo 27 = .ok (.getfield 12, 3) := by decide +kernel
theorem dX7_undo_30 : decode cX7_undo 30 = .ok (.getfield 67, 3) := by decide +kernel
theorem dX7_undo_33 : decode cX7_undo 33 = .ok (.getfield 74, 3) := by decide +kernel
theorem dX7_undo_36 : decode cX7_undo 36 = .ok (.ireturn, 1) := by decide +kernel
theorem dX7_count_0 : decode cX7_count 0 = .ok (.iload_n 1, 1) := by decide +kernel
theorem dX7_count_1 : decode cX7_count 1 = .ok (.tableswitch 72 0 3 #[31, 42, 53, 64], 31) := by decide +kernel
theorem dX7_count_32 : decode cX7_count 32 = .ok (.aload_n 0, 1) := by decide +kernel
theorem dX7_count_33 : decode cX7_count 33 = .ok (.getfield 12, 3) := by decide +kernel
theorem dX7_count_36 : decode cX7_count 36 = .ok (.getfield 209, 3) := by decide +kernel
theorem dX7_count_39 : decode cX7_count 39 = .ok (.getfield 231, 3) := by decide +kernel
theorem dX7_count_42 : decode cX7_count 42 = .ok (.ireturn, 1) := by decide +kernel
theorem dX7_count_43 : decode cX7_count 43 = .ok (.aload_n 0, 1) := by decide +kernel
theorem dX7_count_44 : decode cX7_count 44 = .ok (.getfield 12, 3) := by decide +kernel
theorem dX7_count_47 : decode cX7_count 47 = .ok (.getfield 252, 3) := by decide +kernel
theorem dX7_count_50 : decode cX7_count 50 = .ok (.getfield 231, 3) := by decide +kernel
theorem dX7_count_53 : decode cX7_count 53 = .ok (.ireturn, 1) := by decide +kernel
theorem dX7_count_54 : decode cX7_count 54 = .ok (.aload_n 0, 1) := by decide +kernel
theorem dX7_count_55 : decode cX7_count 55 = .ok (.getfield 12, 3) := by decide +kernel
theorem dX7_count_58 : decode cX7_count 58 = .ok (.getfield 266, 3) := by decide +kernel
theorem dX7_count_61 : decode cX7_count 61 = .ok (.getfield 231, 3) := by decide +kernel
theorem dX7_count_64 : decode cX7_count 64 = .ok (.ireturn, 1) := by decide +kernel
theorem dX7_count_65 : decode cX7_count 65 = .ok (.aload_n 0, 1) := by decide +kernel
theorem dX7_count_66 : decode cX7_count 66 = .ok (.getfield 48, 3) := by decide +kernel
theorem dX7_count_69 : decode cX7_count 69 = .ok (.getfield 103, 3) := by decide +kernel
theorem dX7_count_72 : decode cX7_count 72 = .ok (.ireturn, 1) := by decide +kernel
theorem dX7_count_73 : decode cX7_count 73 = .ok (.bipush (-2), 2) := by decide +kernel
theorem dX7_count_75 : decode cX7_count 75 = .ok (.ireturn, 1) := by decide +kernel
theorem dX7_tape_0 : decode cX7_tape 0 = .ok (.iload_n 1, 1) := by decide +kernel
theorem dX7_tape_1 : decode cX7_tape 1 = .ok (.invokestatic 269, 3) := by decide +kernel
theorem dX7_tape_4 : decode cX7_tape 4 = .ok (.ifCond .ne 5, 3) := by decide +kernel
theorem dX7_tape_7 : decode cX7_tape 7 = .ok (.iconst (-1), 1) := by decide +kernel
theorem dX7_tape_8 : decode cX7_tape 8 = .ok (.ireturn, 1) := by decide +kernel
theorem dX7_tape_9 : decode cX7_tape 9 = .ok (.iload_n 2, 1) := by decide +kernel
theorem dX7_tape_10 : decode cX7_tape 10 = .ok (.iconst (-1), 1) := by decide +kernel
theorem dX7_tape_11 : decode cX7_tape 11 = .ok (.if_icmp .ne 16, 3) := by decide +kernel
theorem dX7_tape_14 : decode cX7_tape 14 = .ok (.aload_n 0, 1) := by decide +kernel
theorem dX7_tape_15 : decode cX7_tape 15 = .ok (.getfield 54, 3) := by decide +kernel
theorem dX7_tape_18 : decode cX7_tape 18 = .ok (.iload_n 1, 1) := by decide +kernel
theorem dX7_tape_19 : decode cX7_tape 19 = .ok (.aaload, 1) := by decide +kernel
theorem dX7_tape_20 : decode cX7_tape 20 = .ok (.iconst (-1), 1) := by decide +kernel
theorem dX7_tape_21 : decode cX7_tape 21 = .ok (.iconst 0, 1) := by decide +kernel
theorem dX7_tape_22 : decode cX7_tape 22 = .ok (.invokevirtual 285, 3) := by decide +kernel
theorem dX7_tape_25 : decode cX7_tape 25 = .ok (.iconst 1, 1) := by decide +kernel
theorem dX7_tape_26 : decode cX7_tape 26 = .ok (.ireturn, 1) := by decide +kernel
theorem dX7_tape_27 : decode cX7_tape 27 = .ok (.iload_n 2, 1) := by decide +kernel
theorem dX7_tape_28 : decode cX7_tape 28 = .ok (.ifCond .lt 14, 3) := by decide +kernel
theorem dX7_tape_31 : decode cX7_tape 31 = .ok (.iload_n 2, 1) := by decide +kernel
theorem dX7_tape_32 : decode cX7_tape 32 = .ok (.iconst 4, 1) := by decide +kernel
theorem dX7_tape_33 : decode cX7_tape 33 = .ok (.if_icmp .gt 9, 3) := by decide +kernel
theorem dX7_tape_36 : decode cX7_tape 36 = .ok (.iload_n 3, 1) := by decide +kernel
theorem dX7_tape_37 : decode cX7_tape 37 = .ok (.bipush 60, 2) := by decide +kernel
theorem dX7_tape_39 : decode cX7_tape 39 = .ok (.if_icmp .le 6, 3) := by decide +kernel
theorem dX7_tape_42 : decode cX7_tape 42 = .ok (.bipush (-2), 2) := by decide +kernel
theorem dX7_tape_44 : decode cX7_tape 44 = .ok (.ireturn, 1) := by decide +kernel
theorem dX7_tape_45 : decode cX7_tape 45 = .ok (.iload_n 3, 1) := by decide +kernel
theorem dX7_tape_46 : decode cX7_tape 46 = .ok (.ifCond .ge 6, 3) := by decide +kernel
theorem dX7_tape_49 : decode cX7_tape 49 = .ok (.bipush (-14), 2) := by decide +kernel
theorem dX7_tape_51 : decode cX7_tape 51 = .ok (.ireturn, 1) := by decide +kernel
theorem dX7_tape_52 : decode cX7_tape 52 = .ok (.aload_n 0, 1) := by decide +kernel
theorem dX7_tape_53 : decode cX7_tape 53 = .ok (.getfield 54, 3) := by decide +kernel
theorem dX7_tape_56 : decode cX7_tape 56 = .ok (.iload_n 1, 1) := by decide +kernel
theorem dX7_tape_57 : decode cX7_tape 57 = .ok (.aaload, 1) := by decide +kernel
theorem dX7_tape_58 : decode cX7_tape 58 = .ok (.iload_n 2, 1) := by decide +kernel
theorem dX7_tape_59 : decode cX7_tape 59 = .ok (.iload_n 3, 1) := by decide +kernel
theorem dX7_tape_60 : decode cX7_tape 60 = .ok (.invokevirtual 285, 3) := by decide +kernel
theorem dX7_tape_63 : decode cX7_tape 63 = .ok (.iconst 1, 1) := by decide +kernel
theorem dX7_tape_64 : decode cX7_tape 64 = .ok (.ireturn, 1) := by decide +kernel
theorem dX7_item_0 : decode cX7_item 0 = .ok (.iload_n 1, 1) := by decide +kernel
theorem dX7_item_1 : decode cX7_item 1 = .ok (.invokestatic 269, 3) := by decide +kernel
theorem dX7_item_4 : decode cX7_item 4 = .ok (.ifCond .ne 5, 3) := by decide +kernel
theorem dX7_item_7 : decode cX7_item 7 = .ok (.iconst (-1), 1) := by decide +kernel
theorem dX7_item_8 : decode cX7_item 8 = .ok (.ireturn, 1) := by decide +kernel
theorem dX7_item_9 : decode cX7_item 9 = .ok (.aload_n 0, 1) := by decide +kernel
theorem dX7_item_10 : decode cX7_item 10 = .ok (.getfield 54, 3) := by decide +kernel
theorem dX7_item_13 : decode cX7_item 13 = .ok (.iload_n 1, 1) := by decide +kernel
theorem dX7_item_14 : decode cX7_item 14 = .ok (.aaload, 1) := by decide +kernel
theorem dX7_item_15 : decode cX7_item 15 = .ok (.astore 5, 2) := by decide +kernel
theorem dX7_item_17 : decode cX7_item 17 = .ok (.aload 5, 2) := by decide +kernel
theorem dX7_item_19 : decode cX7_item 19 = .ok (.getfield 272, 3) := by decide +kernel
theorem dX7_item_22 : decode cX7_item 22 = .ok (.iconst (-1), 1) := by decide +kernel
theorem dX7_item_23 : decode cX7_item 23 = .ok (.if_icmp .ne 6, 3) := by decide +kernel
theorem dX7_item_26 : decode cX7_item 26 = .ok (.bipush (-11), 2) := by decide +kernel
theorem dX7_item_28 : decode cX7_item 28 = .ok (.ireturn, 1) := by decide +kernel
theorem dX7_item_29 : decode cX7_item 29 = .ok (.aload 5, 2) := by decide +kernel
theorem dX7_item_31 : decode cX7_item 31 = .ok (.iload_n 2, 1) := by decide +kernel
theorem dX7_item_32 : decode cX7_item 32 = .ok (.invokevirtual 275, 3) := by decide +kernel
theorem dX7_item_35 : decode cX7_item 35 = .ok (.ifCond .ne 6, 3) := by decide +kernel
theorem dX7_item_38 : decode cX7_item 38 = .ok (.bipush (-13), 2) := by decide +kernel
theorem dX7_item_40 : decode cX7_item 40 = .ok (.ireturn, 1) := by decide +kernel
theorem dX7_item_41 : decode cX7_item 41 = .ok (.aload 5, 2) := by decide +kernel
theorem dX7_item_43 : decode cX7_item 43 = .ok (.getfield 278, 3) := by decide +kernel
theorem dX7_item_46 : decode cX7_item 46 = .ok (.iload_n 2, 1) := by decide +kernel
theorem dX7_item_47 : decode cX7_item 47 = .ok (.aload 5, 2) := by decide +kernel
theorem dX7_item_49 : decode cX7_item 49 = .ok (.lload_n 3, 1) := by decide +kernel
theorem dX7_item_50 : decode cX7_item 50 = .ok (.invokevirtual 287, 3) := by decide +kernel
theorem dX7_item_53 : decode cX7_item 53 = .ok (.lastore, 1) := by decide +kernel
theorem dX7_item_54 : decode cX7_item 54 = .ok (.iconst 1, 1) := by decide +kernel
theorem dX7_item_55 : decode cX7_item 55 = .ok (.ireturn, 1) := by decide +kernel
theorem dX7_peek_0 : decode cX7_peek 0 = .ok (.iload_n 1, 1) := by decide +kernel
theorem dX7_peek_1 : decode cX7_peek 1 = .ok (.invokestatic 269, 3) := by decide +kernel
theorem dX7_peek_4 : decode cX7_peek 4 = .ok (.ifCond .eq 30, 3) := by decide +kernel
theorem dX7_peek_7 : decode cX7_peek 7 = .ok (.aload_n 0, 1) := by decide +kernel
theorem dX7_peek_8 : decode cX7_peek 8 = .ok (.getfield 54, 3) := by decide +kernel
theorem dX7_peek_11 : decode cX7_peek 11 = .ok (.iload_n 1, 1) := by decide +kernel
theorem dX7_peek_12 : decode cX7_peek 12 = .ok (.aaload, 1) := by decide +kernel
theorem dX7_peek_13 : decode cX7_peek 13 = .ok (.iload_n 2, 1) := by decide +kernel
theorem dX7_peek_14 : decode cX7_peek 14 = .ok (.invokevirtual 275, 3) := by decide +kernel
theorem dX7_peek_17 : decode cX7_peek 17 = .ok (.ifCond .eq 17, 3) := by decide +kernel
theorem dX7_peek_20 : decode cX7_peek 20 = .ok (.aload_n 0, 1) := by decide +kernel
theorem dX7_peek_21 : decode cX7_peek 21 = .ok (.getfield 54, 3) := by decide +kernel
theorem dX7_peek_24 : decode cX7_peek 24 = .ok (.iload_n 1, 1) := by decide +kernel
theorem dX7_peek_25 : decode cX7_peek 25 = .ok (.aaload, 1) := by decide +kernel
theorem dX7_peek_26 : decode cX7_peek 26 = .ok (.getfield 278, 3) := by decide +kernel
theorem dX7_peek_29 : decode cX7_peek 29 = .ok (.iload_n 2, 1) := by decide +kernel
theorem dX7_peek_30 : decode cX7_peek 30 = .ok (.laload, 1) := by decide +kernel
theorem dX7_peek_31 : decode cX7_peek 31 = .ok (.goto 6, 3) := by decide +kernel
theorem dX7_peek_34 : decode cX7_peek 34 = .ok (.ldc2_w 241, 3) := by decide +kernel
theorem dX7_peek_37 : decode cX7_peek 37 = .ok (.lreturn, 1) := by decide +kernel
theorem dX7_shift_0 : decode cX7_shift 0 = .ok (.iload_n 1, 1) := by decide +kernel
theorem dX7_shift_1 : decode cX7_shift 1 = .ok (.invokestatic 269, 3) := by decide +kernel
theorem dX7_shift_4 : decode cX7_shift 4 = .ok (.ifCond .eq 10, 3) := by decide +kernel
theorem dX7_shift_7 : decode cX7_shift 7 = .ok (.iload_n 3, 1) := by decide +kernel
theorem dX7_shift_8 : decode cX7_shift 8 = .ok (.invokestatic 269, 3) := by decide +kernel
theorem dX7_shift_11 : decode cX7_shift 11 = .ok (.ifCond .ne 5, 3) := by decide +kernel
theorem dX7_shift_14 : decode cX7_shift 14 = .ok (.iconst (-1), 1) := by decide +kernel
theorem dX7_shift_15 : decode cX7_shift 15 = .ok (.ireturn, 1) := by decide +kernel
theorem dX7_shift_16 : decode cX7_shift 16 = .ok (.aload_n 0, 1) := by decide +kernel
theorem dX7_shift_17 : decode cX7_shift 17 = .ok (.getfield 54, 3) := by decide +kernel
theorem dX7_shift_20 : decode cX7_shift 20 = .ok (.iload_n 1, 1) := by decide +kernel
theorem dX7_shift_21 : decode cX7_shift 21 = .ok (.aaload, 1) := by decide +kernel
theorem dX7_shift_22 : decode cX7_shift 22 = .ok (.astore 6, 2) := by decide +kernel
theorem dX7_shift_24 : decode cX7_shift 24 = .ok (.aload_n 0, 1) := by decide +kernel
theorem dX7_shift_25 : decode cX7_shift 25 = .ok (.getfield 54, 3) := by decide +kernel
theorem dX7_shift_28 : decode cX7_shift 28 = .ok (.iload_n 3, 1) := by decide +kernel
theorem dX7_shift_29 : decode cX7_shift 29 = .ok (.aaload, 1) := by decide +kernel
theorem dX7_shift_30 : decode cX7_shift 30 = .ok (.astore 7, 2) := by decide +kernel
theorem dX7_shift_32 : decode cX7_shift 32 = .ok (.aload 6, 2) := by decide +kernel
theorem dX7_shift_34 : decode cX7_shift 34 = .ok (.getfield 272, 3) := by decide +kernel
theorem dX7_shift_37 : decode cX7_shift 37 = .ok (.iconst (-1), 1) := by decide +kernel
theorem dX7_shift_38 : decode cX7_shift 38 = .ok (.if_icmp .eq 12, 3) := by decide +kernel
theorem dX7_shift_41 : decode cX7_shift 41 = .ok (.aload 7, 2) := by decide +kernel
theorem dX7_shift_43 : decode cX7_shift 43 = .ok (.getfield 272, 3) := by decide +kernel
theorem dX7_shift_46 : decode cX7_shift 46 = .ok (.iconst (-1), 1) := by decide +kernel
theorem dX7_shift_47 : decode cX7_shift 47 = .ok (.if_icmp .ne 6, 3) := by decide +kernel
theorem dX7_shift_50 : decode cX7_shift 50 = .ok (.bipush (-11), 2) := by decide +kernel
theorem dX7_shift_52 : decode cX7_shift 52 = .ok (.ireturn, 1) := by decide +kernel
theorem dX7_shift_53 : decode cX7_shift 53 = .ok (.aload 6, 2) := by decide +kernel
theorem dX7_shift_55 : decode cX7_shift 55 = .ok (.getfield 272, 3) := by decide +kernel
theorem dX7_shift_58 : decode cX7_shift 58 = .ok (.aload 7, 2) := by decide +kernel
theorem dX7_shift_60 : decode cX7_shift 60 = .ok (.getfield 272, 3) := by decide +kernel
theorem dX7_shift_63 : decode cX7_shift 63 = .ok (.if_icmp .eq 6, 3) := by decide +kernel
theorem dX7_shift_66 : decode cX7_shift 66 = .ok (.bipush (-12), 2) := by decide +kernel
theorem dX7_shift_68 : decode cX7_shift 68 = .ok (.ireturn, 1) := by decide +kernel
theorem dX7_shift_69 : decode cX7_shift 69 = .ok (.aload 6, 2) := by decide +kernel
theorem dX7_shift_71 : decode cX7_shift 71 = .ok (.iload_n 2, 1) := by decide +kernel
theorem dX7_shift_72 : decode cX7_shift 72 = .ok (.iload 5, 2) := by decide +kernel
theorem dX7_shift_74 : decode cX7_shift 74 = .ok (.invokevirtual 291, 3) := by decide +kernel
theorem dX7_shift_77 : decode cX7_shift 77 = .ok (.ifCond .eq 15, 3) := by decide +kernel
theorem dX7_shift_80 : decode cX7_shift 80 = .ok (.aload 7, 2) := by decide +kernel
theorem dX7_shift_82 : decode cX7_shift 82 = .ok (.iload 4, 2) := by decide +kernel
theorem dX7_shift_84 : decode cX7_shift 84 = .ok (.iload 5, 2) := by decide +kernel
theorem dX7_shift_86 : decode cX7_shift 86 = .ok (.invokevirtual 291, 3) := by decide +kernel
theorem dX7_shift_89 : decode cX7_shift 89 = .ok (.ifCond .ne 6, 3) := by decide +kernel
theorem dX7_shift_92 : decode cX7_shift 92 = .ok (.bipush (-13), 2) := by decide +kernel
theorem dX7_shift_94 : decode cX7_shift 94 = .ok (.ireturn, 1) := by decide +kernel
theorem dX7_shift_95 : decode cX7_shift 95 = .ok (.aload 6, 2) := by decide +kernel
theorem dX7_shift_97 : decode cX7_shift 97 = .ok (.getfield 278, 3) := by decide +kernel
theorem dX7_shift_100 : decode cX7_shift 100 = .ok (.iload_n 2, 1) := by decide +kernel
theorem dX7_shift_101 : decode cX7_shift 101 = .ok (.aload 7, 2) := by decide +kernel
theorem dX7_shift_103 : decode cX7_shift 103 = .ok (.getfield 278, 3) := by decide +kernel
theorem dX7_shift_106 : decode cX7_shift 106 = .ok (.iload 4, 2) := by decide +kernel
theorem dX7_shift_108 : decode cX7_shift 108 = .ok (.iload 5, 2) := by decide +kernel
theorem dX7_shift_110 : decode cX7_shift 110 = .ok (.invokestatic 294, 3) := by decide +kernel
theorem dX7_shift_113 : decode cX7_shift 113 = .ok (.iload 5, 2) := by decide +kernel
theorem dX7_shift_115 : decode cX7_shift 115 = .ok (.ireturn, 1) := by decide +kernel
theorem dX7_groupNow_0 : decode cX7_groupNow 0 = .ok (.aload_n 0, 1) := by decide +kernel
theorem dX7_groupNow_1 : decode cX7_groupNow 1 = .ok (.getfield 32, 3) := by decide +kernel
theorem dX7_groupNow_4 : decode cX7_groupNow 4 = .ok (.ifCond .eq 22, 3) := by decide +kernel
theorem dX7_groupNow_7 : decode cX7_groupNow 7 = .ok (.aload_n 0, 1) := by decide +kernel
theorem dX7_groupNow_8 : decode cX7_groupNow 8 = .ok (.getfield 28, 3) := by decide +kernel
theorem dX7_groupNow_11 : decode cX7_groupNow 11 = .ok (.aload_n 0, 1) := by decide +kernel
theorem dX7_groupNow_12 : decode cX7_groupNow 12 = .ok (.getfield 12, 3) := by decide +kernel
theorem dX7_groupNow_15 : decode cX7_groupNow 15 = .ok (.getfield 67, 3) := by decide +kernel
theorem dX7_groupNow_18 : decode cX7_groupNow 18 = .ok (.invokevirtual 263, 3) := by decide +kernel
theorem dX7_groupNow_21 : decode cX7_groupNow 21 = .ok (.aload_n 0, 1) := by decide +kernel
theorem dX7_groupNow_22 : decode cX7_groupNow 22 = .ok (.iconst 0, 1) := by decide +kernel
theorem dX7_groupNow_23 : decode cX7_groupNow 23 = .ok (.putfield 32, 3) := by decide +kernel
theorem dX7_groupNow_26 : decode cX7_groupNow 26 = .ok (.aload_n 0, 1) := by decide +kernel
theorem dX7_groupNow_27 : decode cX7_groupNow 27 = .ok (.getfield 28, 3) := by decide +kernel
theorem dX7_groupNow_30 : decode cX7_groupNow 30 = .ok (.areturn, 1) := by decide +kernel
theorem dX7_isPoint_0 : decode cX7_isPoint 0 = .ok (.iload_n 1, 1) := by decide +kernel
theorem dX7_isPoint_1 : decode cX7_isPoint 1 = .ok (.ifCond .lt 21, 3) := by decide +kernel
theorem dX7_isPoint_4 : decode cX7_isPoint 4 = .ok (.iload_n 1, 1) := by decide +kernel
theorem dX7_isPoint_5 : decode cX7_isPoint 5 = .ok (.aload_n 0, 1) := by decide +kernel
theorem dX7_isPoint_6 : decode cX7_isPoint 6 = .ok (.getfield 12, 3) := by decide +kernel
theorem dX7_isPoint_9 : decode cX7_isPoint 9 = .ok (.getfield 67, 3) := by decide +kernel
theorem dX7_isPoint_12 : decode cX7_isPoint 12 = .ok (.getfield 74, 3) := by decide +kernel
theorem dX7_isPoint_15 : decode cX7_isPoint 15 = .ok (.if_icmp .ge 7, 3) := by decide +kernel
theorem dX7_isPoint_18 : decode cX7_isPoint 18 = .ok (.iconst 1, 1) := by decide +kernel
theorem dX7_isPoint_19 : decode cX7_isPoint 19 = .ok (.goto 4, 3) := by decide +kernel
theorem dX7_isPoint_22 : decode cX7_isPoint 22 = .ok (.iconst 0, 1) := by decide +kernel
theorem dX7_isPoint_23 : decode cX7_isPoint 23 = .ok (.ireturn, 1) := by decide +kernel
theorem dX7_isPlace_0 : decode cX7_isPlace 0 = .ok (.iload_n 0, 1) := by decide +kernel
theorem dX7_isPlace_1 : decode cX7_isPlace 1 = .ok (.invokestatic 300, 3) := by decide +kernel
theorem dX7_isPlace_4 : decode cX7_isPlace 4 = .ok (.ifCond .eq 21, 3) := by decide +kernel
theorem dX7_isPlace_7 : decode cX7_isPlace 7 = .ok (.iload_n 1, 1) := by decide +kernel
theorem dX7_isPlace_8 : decode cX7_isPlace 8 = .ok (.invokestatic 300, 3) := by decide +kernel
theorem dX7_isPlace_11 : decode cX7_isPlace 11 = .ok (.ifCond .eq 14, 3) := by decide +kernel
theorem dX7_isPlace_14 : decode cX7_isPlace 14 = .ok (.iload_n 2, 1) := by decide +kernel
theorem dX7_isPlace_15 : decode cX7_isPlace 15 = .ok (.invokestatic 300, 3) := by decide +kernel
theorem dX7_isPlace_18 : decode cX7_isPlace 18 = .ok (.ifCond .eq 7, 3) := by decide +kernel
theorem dX7_isPlace_21 : decode cX7_isPlace 21 = .ok (.iconst 1, 1) := by decide +kernel
theorem dX7_isPlace_22 : decode cX7_isPlace 22 = .ok (.goto 4, 3) := by decide +kernel
theorem dX7_isPlace_25 : decode cX7_isPlace 25 = .ok (.iconst 0, 1) := by decide +kernel
theorem dX7_isPlace_26 : decode cX7_isPlace 26 = .ok (.ireturn, 1) := by decide +kernel
theorem dX7_isAxis_0 : decode cX7_isAxis 0 = .ok (.iload_n 0, 1) := by decide +kernel
theorem dX7_isAxis_1 : decode cX7_isAxis 1 = .ok (.bipush (-3), 2) := by decide +kernel
theorem dX7_isAxis_3 : decode cX7_isAxis 3 = .ok (.if_icmp .lt 12, 3) := by decide +kernel
theorem dX7_isAxis_6 : decode cX7_isAxis 6 = .ok (.iload_n 0, 1) := by decide +kernel
theorem dX7_isAxis_7 : decode cX7_isAxis 7 = .ok (.iconst 3, 1) := by decide +kernel
theorem dX7_isAxis_8 : decode cX7_isAxis 8 = .ok (.if_icmp .gt 7, 3) := by decide +kernel
theorem dX7_isAxis_11 : decode cX7_isAxis 11 = .ok (.iconst 1, 1) := by decide +kernel
theorem dX7_isAxis_12 : decode cX7_isAxis 12 = .ok (.goto 4, 3) := by decide +kernel
theorem dX7_isAxis_15 : decode cX7_isAxis 15 = .ok (.iconst 0, 1) := by decide +kernel
theorem dX7_isAxis_16 : decode cX7_isAxis 16 = .ok (.ireturn, 1) := by decide +kernel
theorem dX7_isMark_0 : decode cX7_isMark 0 = .ok (.iload_n 0, 1) := by decide +kernel
theorem dX7_isMark_1 : decode cX7_isMark 1 = .ok (.ifCond .lt 12, 3) := by decide +kernel
theorem dX7_isMark_4 : decode cX7_isMark 4 = .ok (.iload_n 0, 1) := by decide +kernel
theorem dX7_isMark_5 : decode cX7_isMark 5 = .ok (.iconst 5, 1) := by decide +kernel
theorem dX7_isMark_6 : decode cX7_isMark 6 = .ok (.if_icmp .ge 7, 3) := by decide +kernel
theorem dX7_isMark_9 : decode cX7_isMark 9 = .ok (.iconst 1, 1) := by decide +kernel
theorem dX7_isMark_10 : decode cX7_isMark 10 = .ok (.goto 4, 3) := by decide +kernel
theorem dX7_isMark_13 : decode cX7_isMark 13 = .ok (.iconst 0, 1) := by decide +kernel
theorem dX7_isMark_14 : decode cX7_isMark 14 = .ok (.ireturn, 1) := by decide +kernel
theorem dX7_isMotion_0 : decode cX7_isMotion 0 = .ok (.iload_n 0, 1) := by decide +kernel
theorem dX7_isMotion_1 : decode cX7_isMotion 1 = .ok (.ifCond .lt 12, 3) := by decide +kernel
theorem dX7_isMotion_4 : decode cX7_isMotion 4 = .ok (.iload_n 0, 1) := by decide +kernel
theorem dX7_isMotion_5 : decode cX7_isMotion 5 = .ok (.iconst 5, 1) := by decide +kernel
theorem dX7_isMotion_6 : decode cX7_isMotion 6 = .ok (.if_icmp .gt 7, 3) := by decide +kernel
theorem dX7_isMotion_9 : decode cX7_isMotion 9 = .ok (.iconst 1, 1) := by decide +kernel
theorem dX7_isMotion_10 : decode cX7_isMotion 10 = .ok (.goto 4, 3) := by decide +kernel
theorem dX7_isMotion_13 : decode cX7_isMotion 13 = .ok (.iconst 0, 1) := by decide +kernel
theorem dX7_isMotion_14 : decode cX7_isMotion 14 = .ok (.ireturn, 1) := by decide +kernel
theorem dX7_isPart_0 : decode cX7_isPart 0 = .ok (.iload_n 0, 1) := by decide +kernel
theorem dX7_isPart_1 : decode cX7_isPart 1 = .ok (.ifCond .eq 8, 3) := by decide +kernel
theorem dX7_isPart_4 : decode cX7_isPart 4 = .ok (.iload_n 0, 1) := by decide +kernel
theorem dX7_isPart_5 : decode cX7_isPart 5 = .ok (.iconst 1, 1) := by decide +kernel
theorem dX7_isPart_6 : decode cX7_isPart 6 = .ok (.if_icmp .ne 7, 3) := by decide +kernel
theorem dX7_isPart_9 : decode cX7_isPart 9 = .ok (.iconst 1, 1) := by decide +kernel
theorem dX7_isPart_10 : decode cX7_isPart 10 = .ok (.goto 4, 3) := by decide +kernel
theorem dX7_isPart_13 : decode cX7_isPart 13 = .ok (.iconst 0, 1) := by decide +kernel
theorem dX7_isPart_14 : decode cX7_isPart 14 = .ok (.ireturn, 1) := by decide +kernel
theorem dX7_isTape_0 : decode cX7_isTape 0 = .ok (.iload_n 0, 1) := by decide +kernel
theorem dX7_isTape_1 : decode cX7_isTape 1 = .ok (.ifCond .lt 13, 3) := by decide +kernel
theorem dX7_isTape_4 : decode cX7_isTape 4 = .ok (.iload_n 0, 1) := by decide +kernel
theorem dX7_isTape_5 : decode cX7_isTape 5 = .ok (.bipush 6, 2) := by decide +kernel
theorem dX7_isTape_7 : decode cX7_isTape 7 = .ok (.if_icmp .ge 7, 3) := by decide +kernel
theorem dX7_isTape_10 : decode cX7_isTape 10 = .ok (.iconst 1, 1) := by decide +kernel
theorem dX7_isTape_11 : decode cX7_isTape 11 = .ok (.goto 4, 3) := by decide +kernel
theorem dX7_isTape_14 : decode cX7_isTape 14 = .ok (.iconst 0, 1) := by decide +kernel
theorem dX7_isTape_15 : decode cX7_isTape 15 = .ok (.ireturn, 1) := by decide +kernel
end
section
theorem dX8_init_0 : decode cX8_init 0 = .ok (.aload_n 0, 1) := by decide +kernel
theorem dX8_init_1 : decode cX8_init 1 = .ok (.invokespecial 3, 3) := by decide +kernel
theorem dX8_init_4 : decode cX8_init 4 = .ok (.aload_n 0, 1) := by decide +kernel
theorem dX8_init_5 : decode cX8_init 5 = .ok (.bipush 78, 2) := by decide +kernel
theorem dX8_init_7 : decode cX8_init 7 = .ok (.newarray .int, 2) := by decide +kernel
theorem dX8_init_9 : decode cX8_init 9 = .ok (.putfield 11, 3) := by decide +kernel
theorem dX8_init_12 : decode cX8_init 12 = .ok (.aload_n 0, 1) := by decide +kernel
theorem dX8_init_13 : decode cX8_init 13 = .ok (.bipush 78, 2) := by decide +kernel
theorem dX8_init_15 : decode cX8_init 15 = .ok (.newarray .int, 2) := by decide +kernel
theorem dX8_init_17 : decode cX8_init 17 = .ok (.putfield 15, 3) := by decide +kernel
theorem dX8_init_20 : decode cX8_init 20 = .ok (.aload_n 0, 1) := by decide +kernel
theorem dX8_init_21 : decode cX8_init 21 = .ok (.bipush 78, 2) := by decide +kernel
theorem dX8_init_23 : decode cX8_init 23 = .ok (.newarray .int, 2) := by decide +kernel
theorem dX8_init_25 : decode cX8_init 25 = .ok (.putfield 18, 3) := by decide +kernel
theorem dX8_init_28 : decode cX8_init 28 = .ok (.aload_n 0, 1) := by decide +kernel
theorem dX8_init_29 : decode cX8_init 29 = .ok (.bipush 48, 2) := by decide +kernel
theorem dX8_init_31 : decode cX8_init 31 = .ok (.newarray .int, 2) := by decide +kernel
theorem dX8_init_33 : decode cX8_init 33 = .ok (.putfield 21, 3) := by decide +kernel
theorem dX8_init_36 : decode cX8_init 36 = .ok (.aload_n 0, 1) := by decide +kernel
theorem dX8_init_37 : decode cX8_init 37 = .ok (.bipush 48, 2) := by decide +kernel
theorem dX8_init_39 : decode cX8_init 39 = .ok (.newarray .boolean, 2) := by decide +kernel
theorem dX8_init_41 : decode cX8_init 41 = .ok (.putfield 24, 3) := by decide +kernel
theorem dX8_init_44 : decode cX8_init 44 = .ok (.aload_n 0, 1) := by decide +kernel
theorem dX8_init_45 : decode cX8_init 45 = .ok (.bipush 48, 2) := by decide +kernel
theorem dX8_init_47 : decode cX8_init 47 = .ok (.newarray .int, 2) := by decide +kernel
theorem dX8_init_49 : decode cX8_init 49 = .ok (.putfield 28, 3) := by decide +kernel
theorem dX8_init_52 : decode cX8_init 52 = .ok (.aload_n 0, 1) := by decide +kernel
theorem dX8_init_53 : decode cX8_init 53 = .ok (.bipush 48, 2) := by decide +kernel
theorem dX8_init_55 : decode cX8_init 55 = .ok (.newarray .boolean, 2) := by decide +kernel
theorem dX8_init_57 : decode cX8_init 57 = .ok (.putfield 31, 3) := by decide +kernel
theorem dX8_init_60 : decode cX8_init 60 = .ok (.aload_n 0, 1) := by decide +kernel
theorem dX8_init_61 : decode cX8_init 61 = .ok (.bipush 48, 2) := by decide +kernel
theorem dX8_init_63 : decode cX8_init 63 = .ok (.newarray .int, 2) := by decide +kernel
theorem dX8_init_65 : decode cX8_init 65 = .ok (.putfield 34, 3) := by decide +kernel
theorem dX8_init_68 : decode cX8_init 68 = .ok (.aload_n 0, 1) := by decide +kernel
theorem dX8_init_69 : decode cX8_init 69 = .ok (.sipush 3072, 3) := by decide +kernel
theorem dX8_init_72 : decode cX8_init 72 = .ok (.newarray .int, 2) := by decide +kernel
theorem dX8_init_74 : decode cX8_init 74 = .ok (.putfield 37, 3) := by decide +kernel
theorem dX8_init_77 : decode cX8_init 77 = .ok (.aload_n 0, 1) := by decide +kernel
theorem dX8_init_78 : decode cX8_init 78 = .ok (.bipush 100, 2) := by decide +kernel
theorem dX8_init_80 : decode cX8_init 80 = .ok (.newarray .int, 2) := by decide +kernel
theorem dX8_init_82 : decode cX8_init 82 = .ok (.putfield 40, 3) := by decide +kernel
theorem dX8_init_85 : decode cX8_init 85 = .ok (.aload_n 0, 1) := by decide +kernel
theorem dX8_init_86 : decode cX8_init 86 = .ok (.bipush 60, 2) := by decide +kernel
theorem dX8_init_88 : decode cX8_init 88 = .ok (.newarray .int, 2) := by decide +kernel
theorem dX8_init_90 : decode cX8_init 90 = .ok (.putfield 43, 3) := by decide +kernel
theorem dX8_init_93 : decode cX8_init 93 = .ok (.aload_n 0, 1) := by decide +kernel
theorem dX8_init_94 : decode cX8_init 94 = .ok (.bipush 6, 2) := by decide +kernel
theorem dX8_init_96 : decode cX8_init 96 = .ok (.newarray .int, 2) := by decide +kernel
theorem dX8_init_98 : decode cX8_init 98 = .ok (.dup, 1) := by decide +kernel
theorem dX8_init_99 : decode cX8_init 99 = .ok (.iconst 0, 1) := by decide +kernel
theorem dX8_init_100 : decode cX8_init 100 = .ok (.iconst (-1), 1) := by decide +kernel
theorem dX8_init_101 : decode cX8_init 101 = .ok (.iastore, 1) := by decide +kernel
theorem dX8_init_102 : decode cX8_init 102 = .ok (.dup, 1) := by decide +kernel
theorem dX8_init_103 : decode cX8_init 103 = .ok (.iconst 1, 1) := by decide +kernel
theorem dX8_init_104 : decode cX8_init 104 = .ok (.iconst (-1), 1) := by decide +kernel
theorem dX8_init_105 : decode cX8_init 105 = .ok (.iastore, 1) := by decide +kernel
theorem dX8_init_106 : decode cX8_init 106 = .ok (.dup, 1) := by decide +kernel
theorem dX8_init_107 : decode cX8_init 107 = .ok (.iconst 2, 1) := by decide +kernel
theorem dX8_init_108 : decode cX8_init 108 = .ok (.iconst (-1), 1) := by decide +kernel
theorem dX8_init_109 : decode cX8_init 109 = .ok (.iastore, 1) := by decide +kernel
theorem dX8_init_110 : decode cX8_init 110 = .ok (.dup, 1) := by decide +kernel
theorem dX8_init_111 : decode cX8_init 111 = .ok (.iconst 3, 1) := by decide +kernel
theorem dX8_init_112 : decode cX8_init 112 = .ok (.iconst (-1), 1) := by decide +kernel
theorem dX8_init_113 : decode cX8_init 113 = .ok (.iastore, 1) := by decide +kernel
theorem dX8_init_114 : decode cX8_init 114 = .ok (.dup, 1) := by decide +kernel
theorem dX8_init_115 : decode cX8_init 115 = .ok (.iconst 4, 1) := by decide +kernel
theorem dX8_init_116 : decode cX8_init 116 = .ok (.iconst (-1), 1) := by decide +kernel
theorem dX8_init_117 : decode cX8_init 117 = .ok (.iastore, 1) := by decide +kernel
theorem dX8_init_118 : decode cX8_init 118 = .ok (.dup, 1) := by decide +kernel
theorem dX8_init_119 : decode cX8_init 119 = .ok (.iconst 5, 1) := by decide +kernel
theorem dX8_init_120 : decode cX8_init 120 = .ok (.iconst (-1), 1) := by decide +kernel
theorem dX8_init_121 : decode cX8_init 121 = .ok (.iastore, 1) := by decide +kernel
theorem dX8_init_122 : decode cX8_init 122 = .ok (.putfield 46, 3) := by decide +kernel
theorem dX8_init_125 : decode cX8_init 125 = .ok (.aload_n 0, 1) := by decide +kernel
theorem dX8_init_126 : decode cX8_init 126 = .ok (.bipush 6, 2) := by decide +kernel
theorem dX8_init_128 : decode cX8_init 128 = .ok (.newarray .int, 2) := by decide +kernel
theorem dX8_init_130 : decode cX8_init 130 = .ok (.putfield 49, 3) := by decide +kernel
theorem dX8_init_133 : decode cX8_init 133 = .ok (.aload_n 0, 1) := by decide +kernel
theorem dX8_init_134 : decode cX8_init 134 = .ok (.sipush 360, 3) := by decide +kernel
theorem dX8_init_137 : decode cX8_init 137 = .ok (.newarray .long, 2) := by decide +kernel
theorem dX8_init_139 : decode cX8_init 139 = .ok (.putfield 52, 3) := by decide +kernel
theorem dX8_init_142 : decode cX8_init 142 = .ok (.return_, 1) := by decide +kernel
theorem dX8_in_0 : decode cX8_in 0 = .ok (.lload_n 0, 1) := by decide +kernel
theorem dX8_in_1 : decode cX8_in 1 = .ok (.lload_n 2, 1) := by decide +kernel
theorem dX8_in_2 : decode cX8_in 2 = .ok (.lcmp, 1) := by decide +kernel
theorem dX8_in_3 : decode cX8_in 3 = .ok (.ifCond .lt 14, 3) := by decide +kernel
theorem dX8_in_6 : decode cX8_in 6 = .ok (.lload_n 0, 1) := by decide +kernel
theorem dX8_in_7 : decode cX8_in 7 = .ok (.lload 4, 2) := by decide +kernel
theorem dX8_in_9 : decode cX8_in 9 = .ok (.lcmp, 1) := by decide +kernel
theorem dX8_in_10 : decode cX8_in 10 = .ok (.ifCond .gt 7, 3) := by decide +kernel
theorem dX8_in_13 : decode cX8_in 13 = .ok (.iconst 1, 1) := by decide +kernel
theorem dX8_in_14 : decode cX8_in 14 = .ok (.goto 4, 3) := by decide +kernel
theorem dX8_in_17 : decode cX8_in 17 = .ok (.iconst 0, 1) := by decide +kernel
theorem dX8_in_18 : decode cX8_in 18 = .ok (.ireturn, 1) := by decide +kernel
theorem dX8_copies_0 : decode cX8_copies 0 = .ok (.iconst 0, 1) := by decide +kernel
theorem dX8_copies_1 : decode cX8_copies 1 = .ok (.istore_n 2, 1) := by decide +kernel
theorem dX8_copies_2 : decode cX8_copies 2 = .ok (.iload_n 2, 1) := by decide +kernel
theorem dX8_copies_3 : decode cX8_copies 3 = .ok (.bipush 78, 2) := by decide +kernel
theorem dX8_copies_5 : decode cX8_copies 5 = .ok (.if_icmp .ge 15, 3) := by decide +kernel
theorem dX8_copies_8 : decode cX8_copies 8 = .ok (.aload_n 1, 1) := by decide +kernel
theorem dX8_copies_9 : decode cX8_copies 9 = .ok (.iload_n 2, 1) := by decide +kernel
theorem dX8_copies_10 : decode cX8_copies 10 = .ok (.aload_n 0, 1) := by decide +kernel
theorem dX8_copies_11 : decode cX8_copies 11 = .ok (.iload_n 2, 1) := by decide +kernel
theorem dX8_copies_12 : decode cX8_copies 12 = .ok (.iaload, 1) := by decide +kernel
theorem dX8_copies_13 : decode cX8_copies 13 = .ok (.iastore, 1) := by decide +kernel
theorem dX8_copies_14 : decode cX8_copies 14 = .ok (.iinc 2 1, 3) := by decide +kernel
theorem dX8_copies_17 : decode cX8_copies 17 = .ok (.goto (-15), 3) := by decide +kernel
theorem dX8_copies_20 : decode cX8_copies 20 = .ok (.return_, 1) := by decide +kernel
theorem dX8_isPoint_0 : decode cX8_isPoint 0 = .ok (.iload_n 1, 1) := by decide +kernel
theorem dX8_isPoint_1 : decode cX8_isPoint 1 = .ok (.i2l, 1) := by decide +kernel
theorem dX8_isPoint_2 : decode cX8_isPoint 2 = .ok (.lconst 0, 1) := by decide +kernel
theorem dX8_isPoint_3 : decode cX8_isPoint 3 = .ok (.aload_n 0, 1) := by decide +kernel
theorem dX8_isPoint_4 : decode cX8_isPoint 4 = .ok (.getfield 11, 3) := by decide +kernel
theorem dX8_isPoint_7 : decode cX8_isPoint 7 = .ok (.iconst 0, 1) := by decide +kernel
theorem dX8_isPoint_8 : decode cX8_isPoint 8 = .ok (.iaload, 1) := by decide +kernel
theorem dX8_isPoint_9 : decode cX8_isPoint 9 = .ok (.iconst 1, 1) := by decide +kernel
theorem dX8_isPoint_10 : decode cX8_isPoint 10 = .ok (.isub, 1) := by decide +kernel
theorem dX8_isPoint_11 : decode cX8_isPoint 11 = .ok (.i2l, 1) := by decide +kernel
theorem dX8_isPoint_12 : decode cX8_isPoint 12 = .ok (.invokestatic 56, 3) := by decide +kernel
theorem dX8_isPoint_15 : decode cX8_isPoint 15 = .ok (.ireturn, 1) := by decide +kernel
theorem dX8_isMove_0 : decode cX8_isMove 0 = .ok (.iload_n 0, 1) := by decide +kernel
theorem dX8_isMove_1 : decode cX8_isMove 1 = .ok (.i2l, 1) := by decide +kernel
theorem dX8_isMove_2 : decode cX8_isMove 2 = .ok (.lconst 0, 1) := by decide +kernel
theorem dX8_isMove_3 : decode cX8_isMove 3 = .ok (.ldc2_w 60, 3) := by decide +kernel
theorem dX8_isMove_6 : decode cX8_isMove 6 = .ok (.invokestatic 56, 3) := by decide +kernel
theorem dX8_isMove_9 : decode cX8_isMove 9 = .ok (.ireturn, 1) := by decide +kernel
theorem dX8_axis_0 : decode cX8_axis 0 = .ok (.ldc 62, 2) := by decide +kernel
theorem dX8_axis_2 : decode cX8_axis 2 = .ok (.iconst 3, 1) := by decide +kernel
theorem dX8_axis_3 : decode cX8_axis 3 = .ok (.iload_n 0, 1) := by decide +kernel
theorem dX8_axis_4 : decode cX8_axis 4 = .ok (.bipush 8, 2) := by decide +kernel
theorem dX8_axis_6 : decode cX8_axis 6 = .ok (.idiv, 1) := by decide +kernel
theorem dX8_axis_7 : decode cX8_axis 7 = .ok (.imul, 1) := by decide +kernel
theorem dX8_axis_8 : decode cX8_axis 8 = .ok (.iload_n 1, 1) := by decide +kernel
theorem dX8_axis_9 : decode cX8_axis 9 = .ok (.iadd, 1) := by decide +kernel
theorem dX8_axis_10 : decode cX8_axis 10 = .ok (.invokevirtual 64, 3) := by decide +kernel
theorem dX8_axis_13 : decode cX8_axis 13 = .ok (.bipush 48, 2) := by decide +kernel
theorem dX8_axis_15 : decode cX8_axis 15 = .ok (.isub, 1) := by decide +kernel
theorem dX8_axis_16 : decode cX8_axis 16 = .ok (.ireturn, 1) := by decide +kernel
theorem dX8_bit_0 : decode cX8_bit 0 = .ok (.iload_n 0, 1) := by decide +kernel
theorem dX8_bit_1 : decode cX8_bit 1 = .ok (.iload_n 1, 1) := by decide +kernel
theorem dX8_bit_2 : decode cX8_bit 2 = .ok (.ishr, 1) := by decide +kernel
theorem dX8_bit_3 : decode cX8_bit 3 = .ok (.iconst 1, 1) := by decide +kernel
theorem dX8_bit_4 : decode cX8_bit 4 = .ok (.iand, 1) := by decide +kernel
theorem dX8_bit_5 : decode cX8_bit 5 = .ok (.ireturn, 1) := by decide +kernel
theorem dX8_wayOf_0 : decode cX8_wayOf 0 = .ok (.iconst 0, 1) := by decide +kernel
theorem dX8_wayOf_1 : decode cX8_wayOf 1 = .ok (.istore_n 3, 1) := by decide +kernel
theorem dX8_wayOf_2 : decode cX8_wayOf 2 = .ok (.iconst 0, 1) := by decide +kernel
theorem dX8_wayOf_3 : decode cX8_wayOf 3 = .ok (.istore 4, 2) := by decide +kernel
theorem dX8_wayOf_5 : decode cX8_wayOf 5 = .ok (.iload 4, 2) := by decide +kernel
theorem dX8_wayOf_7 : decode cX8_wayOf 7 = .ok (.bipush 6, 2) := by decide +kernel
theorem dX8_wayOf_9 : decode cX8_wayOf 9 = .ok (.if_icmp .ge 80, 3) := by decide +kernel
theorem dX8_wayOf_12 : decode cX8_wayOf 12 = .ok (.ldc 62, 2) := by decide +kernel
theorem dX8_wayOf_14 : decode cX8_wayOf 14 = .ok (.iconst 3, 1) := by decide +kernel
theorem dX8_wayOf_15 : decode cX8_wayOf 15 = .ok (.iload 4, 2) := by decide +kernel
theorem dX8_wayOf_17 : decode cX8_wayOf 17 = .ok (.imul, 1) := by decide +kernel
theorem dX8_wayOf_18 : decode cX8_wayOf 18 = .ok (.invokevirtual 64, 3) := by decide +kernel
theorem dX8_wayOf_21 : decode cX8_wayOf 21 = .ok (.bipush 48, 2) := by decide +kernel
theorem dX8_wayOf_23 : decode cX8_wayOf 23 = .ok (.isub, 1) := by decide +kernel
theorem dX8_wayOf_24 : decode cX8_wayOf 24 = .ok (.iload_n 0, 1) := by decide +kernel
theorem dX8_wayOf_25 : decode cX8_wayOf 25 = .ok (.if_icmp .ne 43, 3) := by decide +kernel
theorem dX8_wayOf_28 : decode cX8_wayOf 28 = .ok (.ldc 62, 2) := by decide +kernel
theorem dX8_wayOf_30 : decode cX8_wayOf 30 = .ok (.iconst 3, 1) := by decide +kernel
theorem dX8_wayOf_31 : decode cX8_wayOf 31 = .ok (.iload 4, 2) := by decide +kernel
theorem dX8_wayOf_33 : decode cX8_wayOf 33 = .ok (.imul, 1) := by decide +kernel
theorem dX8_wayOf_34 : decode cX8_wayOf 34 = .ok (.iconst 1, 1) := by decide +kernel
theorem dX8_wayOf_35 : decode cX8_wayOf 35 = .ok (.iadd, 1) := by decide +kernel
theorem dX8_wayOf_36 : decode cX8_wayOf 36 = .ok (.invokevirtual 64, 3) := by decide +kernel
theorem dX8_wayOf_39 : decode cX8_wayOf 39 = .ok (.bipush 48, 2) := by decide +kernel
theorem dX8_wayOf_41 : decode cX8_wayOf 41 = .ok (.isub, 1) := by decide +kernel
theorem dX8_wayOf_42 : decode cX8_wayOf 42 = .ok (.iload_n 1, 1) := by decide +kernel
theorem dX8_wayOf_43 : decode cX8_wayOf 43 = .ok (.if_icmp .ne 25, 3) := by decide +kernel
theorem dX8_wayOf_46 : decode cX8_wayOf 46 = .ok (.ldc 62, 2) := by decide +kernel
theorem dX8_wayOf_48 : decode cX8_wayOf 48 = .ok (.iconst 3, 1) := by decide +kernel
theorem dX8_wayOf_49 : decode cX8_wayOf 49 = .ok (.iload 4, 2) := by decide +kernel
theorem dX8_wayOf_51 : decode cX8_wayOf 51 = .ok (.imul, 1) := by decide +kernel
theorem dX8_wayOf_52 : decode cX8_wayOf 52 = .ok (.iconst 2, 1) := by decide +kernel
theorem dX8_wayOf_53 : decode cX8_wayOf 53 = .ok (.iadd, 1) := by decide +kernel
theorem dX8_wayOf_54 : decode cX8_wayOf 54 = .ok (.invokevirtual 64, 3) := by decide +kernel
theorem dX8_wayOf_57 : decode cX8_wayOf 57 = .ok (.bipush 48, 2) := by decide +kernel
theorem dX8_wayOf_59 : decode cX8_wayOf 59 = .ok (.isub, 1) := by decide +kernel
theorem dX8_wayOf_60 : decode cX8_wayOf 60 = .ok (.iload_n 2, 1) := by decide +kernel
theorem dX8_wayOf_61 : decode cX8_wayOf 61 = .ok (.if_icmp .ne 7, 3) := by decide +kernel
theorem dX8_wayOf_64 : decode cX8_wayOf 64 = .ok (.iconst 1, 1) := by decide +kernel
theorem dX8_wayOf_65 : decode cX8_wayOf 65 = .ok (.goto 4, 3) := by decide +kernel
theorem dX8_wayOf_68 : decode cX8_wayOf 68 = .ok (.iconst 0, 1) := by decide +kernel
theorem dX8_wayOf_69 : decode cX8_wayOf 69 = .ok (.istore 5, 2) := by decide +kernel
theorem dX8_wayOf_71 : decode cX8_wayOf 71 = .ok (.iload 5, 2) := by decide +kernel
theorem dX8_wayOf_73 : decode cX8_wayOf 73 = .ok (.ifCond .eq 8, 3) := by decide +kernel
theorem dX8_wayOf_76 : decode cX8_wayOf 76 = .ok (.iload 4, 2) := by decide +kernel
theorem dX8_wayOf_78 : decode cX8_wayOf 78 = .ok (.goto 4, 3) := by decide +kernel
theorem dX8_wayOf_81 : decode cX8_wayOf 81 = .ok (.iload_n 3, 1) := by decide +kernel
theorem dX8_wayOf_82 : decode cX8_wayOf 82 = .ok (.istore_n 3, 1) := by decide +kernel
theorem dX8_wayOf_83 : decode cX8_wayOf 83 = .ok (.iinc 4 1, 3) := by decide +kernel
theorem dX8_wayOf_86 : decode cX8_wayOf 86 = .ok (.goto (-81), 3) := by decide +kernel
theorem dX8_wayOf_89 : decode cX8_wayOf 89 = .ok (.iload_n 3, 1) := by decide +kernel
theorem dX8_wayOf_90 : decode cX8_wayOf 90 = .ok (.ireturn, 1) := by decide +kernel
theorem dX8_times_0 : decode cX8_times 0 = .ok (.iconst 0, 1) := by decide +kernel
theorem dX8_times_1 : decode cX8_times 1 = .ok (.istore_n 2, 1) := by decide +kernel
theorem dX8_times_2 : decode cX8_times 2 = .ok (.iconst 0, 1) := by decide +kernel
theorem dX8_times_3 : decode cX8_times 3 = .ok (.istore_n 3, 1) := by decide +kernel
theorem dX8_times_4 : decode cX8_times 4 = .ok (.iload_n 3, 1) := by decide +kernel
theorem dX8_times_5 : decode cX8_times 5 = .ok (.iconst 3, 1) := by decide +kernel
theorem dX8_times_6 : decode cX8_times 6 = .ok (.if_icmp .ge 29, 3) := by decide +kernel
theorem dX8_times_9 : decode cX8_times 9 = .ok (.iload_n 2, 1) := by decide +kernel
theorem dX8_times_10 : decode cX8_times 10 = .ok (.iload_n 0, 1) := by decide +kernel
theorem dX8_times_11 : decode cX8_times 11 = .ok (.iload_n 3, 1) := by decide +kernel
theorem dX8_times_12 : decode cX8_times 12 = .ok (.invokestatic 70, 3) := by decide +kernel
theorem dX8_times_15 : decode cX8_times 15 = .ok (.iload_n 1, 1) := by decide +kernel
theorem dX8_times_16 : decode cX8_times 16 = .ok (.iload_n 0, 1) := by decide +kernel
theorem dX8_times_17 : decode cX8_times 17 = .ok (.iload_n 3, 1) := by decide +kernel
theorem dX8_times_18 : decode cX8_times 18 = .ok (.invokestatic 74, 3) := by decide +kernel
theorem dX8_times_21 : decode cX8_times 21 = .ok (.invokestatic 70, 3) := by decide +kernel
theorem dX8_times_24 : decode cX8_times 24 = .ok (.ixor, 1) := by decide +kernel
theorem dX8_times_25 : decode cX8_times 25 = .ok (.iload_n 3, 1) := by decide +kernel
theorem dX8_times_26 : decode cX8_times 26 = .ok (.ishl, 1) := by decide +kernel
theorem dX8_times_27 : decode cX8_times 27 = .ok (.ior, 1) := by decide +kernel
theorem dX8_times_28 : decode cX8_times 28 = .ok (.istore_n 2, 1) := by decide +kernel
theorem dX8_times_29 : decode cX8_times 29 = .ok (.iinc 3 1, 3) := by decide +kernel
theorem dX8_times_32 : decode cX8_times 32 = .ok (.goto (-28), 3) := by decide +kernel
theorem dX8_times_35 : decode cX8_times 35 = .ok (.bipush 8, 2) := by decide +kernel
theorem dX8_times_37 : decode cX8_times 37 = .ok (.iload_n 1, 1) := by decide +kernel
theorem dX8_times_38 : decode cX8_times 38 = .ok (.iload_n 0, 1) := by decide +kernel
theorem dX8_times_39 : decode cX8_times 39 = .ok (.iconst 0, 1) := by decide +kernel
theorem dX8_times_40 : decode cX8_times 40 = .ok (.invokestatic 74, 3) := by decide +kernel
theorem dX8_times_43 : decode cX8_times 43 = .ok (.invokestatic 74, 3) := by decide +kernel
theorem dX8_times_46 : decode cX8_times 46 = .ok (.iload_n 1, 1) := by decide +kernel
theorem dX8_times_47 : decode cX8_times 47 = .ok (.iload_n 0, 1) := by decide +kernel
theorem dX8_times_48 : decode cX8_times 48 = .ok (.iconst 1, 1) := by decide +kernel
theorem dX8_times_49 : decode cX8_times 49 = .ok (.invokestatic 74, 3) := by decide +kernel
theorem dX8_times_52 : decode cX8_times 52 = .ok (.invokestatic 74, 3) := by decide +kernel
theorem dX8_times_55 : decode cX8_times 55 = .ok (.iload_n 1, 1) := by decide +kernel
theorem dX8_times_56 : decode cX8_times 56 = .ok (.iload_n 0, 1) := by decide +kernel
theorem dX8_times_57 : decode cX8_times 57 = .ok (.iconst 2, 1) := by decide +kernel
theorem dX8_times_58 : decode cX8_times 58 = .ok (.invokestatic 74, 3) := by decide +kernel
theorem dX8_times_61 : decode cX8_times 61 = .ok (.invokestatic 74, 3) := by decide +kernel
theorem dX8_times_64 : decode cX8_times 64 = .ok (.invokestatic 77, 3) := by decide +kernel
theorem dX8_times_67 : decode cX8_times 67 = .ok (.imul, 1) := by decide +kernel
theorem dX8_times_68 : decode cX8_times 68 = .ok (.iload_n 2, 1) := by decide +kernel
theorem dX8_times_69 : decode cX8_times 69 = .ok (.iadd, 1) := by decide +kernel
theorem dX8_times_70 : decode cX8_times 70 = .ok (.ireturn, 1) := by decide +kernel
theorem dX8_inverse_0 : decode cX8_inverse 0 = .ok (.iconst 0, 1) := by decide +kernel
theorem dX8_inverse_1 : decode cX8_inverse 1 = .ok (.istore_n 1, 1) := by decide +kernel
theorem dX8_inverse_2 : decode cX8_inverse 2 = .ok (.iconst 0, 1) := by decide +kernel
theorem dX8_inverse_3 : decode cX8_inverse 3 = .ok (.istore_n 2, 1) := by decide +kernel
theorem dX8_inverse_4 : decode cX8_inverse 4 = .ok (.iload_n 2, 1) := by decide +kernel
theorem dX8_inverse_5 : decode cX8_inverse 5 = .ok (.bipush 48, 2) := by decide +kernel
theorem dX8_inverse_7 : decode cX8_inverse 7 = .ok (.if_icmp .ge 23, 3) := by decide +kernel
theorem dX8_inverse_10 : decode cX8_inverse 10 = .ok (.iload_n 0, 1) := by decide +kernel
theorem dX8_inverse_11 : decode cX8_inverse 11 = .ok (.iload_n 2, 1) := by decide +kernel
theorem dX8_inverse_12 : decode cX8_inverse 12 = .ok (.invokestatic 81, 3) := by decide +kernel
theorem dX8_inverse_15 : decode cX8_inverse 15 = .ok (.ifCond .ne 7, 3) := by decide +kernel
theorem dX8_inverse_18 : decode cX8_inverse 18 = .ok (.iload_n 2, 1) := by decide +kernel
theorem dX8_inverse_19 : decode cX8_inverse 19 = .ok (.goto 4, 3) := by decide +kernel
theorem dX8_inverse_22 : decode cX8_inverse 22 = .ok (.iload_n 1, 1) := by decide +kernel
theorem dX8_inverse_23 : decode cX8_inverse 23 = .ok (.istore_n 1, 1) := by decide +kernel
theorem dX8_inverse_24 : decode cX8_inverse 24 = .ok (.iinc 2 1, 3) := by decide +kernel
theorem dX8_inverse_27 : decode cX8_inverse 27 = .ok (.goto (-23), 3) := by decide +kernel
theorem dX8_inverse_30 : decode cX8_inverse 30 = .ok (.iload_n 1, 1) := by decide +kernel
theorem dX8_inverse_31 : decode cX8_inverse 31 = .ok (.ireturn, 1) := by decide +kernel
theorem dX8_orderOf_0 : decode cX8_orderOf 0 = .ok (.iconst 1, 1) := by decide +kernel
theorem dX8_orderOf_1 : decode cX8_orderOf 1 = .ok (.istore_n 1, 1) := by decide +kernel
theorem dX8_orderOf_2 : decode cX8_orderOf 2 = .ok (.iload_n 0, 1) := by decide +kernel
theorem dX8_orderOf_3 : decode cX8_orderOf 3 = .ok (.istore_n 2, 1) := by decide +kernel
theorem dX8_orderOf_4 : decode cX8_orderOf 4 = .ok (.iload_n 2, 1) := by decide +kernel
theorem dX8_orderOf_5 : decode cX8_orderOf 5 = .ok (.ifCond .eq 15, 3) := by decide +kernel
theorem dX8_orderOf_8 : decode cX8_orderOf 8 = .ok (.iinc 1 1, 3) := by decide +kernel
theorem dX8_orderOf_11 : decode cX8_orderOf 11 = .ok (.iload_n 2, 1) := by decide +kernel
theorem dX8_orderOf_12 : decode cX8_orderOf 12 = .ok (.iload_n 0, 1) := by decide +kernel
theorem dX8_orderOf_13 : decode cX8_orderOf 13 = .ok (.invokestatic 81, 3) := by decide +kernel
theorem dX8_orderOf_16 : decode cX8_orderOf 16 = .ok (.istore_n 2, 1) := by decide +kernel
theorem dX8_orderOf_17 : decode cX8_orderOf 17 = .ok (.goto (-13), 3) := by decide +kernel
theorem dX8_orderOf_20 : decode cX8_orderOf 20 = .ok (.iload_n 1, 1) := by decide +kernel
theorem dX8_orderOf_21 : decode cX8_orderOf 21 = .ok (.ireturn, 1) := by decide +kernel
theorem dX8_traceOf_0 : decode cX8_traceOf 0 = .ok (.iconst 0, 1) := by decide +kernel
theorem dX8_traceOf_1 : decode cX8_traceOf 1 = .ok (.istore_n 1, 1) := by decide +kernel
theorem dX8_traceOf_2 : decode cX8_traceOf 2 = .ok (.iconst 0, 1) := by decide +kernel
theorem dX8_traceOf_3 : decode cX8_traceOf 3 = .ok (.istore_n 2, 1) := by decide +kernel
theorem dX8_traceOf_4 : decode cX8_traceOf 4 = .ok (.iload_n 2, 1) := by decide +kernel
theorem dX8_traceOf_5 : decode cX8_traceOf 5 = .ok (.iconst 3, 1) := by decide +kernel
theorem dX8_traceOf_6 : decode cX8_traceOf 6 = .ok (.if_icmp .ge 34, 3) := by decide +kernel
theorem dX8_traceOf_9 : decode cX8_traceOf 9 = .ok (.iload_n 1, 1) := by decide +kernel
theorem dX8_traceOf_10 : decode cX8_traceOf 10 = .ok (.iload_n 0, 1) := by decide +kernel
theorem dX8_traceOf_11 : decode cX8_traceOf 11 = .ok (.iload_n 2, 1) := by decide +kernel
theorem dX8_traceOf_12 : decode cX8_traceOf 12 = .ok (.invokestatic 74, 3) := by decide +kernel
theorem dX8_traceOf_15 : decode cX8_traceOf 15 = .ok (.iload_n 2, 1) := by decide +kernel
theorem dX8_traceOf_16 : decode cX8_traceOf 16 = .ok (.if_icmp .ne 15, 3) := by decide +kernel
theorem dX8_traceOf_19 : decode cX8_traceOf 19 = .ok (.iconst 1, 1) := by decide +kernel
theorem dX8_traceOf_20 : decode cX8_traceOf 20 = .ok (.iconst 2, 1) := by decide +kernel
theorem dX8_traceOf_21 : decode cX8_traceOf 21 = .ok (.iload_n 0, 1) := by decide +kernel
theorem dX8_traceOf_22 : decode cX8_traceOf 22 = .ok (.iload_n 2, 1) := by decide +kernel
theorem dX8_traceOf_23 : decode cX8_traceOf 23 = .ok (.invokestatic 70, 3) := by decide +kernel
theorem dX8_traceOf_26 : decode cX8_traceOf 26 = .ok (.imul, 1) := by decide +kernel
theorem dX8_traceOf_27 : decode cX8_traceOf 27 = .ok (.isub, 1) := by decide +kernel
theorem dX8_traceOf_28 : decode cX8_traceOf 28 = .ok (.goto 4, 3) := by decide +kernel
theorem dX8_traceOf_31 : decode cX8_traceOf 31 = .ok (.iconst 0, 1) := by decide +kernel
theorem dX8_traceOf_32 : decode cX8_traceOf 32 = .ok (.iadd, 1) := by decide +kernel
theorem dX8_traceOf_33 : decode cX8_traceOf 33 = .ok (.istore_n 1, 1) := by decide +kernel
theorem dX8_traceOf_34 : decode cX8_traceOf 34 = .ok (.iinc 2 1, 3) := by decide +kernel
theorem dX8_traceOf_37 : decode cX8_traceOf 37 = .ok (.goto (-33), 3) := by decide +kernel
theorem dX8_traceOf_40 : decode cX8_traceOf 40 = .ok (.iload_n 1, 1) := by decide +kernel
theorem dX8_traceOf_41 : decode cX8_traceOf 41 = .ok (.ireturn, 1) := by decide +kernel
theorem dX8_turnOf_0 : decode cX8_turnOf 0 = .ok (.iload_n 0, 1) := by decide +kernel
theorem dX8_turnOf_1 : decode cX8_turnOf 1 = .ok (.bipush 8, 2) := by decide +kernel
theorem dX8_turnOf_3 : decode cX8_turnOf 3 = .ok (.idiv, 1) := by decide +kernel
theorem dX8_turnOf_4 : decode cX8_turnOf 4 = .ok (.istore_n 1, 1) := by decide +kernel
theorem dX8_turnOf_5 : decode cX8_turnOf 5 = .ok (.iload_n 1, 1) := by decide +kernel
theorem dX8_turnOf_6 : decode cX8_turnOf 6 = .ok (.ifCond .eq 13, 3) := by decide +kernel
theorem dX8_turnOf_9 : decode cX8_turnOf 9 = .ok (.iload_n 1, 1) := by decide +kernel
theorem dX8_turnOf_10 : decode cX8_turnOf 10 = .ok (.iconst 3, 1) := by decide +kernel
theorem dX8_turnOf_11 : decode cX8_turnOf 11 = .ok (.if_icmp .eq 8, 3) := by decide +kernel
theorem dX8_turnOf_14 : decode cX8_turnOf 14 = .ok (.iload_n 1, 1) := by decide +kernel
theorem dX8_turnOf_15 : decode cX8_turnOf 15 = .ok (.iconst 4, 1) := by decide +kernel
theorem dX8_turnOf_16 : decode cX8_turnOf 16 = .ok (.if_icmp .ne 7, 3) := by decide +kernel
theorem dX8_turnOf_19 : decode cX8_turnOf 19 = .ok (.iconst 1, 1) := by decide +kernel
theorem dX8_turnOf_20 : decode cX8_turnOf 20 = .ok (.goto 4, 3) := by decide +kernel
theorem dX8_turnOf_23 : decode cX8_turnOf 23 = .ok (.iconst (-1), 1) := by decide +kernel
theorem dX8_turnOf_24 : decode cX8_turnOf 24 = .ok (.istore_n 2, 1) := by decide +kernel
theorem dX8_turnOf_25 : decode cX8_turnOf 25 = .ok (.iconst 0, 1) := by decide +kernel
theorem dX8_turnOf_26 : decode cX8_turnOf 26 = .ok (.istore_n 3, 1) := by decide +kernel
theorem dX8_turnOf_27 : decode cX8_turnOf 27 = .ok (.iload_n 3, 1) := by decide +kernel
theorem dX8_turnOf_28 : decode cX8_turnOf 28 = .ok (.iconst 3, 1) := by decide +kernel
theorem dX8_turnOf_29 : decode cX8_turnOf 29 = .ok (.if_icmp .ge 21, 3) := by decide +kernel
theorem dX8_turnOf_32 : decode cX8_turnOf 32 = .ok (.iload_n 2, 1) := by decide +kernel
theorem dX8_turnOf_33 : decode cX8_turnOf 33 = .ok (.iconst 1, 1) := by decide +kernel
theorem dX8_turnOf_34 : decode cX8_turnOf 34 = .ok (.iconst 2, 1) := by decide +kernel
theorem dX8_turnOf_35 : decode cX8_turnOf 35 = .ok (.iload_n 0, 1) := by decide +kernel
theorem dX8_turnOf_36 : decode cX8_turnOf 36 = .ok (.iload_n 3, 1) := by decide +kernel
theorem dX8_turnOf_37 : decode cX8_turnOf 37 = .ok (.invokestatic 70, 3) := by decide +kernel
theorem dX8_turnOf_40 : decode cX8_turnOf 40 = .ok (.imul, 1) := by decide +kernel
theorem dX8_turnOf_41 : decode cX8_turnOf 41 = .ok (.isub, 1) := by decide +kernel
theorem dX8_turnOf_42 : decode cX8_turnOf 42 = .ok (.imul, 1) := by decide +kernel
theorem dX8_turnOf_43 : decode cX8_turnOf 43 = .ok (.istore_n 2, 1) := by decide +kernel
theorem dX8_turnOf_44 : decode cX8_turnOf 44 = .ok (.iinc 3 1, 3) := by decide +kernel
theorem dX8_turnOf_47 : decode cX8_turnOf 47 = .ok (.goto (-20), 3) := by decide +kernel
theorem dX8_turnOf_50 : decode cX8_turnOf 50 = .ok (.iload_n 2, 1) := by decide +kernel
theorem dX8_turnOf_51 : decode cX8_turnOf 51 = .ok (.ireturn, 1) := by decide +kernel
theorem dX8_pointAt_0 : decode cX8_pointAt 0 = .ok (.iconst 0, 1) := by decide +kernel
theorem dX8_pointAt_1 : decode cX8_pointAt 1 = .ok (.istore 4, 2) := by decide +kernel
theorem dX8_pointAt_3 : decode cX8_pointAt 3 = .ok (.iload 4, 2) := by decide +kernel
theorem dX8_pointAt_5 : decode cX8_pointAt 5 = .ok (.aload_n 0, 1) := by decide +kernel
theorem dX8_pointAt_6 : decode cX8_pointAt 6 = .ok (.getfield 11, 3) := by decide +kernel
theorem dX8_pointAt_9 : decode cX8_pointAt 9 = .ok (.iconst 0, 1) := by decide +kernel
theorem dX8_pointAt_10 : decode cX8_pointAt 10 = .ok (.iaload, 1) := by decide +kernel
theorem dX8_pointAt_11 : decode cX8_pointAt 11 = .ok (.if_icmp .ge 57, 3) := by decide +kernel
theorem dX8_pointAt_14 : decode cX8_pointAt 14 = .ok (.iconst 1, 1) := by decide +kernel
theorem dX8_pointAt_15 : decode cX8_pointAt 15 = .ok (.iconst 4, 1) := by decide +kernel
theorem dX8_pointAt_16 : decode cX8_pointAt 16 = .ok (.iload 4, 2) := by decide +kernel
theorem dX8_pointAt_18 : decode cX8_pointAt 18 = .ok (.imul, 1) := by decide +kernel
theorem dX8_pointAt_19 : decode cX8_pointAt 19 = .ok (.iadd, 1) := by decide +kernel
theorem dX8_pointAt_20 : decode cX8_pointAt 20 = .ok (.istore 5, 2) := by decide +kernel
theorem dX8_pointAt_22 : decode cX8_pointAt 22 = .ok (.aload_n 0, 1) := by decide +kernel
theorem dX8_pointAt_23 : decode cX8_pointAt 23 = .ok (.getfield 11, 3) := by decide +kernel
theorem dX8_pointAt_26 : decode cX8_pointAt 26 = .ok (.iload 5, 2) := by decide +kernel
theorem dX8_pointAt_28 : decode cX8_pointAt 28 = .ok (.iaload, 1) := by decide +kernel
theorem dX8_pointAt_29 : decode cX8_pointAt 29 = .ok (.iload_n 1, 1) := by decide +kernel
theorem dX8_pointAt_30 : decode cX8_pointAt 30 = .ok (.if_icmp .ne 32, 3) := by decide +kernel
theorem dX8_pointAt_33 : decode cX8_pointAt 33 = .ok (.aload_n 0, 1) := by decide +kernel
theorem dX8_pointAt_34 : decode cX8_pointAt 34 = .ok (.getfield 11, 3) := by decide +kernel
theorem dX8_pointAt_37 : decode cX8_pointAt 37 = .ok (.iload 5, 2) := by decide +kernel
theorem dX8_pointAt_39 : decode cX8_pointAt 39 = .ok (.iconst 1, 1) := by decide +kernel
theorem dX8_pointAt_40 : decode cX8_pointAt 40 = .ok (.iadd, 1) := by decide +kernel
theorem dX8_pointAt_41 : decode cX8_pointAt 41 = .ok (.iaload, 1) := by decide +kernel
theorem dX8_pointAt_42 : decode cX8_pointAt 42 = .ok (.iload_n 2, 1) := by decide +kernel
theorem dX8_pointAt_43 : decode cX8_pointAt 43 = .ok (.if_icmp .ne 19, 3) := by decide +kernel
theorem dX8_pointAt_46 : decode cX8_pointAt 46 = .ok (.aload_n 0, 1) := by decide +kernel
theorem dX8_pointAt_47 : decode cX8_pointAt 47 = .ok (.getfield 11, 3) := by decide +kernel
theorem dX8_pointAt_50 : decode cX8_pointAt 50 = .ok (.iload 5, 2) := by decide +kernel
theorem dX8_pointAt_52 : decode cX8_pointAt 52 = .ok (.iconst 2, 1) := by decide +kernel
theorem dX8_pointAt_53 : decode cX8_pointAt 53 = .ok (.iadd, 1) := by decide +kernel
theorem dX8_pointAt_54 : decode cX8_pointAt 54 = .ok (.iaload, 1) := by decide +kernel
theorem dX8_pointAt_55 : decode cX8_pointAt 55 = .ok (.iload_n 3, 1) := by decide +kernel
theorem dX8_pointAt_56 : decode cX8_pointAt 56 = .ok (.if_icmp .ne 6, 3) := by decide +kernel
theorem dX8_pointAt_59 : decode cX8_pointAt 59 = .ok (.iload 4, 2) := by decide +kernel
theorem dX8_pointAt_61 : decode cX8_pointAt 61 = .ok (.ireturn, 1) := by decide +kernel
theorem dX8_pointAt_62 : decode cX8_pointAt 62 = .ok (.iinc 4 1, 3) := by decide +kernel
theorem dX8_pointAt_65 : decode cX8_pointAt 65 = .ok (.goto (-62), 3) := by decide +kernel
theorem dX8_pointAt_68 : decode cX8_pointAt 68 = .ok (.bipush (-5), 2) := by decide +kernel
theorem dX8_pointAt_70 : decode cX8_pointAt 70 = .ok (.ireturn, 1) := by decide +kernel
theorem dX8_moved_0 : decode cX8_moved 0 = .ok (.aload_n 0, 1) := by decide +kernel
theorem dX8_moved_1 : decode cX8_moved 1 = .ok (.getfield 11, 3) := by decide +kernel
theorem dX8_moved_4 : decode cX8_moved 4 = .ok (.iconst 1, 1) := by decide +kernel
theorem dX8_moved_5 : decode cX8_moved 5 = .ok (.iconst 4, 1) := by decide +kernel
theorem dX8_moved_6 : decode cX8_moved 6 = .ok (.iload_n 2, 1) := by decide +kernel
theorem dX8_moved_7 : decode cX8_moved 7 = .ok (.imul, 1) := by decide +kernel
theorem dX8_moved_8 : decode cX8_moved 8 = .ok (.iadd, 1) := by decide +kernel
theorem dX8_moved_9 : decode cX8_moved 9 = .ok (.iload_n 1, 1) := by decide +kernel
theorem dX8_moved_10 : decode cX8_moved 10 = .ok (.iload_n 3, 1) := by decide +kernel
theorem dX8_moved_11 : decode cX8_moved 11 = .ok (.invokestatic 74, 3) := by decide +kernel
theorem dX8_moved_14 : decode cX8_moved 14 = .ok (.iadd, 1) := by decide +kernel
theorem dX8_moved_15 : decode cX8_moved 15 = .ok (.iaload, 1) := by decide +kernel
theorem dX8_moved_16 : decode cX8_moved 16 = .ok (.istore 4, 2) := by decide +kernel
theorem dX8_moved_18 : decode cX8_moved 18 = .ok (.iload_n 1, 1) := by decide +kernel
theorem dX8_moved_19 : decode cX8_moved 19 = .ok (.iload_n 3, 1) := by decide +kernel
theorem dX8_moved_20 : decode cX8_moved 20 = .ok (.invokestatic 70, 3) := by decide +kernel
theorem dX8_moved_23 : decode cX8_moved 23 = .ok (.iconst 1, 1) := by decide +kernel
theorem dX8_moved_24 : decode cX8_moved 24 = .ok (.if_icmp .ne 9, 3) := by decide +kernel
theorem dX8_moved_27 : decode cX8_moved 27 = .ok (.iload 4, 2) := by decide +kernel
theorem dX8_moved_29 : decode cX8_moved 29 = .ok (.ineg, 1) := by decide +kernel
theorem dX8_moved_30 : decode cX8_moved 30 = .ok (.goto 5, 3) := by decide +kernel
theorem dX8_moved_33 : decode cX8_moved 33 = .ok (.iload 4, 2) := by decide +kernel
theorem dX8_moved_35 : decode cX8_moved 35 = .ok (.ireturn, 1) := by decide +kernel
theorem dX8_goesTo_0 : decode cX8_goesTo 0 = .ok (.aload_n 0, 1) := by decide +kernel
theorem dX8_goesTo_1 : decode cX8_goesTo 1 = .ok (.aload_n 0, 1) := by decide +kernel
theorem dX8_goesTo_2 : decode cX8_goesTo 2 = .ok (.iload_n 1, 1) := by decide +kernel
theorem dX8_goesTo_3 : decode cX8_goesTo 3 = .ok (.iload_n 2, 1) := by decide +kernel
theorem dX8_goesTo_4 : decode cX8_goesTo 4 = .ok (.iconst 0, 1) := by decide +kernel
theorem dX8_goesTo_5 : decode cX8_goesTo 5 = .ok (.invokevirtual 84, 3) := by decide +kernel
theorem dX8_goesTo_8 : decode cX8_goesTo 8 = .ok (.aload_n 0, 1) := by decide +kernel
theorem dX8_goesTo_9 : decode cX8_goesTo 9 = .ok (.iload_n 1, 1) := by decide +kernel
theorem dX8_goesTo_10 : decode cX8_goesTo 10 = .ok (.iload_n 2, 1) := by decide +kernel
theorem dX8_goesTo_11 : decode cX8_goesTo 11 = .ok (.iconst 1, 1) := by decide +kernel
theorem dX8_goesTo_12 : decode cX8_goesTo 12 = .ok (.invokevirtual 84, 3) := by decide +kernel
theorem dX8_goesTo_15 : decode cX8_goesTo 15 = .ok (.aload_n 0, 1) := by decide +kernel
theorem dX8_goesTo_16 : decode cX8_goesTo 16 = .ok (.iload_n 1, 1) := by decide +kernel
theorem dX8_goesTo_17 : decode cX8_goesTo 17 = .ok (.iload_n 2, 1) := by decide +kernel
theorem dX8_goesTo_18 : decode cX8_goesTo 18 = .ok (.iconst 2, 1) := by decide +kernel
theorem dX8_goesTo_19 : decode cX8_goesTo 19 = .ok (.invokevirtual 84, 3) := by decide +kernel
theorem dX8_goesTo_22 : decode cX8_goesTo 22 = .ok (.invokevirtual 87, 3) := by decide +kernel
theorem dX8_goesTo_25 : decode cX8_goesTo 25 = .ok (.ireturn, 1) := by decide +kernel
theorem dX8_markOf_0 : decode cX8_markOf 0 = .ok (.aload_n 0, 1) := by decide +kernel
theorem dX8_markOf_1 : decode cX8_markOf 1 = .ok (.getfield 11, 3) := by decide +kernel
theorem dX8_markOf_4 : decode cX8_markOf 4 = .ok (.iconst 1, 1) := by decide +kernel
theorem dX8_markOf_5 : decode cX8_markOf 5 = .ok (.iconst 4, 1) := by decide +kernel
theorem dX8_markOf_6 : decode cX8_markOf 6 = .ok (.iload_n 1, 1) := by decide +kernel
theorem dX8_markOf_7 : decode cX8_markOf 7 = .ok (.imul, 1) := by decide +kernel
theorem dX8_markOf_8 : decode cX8_markOf 8 = .ok (.iadd, 1) := by decide +kernel
theorem dX8_markOf_9 : decode cX8_markOf 9 = .ok (.iconst 3, 1) := by decide +kernel
theorem dX8_markOf_10 : decode cX8_markOf 10 = .ok (.iadd, 1) := by decide +kernel
theorem dX8_markOf_11 : decode cX8_markOf 11 = .ok (.iaload, 1) := by decide +kernel
theorem dX8_markOf_12 : decode cX8_markOf 12 = .ok (.ireturn, 1) := by decide +kernel
theorem dX8_movedMany_0 : decode cX8_movedMany 0 = .ok (.iconst 0, 1) := by decide +kernel
theorem dX8_movedMany_1 : decode cX8_movedMany 1 = .ok (.istore_n 2, 1) := by decide +kernel
theorem dX8_movedMany_2 : decode cX8_movedMany 2 = .ok (.iconst 0, 1) := by decide +kernel
theorem dX8_movedMany_3 : decode cX8_movedMany 3 = .ok (.istore_n 3, 1) := by decide +kernel
theorem dX8_movedMany_4 : decode cX8_movedMany 4 = .ok (.iload_n 3, 1) := by decide +kernel
theorem dX8_movedMany_5 : decode cX8_movedMany 5 = .ok (.aload_n 0, 1) := by decide +kernel
theorem dX8_movedMany_6 : decode cX8_movedMany 6 = .ok (.getfield 11, 3) := by decide +kernel
theorem dX8_movedMany_9 : decode cX8_movedMany 9 = .ok (.iconst 0, 1) := by decide +kernel
theorem dX8_movedMany_10 : decode cX8_movedMany 10 = .ok (.iaload, 1) := by decide +kernel
theorem dX8_movedMany_11 : decode cX8_movedMany 11 = .ok (.if_icmp .ge 46, 3) := by decide +kernel
theorem dX8_movedMany_14 : decode cX8_movedMany 14 = .ok (.aload_n 0, 1) := by decide +kernel
theorem dX8_movedMany_15 : decode cX8_movedMany 15 = .ok (.iload_n 1, 1) := by decide +kernel
theorem dX8_movedMany_16 : decode cX8_movedMany 16 = .ok (.iload_n 3, 1) := by decide +kernel
theorem dX8_movedMany_17 : decode cX8_movedMany 17 = .ok (.invokevirtual 90, 3) := by decide +kernel
theorem dX8_movedMany_20 : decode cX8_movedMany 20 = .ok (.istore 4, 2) := by decide +kernel
theorem dX8_movedMany_22 : decode cX8_movedMany 22 = .ok (.iload_n 2, 1) := by decide +kernel
theorem dX8_movedMany_23 : decode cX8_movedMany 23 = .ok (.iload 4, 2) := by decide +kernel
theorem dX8_movedMany_25 : decode cX8_movedMany 25 = .ok (.bipush (-5), 2) := by decide +kernel
theorem dX8_movedMany_27 : decode cX8_movedMany 27 = .ok (.if_icmp .eq 17, 3) := by decide +kernel
theorem dX8_movedMany_30 : decode cX8_movedMany 30 = .ok (.aload_n 0, 1) := by decide +kernel
theorem dX8_movedMany_31 : decode cX8_movedMany 31 = .ok (.iload 4, 2) := by decide +kernel
theorem dX8_movedMany_33 : decode cX8_movedMany 33 = .ok (.invokevirtual 93, 3) := by decide +kernel
theorem dX8_movedMany_36 : decode cX8_movedMany 36 = .ok (.aload_n 0, 1) := by decide +kernel
theorem dX8_movedMany_37 : decode cX8_movedMany 37 = .ok (.iload_n 3, 1) := by decide +kernel
theorem dX8_movedMany_38 : decode cX8_movedMany 38 = .ok (.invokevirtual 93, 3) := by decide +kernel
theorem dX8_movedMany_41 : decode cX8_movedMany 41 = .ok (.if_icmp .eq 7, 3) := by decide +kernel
theorem dX8_movedMany_44 : decode cX8_movedMany 44 = .ok (.iconst 1, 1) := by decide +kernel
theorem dX8_movedMany_45 : decode cX8_movedMany 45 = .ok (.goto 4, 3) := by decide +kernel
theorem dX8_movedMany_48 : decode cX8_movedMany 48 = .ok (.iconst 0, 1) := by decide +kernel
theorem dX8_movedMany_49 : decode cX8_movedMany 49 = .ok (.iadd, 1) := by decide +kernel
theorem dX8_movedMany_50 : decode cX8_movedMany 50 = .ok (.istore_n 2, 1) := by decide +kernel
theorem dX8_movedMany_51 : decode cX8_movedMany 51 = .ok (.iinc 3 1, 3) := by decide +kernel
theorem dX8_movedMany_54 : decode cX8_movedMany 54 = .ok (.goto (-50), 3) := by decide +kernel
theorem dX8_movedMany_57 : decode cX8_movedMany 57 = .ok (.iload_n 2, 1) := by decide +kernel
theorem dX8_movedMany_58 : decode cX8_movedMany 58 = .ok (.ireturn, 1) := by decide +kernel
theorem dX8_finds_0 : decode cX8_finds 0 = .ok (.aload_n 0, 1) := by decide +kernel
theorem dX8_finds_1 : decode cX8_finds 1 = .ok (.iconst 0, 1) := by decide +kernel
theorem dX8_finds_2 : decode cX8_finds 2 = .ok (.putfield 97, 3) := by decide +kernel
theorem dX8_finds_5 : decode cX8_finds 5 = .ok (.iconst 0, 1) := by decide +kernel
theorem dX8_finds_6 : decode cX8_finds 6 = .ok (.istore_n 1, 1) := by decide +kernel
theorem dX8_finds_7 : decode cX8_finds 7 = .ok (.iload_n 1, 1) := by decide +kernel
theorem dX8_finds_8 : decode cX8_finds 8 = .ok (.bipush 48, 2) := by decide +kernel
theorem dX8_finds_10 : decode cX8_finds 10 = .ok (.if_icmp .ge 57, 3) := by decide +kernel
theorem dX8_finds_13 : decode cX8_finds 13 = .ok (.aload_n 0, 1) := by decide +kernel
theorem dX8_finds_14 : decode cX8_finds 14 = .ok (.getfield 24, 3) := by decide +kernel
theorem dX8_finds_17 : decode cX8_finds 17 = .ok (.iload_n 1, 1) := by decide +kernel
theorem dX8_finds_18 : decode cX8_finds 18 = .ok (.aload_n 0, 1) := by decide +kernel
theorem dX8_finds_19 : decode cX8_finds 19 = .ok (.iload_n 1, 1) := by decide +kernel
theorem dX8_finds_20 : decode cX8_finds 20 = .ok (.invokevirtual 101, 3) := by decide +kernel
theorem dX8_finds_23 : decode cX8_finds 23 = .ok (.ifCond .ne 7, 3) := by decide +kernel
theorem dX8_finds_26 : decode cX8_finds 26 = .ok (.iconst 1, 1) := by decide +kernel
theorem dX8_finds_27 : decode cX8_finds 27 = .ok (.goto 4, 3) := by decide +kernel
theorem dX8_finds_30 : decode cX8_finds 30 = .ok (.iconst 0, 1) := by decide +kernel
theorem dX8_finds_31 : decode cX8_finds 31 = .ok (.bastore, 1) := by decide +kernel
theorem dX8_finds_32 : decode cX8_finds 32 = .ok (.aload_n 0, 1) := by decide +kernel
theorem dX8_finds_33 : decode cX8_finds 33 = .ok (.getfield 24, 3) := by decide +kernel
theorem dX8_finds_36 : decode cX8_finds 36 = .ok (.iload_n 1, 1) := by decide +kernel
theorem dX8_finds_37 : decode cX8_finds 37 = .ok (.baload, 1) := by decide +kernel
theorem dX8_finds_38 : decode cX8_finds 38 = .ok (.ifCond .eq 23, 3) := by decide +kernel
theorem dX8_finds_41 : decode cX8_finds 41 = .ok (.aload_n 0, 1) := by decide +kernel
theorem dX8_finds_42 : decode cX8_finds 42 = .ok (.getfield 21, 3) := by decide +kernel
theorem dX8_finds_45 : decode cX8_finds 45 = .ok (.aload_n 0, 1) := by decide +kernel
theorem dX8_finds_46 : decode cX8_finds 46 = .ok (.getfield 97, 3) := by decide +kernel
theorem dX8_finds_49 : decode cX8_finds 49 = .ok (.iload_n 1, 1) := by decide +kernel
theorem dX8_finds_50 : decode cX8_finds 50 = .ok (.iastore, 1) := by decide +kernel
theorem dX8_finds_51 : decode cX8_finds 51 = .ok (.aload_n 0, 1) := by decide +kernel
theorem dX8_finds_52 : decode cX8_finds 52 = .ok (.dup, 1) := by decide +kernel
theorem dX8_finds_53 : decode cX8_finds 53 = .ok (.getfield 97, 3) := by decide +kernel
theorem dX8_finds_56 : decode cX8_finds 56 = .ok (.iconst 1, 1) := by decide +kernel
theorem dX8_finds_57 : decode cX8_finds 57 = .ok (.iadd, 1) := by decide +kernel
theorem dX8_finds_58 : decode cX8_finds 58 = .ok (.putfield 97, 3) := by decide +kernel
theorem dX8_finds_61 : decode cX8_finds 61 = .ok (.iinc 1 1, 3) := by decide +kernel
theorem dX8_finds_64 : decode cX8_finds 64 = .ok (.goto (-57), 3) := by decide +kernel
theorem dX8_finds_67 : decode cX8_finds 67 = .ok (.return_, 1) := by decide +kernel
theorem dX8_leastOf_0 : decode cX8_leastOf 0 = .ok (.iload_n 1, 1) := by decide +kernel
theorem dX8_leastOf_1 : decode cX8_leastOf 1 = .ok (.istore_n 2, 1) := by decide +kernel
theorem dX8_leastOf_2 : decode cX8_leastOf 2 = .ok (.iconst 0, 1) := by decide +kernel
theorem dX8_leastOf_3 : decode cX8_leastOf 3 = .ok (.istore_n 3, 1) := by decide +kernel
theorem dX8_leastOf_4 : decode cX8_leastOf 4 = .ok (.iload_n 3, 1) := by decide +kernel
theorem dX8_leastOf_5 : decode cX8_leastOf 5 = .ok (.aload_n 0, 1) := by decide +kernel
theorem dX8_leastOf_6 : decode cX8_leastOf 6 = .ok (.getfield 97, 3) := by decide +kernel
theorem dX8_leastOf_9 : decode cX8_leastOf 9 = .ok (.if_icmp .ge 36, 3) := by decide +kernel
theorem dX8_leastOf_12 : decode cX8_leastOf 12 = .ok (.iload_n 2, 1) := by decide +kernel
theorem dX8_leastOf_13 : decode cX8_leastOf 13 = .ok (.aload_n 0, 1) := by decide +kernel
theorem dX8_leastOf_14 : decode cX8_leastOf 14 = .ok (.getfield 21, 3) := by decide +kernel
theorem dX8_leastOf_17 : decode cX8_leastOf 17 = .ok (.iload_n 3, 1) := by decide +kernel
theorem dX8_leastOf_18 : decode cX8_leastOf 18 = .ok (.iaload, 1) := by decide +kernel
theorem dX8_leastOf_19 : decode cX8_leastOf 19 = .ok (.iload_n 1, 1) := by decide +kernel
theorem dX8_leastOf_20 : decode cX8_leastOf 20 = .ok (.invokestatic 81, 3) := by decide +kernel
theorem dX8_leastOf_23 : decode cX8_leastOf 23 = .ok (.aload_n 0, 1) := by decide +kernel
theorem dX8_leastOf_24 : decode cX8_leastOf 24 = .ok (.getfield 21, 3) := by decide +kernel
theorem dX8_leastOf_27 : decode cX8_leastOf 27 = .ok (.iload_n 3, 1) := by decide +kernel
theorem dX8_leastOf_28 : decode cX8_leastOf 28 = .ok (.iaload, 1) := by decide +kernel
theorem dX8_leastOf_29 : decode cX8_leastOf 29 = .ok (.invokestatic 104, 3) := by decide +kernel
theorem dX8_leastOf_32 : decode cX8_leastOf 32 = .ok (.invokestatic 81, 3) := by decide +kernel
theorem dX8_leastOf_35 : decode cX8_leastOf 35 = .ok (.invokestatic 107, 3) := by decide +kernel
theorem dX8_leastOf_38 : decode cX8_leastOf 38 = .ok (.istore_n 2, 1) := by decide +kernel
theorem dX8_leastOf_39 : decode cX8_leastOf 39 = .ok (.iinc 3 1, 3) := by decide +kernel
theorem dX8_leastOf_42 : decode cX8_leastOf 42 = .ok (.goto (-38), 3) := by decide +kernel
theorem dX8_leastOf_45 : decode cX8_leastOf 45 = .ok (.iload_n 2, 1) := by decide +kernel
theorem dX8_leastOf_46 : decode cX8_leastOf 46 = .ok (.ireturn, 1) := by decide +kernel
theorem dX8_classMany_0 : decode cX8_classMany 0 = .ok (.aload_n 0, 1) := by decide +kernel
theorem dX8_classMany_1 : decode cX8_classMany 1 = .ok (.iload_n 1, 1) := by decide +kernel
theorem dX8_classMany_2 : decode cX8_classMany 2 = .ok (.invokevirtual 112, 3) := by decide +kernel
theorem dX8_classMany_5 : decode cX8_classMany 5 = .ok (.istore_n 2, 1) := by decide +kernel
theorem dX8_classMany_6 : decode cX8_classMany 6 = .ok (.iconst 0, 1) := by decide +kernel
theorem dX8_classMany_7 : decode cX8_classMany 7 = .ok (.istore_n 3, 1) := by decide +kernel
theorem dX8_classMany_8 : decode cX8_classMany 8 = .ok (.iconst 0, 1) := by decide +kernel
theorem dX8_classMany_9 : decode cX8_classMany 9 = .ok (.istore 4, 2) := by decide +kernel
theorem dX8_classMany_11 : decode cX8_classMany 11 = .ok (.iload 4, 2) := by decide +kernel
theorem dX8_classMany_13 : decode cX8_classMany 13 = .ok (.aload_n 0, 1) := by decide +kernel
theorem dX8_classMany_14 : decode cX8_classMany 14 = .ok (.getfield 97, 3) := by decide +kernel
theorem dX8_classMany_17 : decode cX8_classMany 17 = .ok (.if_icmp .ge 32, 3) := by decide +kernel
theorem dX8_classMany_20 : decode cX8_classMany 20 = .ok (.iload_n 3, 1) := by decide +kernel
theorem dX8_classMany_21 : decode cX8_classMany 21 = .ok (.aload_n 0, 1) := by decide +kernel
theorem dX8_classMany_22 : decode cX8_classMany 22 = .ok (.aload_n 0, 1) := by decide +kernel
theorem dX8_classMany_23 : decode cX8_classMany 23 = .ok (.getfield 21, 3) := by decide +kernel
theorem dX8_classMany_26 : decode cX8_classMany 26 = .ok (.iload 4, 2) := by decide +kernel
theorem dX8_classMany_28 : decode cX8_classMany 28 = .ok (.iaload, 1) := by decide +kernel
theorem dX8_classMany_29 : decode cX8_classMany 29 = .ok (.invokevirtual 112, 3) := by decide +kernel
theorem dX8_classMany_32 : decode cX8_classMany 32 = .ok (.iload_n 2, 1) := by decide +kernel
theorem dX8_classMany_33 : decode cX8_classMany 33 = .ok (.if_icmp .ne 7, 3) := by decide +kernel
theorem dX8_classMany_36 : decode cX8_classMany 36 = .ok (.iconst 1, 1) := by decide +kernel
theorem dX8_classMany_37 : decode cX8_classMany 37 = .ok (.goto 4, 3) := by decide +kernel
theorem dX8_classMany_40 : decode cX8_classMany 40 = .ok (.iconst 0, 1) := by decide +kernel
theorem dX8_classMany_41 : decode cX8_classMany 41 = .ok (.iadd, 1) := by decide +kernel
theorem dX8_classMany_42 : decode cX8_classMany 42 = .ok (.istore_n 3, 1) := by decide +kernel
theorem dX8_classMany_43 : decode cX8_classMany 43 = .ok (.iinc 4 1, 3) := by decide +kernel
theorem dX8_classMany_46 : decode cX8_classMany 46 = .ok (.goto (-35), 3) := by decide +kernel
theorem dX8_classMany_49 : decode cX8_classMany 49 = .ok (.iload_n 3, 1) := by decide +kernel
theorem dX8_classMany_50 : decode cX8_classMany 50 = .ok (.ireturn, 1) := by decide +kernel
theorem dX8_classNumber_0 : decode cX8_classNumber 0 = .ok (.iconst 0, 1) := by decide +kernel
theorem dX8_classNumber_1 : decode cX8_classNumber 1 = .ok (.istore_n 2, 1) := by decide +kernel
theorem dX8_classNumber_2 : decode cX8_classNumber 2 = .ok (.iconst 0, 1) := by decide +kernel
theorem dX8_classNumber_3 : decode cX8_classNumber 3 = .ok (.istore_n 3, 1) := by decide +kernel
theorem dX8_classNumber_4 : decode cX8_classNumber 4 = .ok (.iload_n 3, 1) := by decide +kernel
theorem dX8_classNumber_5 : decode cX8_classNumber 5 = .ok (.aload_n 0, 1) := by decide +kernel
theorem dX8_classNumber_6 : decode cX8_classNumber 6 = .ok (.getfield 97, 3) := by decide +kernel
theorem dX8_classNumber_9 : decode cX8_classNumber 9 = .ok (.if_icmp .ge 43, 3) := by decide +kernel
theorem dX8_classNumber_12 : decode cX8_classNumber 12 = .ok (.aload_n 0, 1) := by decide +kernel
theorem dX8_classNumber_13 : decode cX8_classNumber 13 = .ok (.aload_n 0, 1) := by decide +kernel
theorem dX8_classNumber_14 : decode cX8_classNumber 14 = .ok (.getfield 21, 3) := by decide +kernel
theorem dX8_classNumber_17 : decode cX8_classNumber 17 = .ok (.iload_n 3, 1) := by decide +kernel
theorem dX8_classNumber_18 : decode cX8_classNumber 18 = .ok (.iaload, 1) := by decide +kernel
theorem dX8_classNumber_19 : decode cX8_classNumber 19 = .ok (.invokevirtual 112, 3) := by decide +kernel
theorem dX8_classNumber_22 : decode cX8_classNumber 22 = .ok (.aload_n 0, 1) := by decide +kernel
theorem dX8_classNumber_23 : decode cX8_classNumber 23 = .ok (.getfield 21, 3) := by decide +kernel
theorem dX8_classNumber_26 : decode cX8_classNumber 26 = .ok (.iload_n 3, 1) := by decide +kernel
theorem dX8_classNumber_27 : decode cX8_classNumber 27 = .ok (.iaload, 1) := by decide +kernel
theorem dX8_classNumber_28 : decode cX8_classNumber 28 = .ok (.if_icmp .ne 18, 3) := by decide +kernel
theorem dX8_classNumber_31 : decode cX8_classNumber 31 = .ok (.iload_n 2, 1) := by decide +kernel
theorem dX8_classNumber_32 : decode cX8_classNumber 32 = .ok (.iload_n 1, 1) := by decide +kernel
theorem dX8_classNumber_33 : decode cX8_classNumber 33 = .ok (.if_icmp .ne 10, 3) := by decide +kernel
theorem dX8_classNumber_36 : decode cX8_classNumber 36 = .ok (.aload_n 0, 1) := by decide +kernel
theorem dX8_classNumber_37 : decode cX8_classNumber 37 = .ok (.getfield 21, 3) := by decide +kernel
theorem dX8_classNumber_40 : decode cX8_classNumber 40 = .ok (.iload_n 3, 1) := by decide +kernel
theorem dX8_classNumber_41 : decode cX8_classNumber 41 = .ok (.iaload, 1) := by decide +kernel
theorem dX8_classNumber_42 : decode cX8_classNumber 42 = .ok (.ireturn, 1) := by decide +kernel
theorem dX8_classNumber_43 : decode cX8_classNumber 43 = .ok (.iinc 2 1, 3) := by decide +kernel
theorem dX8_classNumber_46 : decode cX8_classNumber 46 = .ok (.iinc 3 1, 3) := by decide +kernel
theorem dX8_classNumber_49 : decode cX8_classNumber 49 = .ok (.goto (-45), 3) := by decide +kernel
theorem dX8_classNumber_52 : decode cX8_classNumber 52 = .ok (.iconst (-1), 1) := by decide +kernel
theorem dX8_classNumber_53 : decode cX8_classNumber 53 = .ok (.iload_n 2, 1) := by decide +kernel
theorem dX8_classNumber_54 : decode cX8_classNumber 54 = .ok (.isub, 1) := by decide +kernel
theorem dX8_classNumber_55 : decode cX8_classNumber 55 = .ok (.ireturn, 1) := by decide +kernel
theorem dX8_classes_0 : decode cX8_classes 0 = .ok (.iconst (-1), 1) := by decide +kernel
theorem dX8_classes_1 : decode cX8_classes 1 = .ok (.aload_n 0, 1) := by decide +kernel
theorem dX8_classes_2 : decode cX8_classes 2 = .ok (.bipush 48, 2) := by decide +kernel
theorem dX8_classes_4 : decode cX8_classes 4 = .ok (.invokevirtual 115, 3) := by decide +kernel
theorem dX8_classes_7 : decode cX8_classes 7 = .ok (.isub, 1) := by decide +kernel
theorem dX8_classes_8 : decode cX8_classes 8 = .ok (.ireturn, 1) := by decide +kernel
theorem dX8_orbitOf_0 : decode cX8_orbitOf 0 = .ok (.iload_n 1, 1) := by decide +kernel
theorem dX8_orbitOf_1 : decode cX8_orbitOf 1 = .ok (.istore_n 2, 1) := by decide +kernel
theorem dX8_orbitOf_2 : decode cX8_orbitOf 2 = .ok (.iconst 0, 1) := by decide +kernel
theorem dX8_orbitOf_3 : decode cX8_orbitOf 3 = .ok (.istore_n 3, 1) := by decide +kernel
theorem dX8_orbitOf_4 : decode cX8_orbitOf 4 = .ok (.iload_n 3, 1) := by decide +kernel
theorem dX8_orbitOf_5 : decode cX8_orbitOf 5 = .ok (.aload_n 0, 1) := by decide +kernel
theorem dX8_orbitOf_6 : decode cX8_orbitOf 6 = .ok (.getfield 97, 3) := by decide +kernel
theorem dX8_orbitOf_9 : decode cX8_orbitOf 9 = .ok (.if_icmp .ge 25, 3) := by decide +kernel
theorem dX8_orbitOf_12 : decode cX8_orbitOf 12 = .ok (.iload_n 2, 1) := by decide +kernel
theorem dX8_orbitOf_13 : decode cX8_orbitOf 13 = .ok (.aload_n 0, 1) := by decide +kernel
theorem dX8_orbitOf_14 : decode cX8_orbitOf 14 = .ok (.aload_n 0, 1) := by decide +kernel
theorem dX8_orbitOf_15 : decode cX8_orbitOf 15 = .ok (.getfield 21, 3) := by decide +kernel
theorem dX8_orbitOf_18 : decode cX8_orbitOf 18 = .ok (.iload_n 3, 1) := by decide +kernel
theorem dX8_orbitOf_19 : decode cX8_orbitOf 19 = .ok (.iaload, 1) := by decide +kernel
theorem dX8_orbitOf_20 : decode cX8_orbitOf 20 = .ok (.iload_n 1, 1) := by decide +kernel
theorem dX8_orbitOf_21 : decode cX8_orbitOf 21 = .ok (.invokevirtual 90, 3) := by decide +kernel
theorem dX8_orbitOf_24 : decode cX8_orbitOf 24 = .ok (.invokestatic 107, 3) := by decide +kernel
theorem dX8_orbitOf_27 : decode cX8_orbitOf 27 = .ok (.istore_n 2, 1) := by decide +kernel
theorem dX8_orbitOf_28 : decode cX8_orbitOf 28 = .ok (.iinc 3 1, 3) := by decide +kernel
theorem dX8_orbitOf_31 : decode cX8_orbitOf 31 = .ok (.goto (-27), 3) := by decide +kernel
theorem dX8_orbitOf_34 : decode cX8_orbitOf 34 = .ok (.iload_n 2, 1) := by decide +kernel
theorem dX8_orbitOf_35 : decode cX8_orbitOf 35 = .ok (.ireturn, 1) := by decide +kernel
theorem dX8_orbits_0 : decode cX8_orbits 0 = .ok (.iconst 0, 1) := by decide +kernel
theorem dX8_orbits_1 : decode cX8_orbits 1 = .ok (.istore_n 1, 1) := by decide +kernel
theorem dX8_orbits_2 : decode cX8_orbits 2 = .ok (.iconst 0, 1) := by decide +kernel
theorem dX8_orbits_3 : decode cX8_orbits 3 = .ok (.istore_n 2, 1) := by decide +kernel
theorem dX8_orbits_4 : decode cX8_orbits 4 = .ok (.iload_n 2, 1) := by decide +kernel
theorem dX8_orbits_5 : decode cX8_orbits 5 = .ok (.aload_n 0, 1) := by decide +kernel
theorem dX8_orbits_6 : decode cX8_orbits 6 = .ok (.getfield 11, 3) := by decide +kernel
theorem dX8_orbits_9 : decode cX8_orbits 9 = .ok (.iconst 0, 1) := by decide +kernel
theorem dX8_orbits_10 : decode cX8_orbits 10 = .ok (.iaload, 1) := by decide +kernel
theorem dX8_orbits_11 : decode cX8_orbits 11 = .ok (.if_icmp .ge 26, 3) := by decide +kernel
theorem dX8_orbits_14 : decode cX8_orbits 14 = .ok (.iload_n 1, 1) := by decide +kernel
theorem dX8_orbits_15 : decode cX8_orbits 15 = .ok (.aload_n 0, 1) := by decide +kernel
theorem dX8_orbits_16 : decode cX8_orbits 16 = .ok (.iload_n 2, 1) := by decide +kernel
theorem dX8_orbits_17 : decode cX8_orbits 17 = .ok (.invokevirtual 118, 3) := by decide +kernel
theorem dX8_orbits_20 : decode cX8_orbits 20 = .ok (.iload_n 2, 1) := by decide +kernel
theorem dX8_orbits_21 : decode cX8_orbits 21 = .ok (.if_icmp .ne 7, 3) := by decide +kernel
theorem dX8_orbits_24 : decode cX8_orbits 24 = .ok (.iconst 1, 1) := by decide +kernel
theorem dX8_orbits_25 : decode cX8_orbits 25 = .ok (.goto 4, 3) := by decide +kernel
theorem dX8_orbits_28 : decode cX8_orbits 28 = .ok (.iconst 0, 1) := by decide +kernel
theorem dX8_orbits_29 : decode cX8_orbits 29 = .ok (.iadd, 1) := by decide +kernel
theorem dX8_orbits_30 : decode cX8_orbits 30 = .ok (.istore_n 1, 1) := by decide +kernel
theorem dX8_orbits_31 : decode cX8_orbits 31 = .ok (.iinc 2 1, 3) := by decide +kernel
theorem dX8_orbits_34 : decode cX8_orbits 34 = .ok (.goto (-30), 3) := by decide +kernel
theorem dX8_orbits_37 : decode cX8_orbits 37 = .ok (.iload_n 1, 1) := by decide +kernel
theorem dX8_orbits_38 : decode cX8_orbits 38 = .ok (.ireturn, 1) := by decide +kernel
theorem dX8_isHanded_0 : decode cX8_isHanded 0 = .ok (.iconst 1, 1) := by decide +kernel
theorem dX8_isHanded_1 : decode cX8_isHanded 1 = .ok (.istore_n 1, 1) := by decide +kernel
theorem dX8_isHanded_2 : decode cX8_isHanded 2 = .ok (.iconst 0, 1) := by decide +kernel
theorem dX8_isHanded_3 : decode cX8_isHanded 3 = .ok (.istore_n 2, 1) := by decide +kernel
theorem dX8_isHanded_4 : decode cX8_isHanded 4 = .ok (.iload_n 2, 1) := by decide +kernel
theorem dX8_isHanded_5 : decode cX8_isHanded 5 = .ok (.aload_n 0, 1) := by decide +kernel
theorem dX8_isHanded_6 : decode cX8_isHanded 6 = .ok (.getfield 97, 3) := by decide +kernel
theorem dX8_isHanded_9 : decode cX8_isHanded 9 = .ok (.if_icmp .ge 30, 3) := by decide +kernel
theorem dX8_isHanded_12 : decode cX8_isHanded 12 = .ok (.iload_n 1, 1) := by decide +kernel
theorem dX8_isHanded_13 : decode cX8_isHanded 13 = .ok (.aload_n 0, 1) := by decide +kernel
theorem dX8_isHanded_14 : decode cX8_isHanded 14 = .ok (.getfield 21, 3) := by decide +kernel
theorem dX8_isHanded_17 : decode cX8_isHanded 17 = .ok (.iload_n 2, 1) := by decide +kernel
theorem dX8_isHanded_18 : decode cX8_isHanded 18 = .ok (.iaload, 1) := by decide +kernel
theorem dX8_isHanded_19 : decode cX8_isHanded 19 = .ok (.invokestatic 121, 3) := by decide +kernel
theorem dX8_isHanded_22 : decode cX8_isHanded 22 = .ok (.iconst 1, 1) := by decide +kernel
theorem dX8_isHanded_23 : decode cX8_isHanded 23 = .ok (.if_icmp .ne 7, 3) := by decide +kernel
theorem dX8_isHanded_26 : decode cX8_isHanded 26 = .ok (.iconst 1, 1) := by decide +kernel
theorem dX8_isHanded_27 : decode cX8_isHanded 27 = .ok (.goto 4, 3) := by decide +kernel
theorem dX8_isHanded_30 : decode cX8_isHanded 30 = .ok (.iconst 0, 1) := by decide +kernel
theorem dX8_isHanded_31 : decode cX8_isHanded 31 = .ok (.iand, 1) := by decide +kernel
theorem dX8_isHanded_32 : decode cX8_isHanded 32 = .ok (.istore_n 1, 1) := by decide +kernel
theorem dX8_isHanded_33 : decode cX8_isHanded 33 = .ok (.iinc 2 1, 3) := by decide +kernel
theorem dX8_isHanded_36 : decode cX8_isHanded 36 = .ok (.goto (-32), 3) := by decide +kernel
theorem dX8_isHanded_39 : decode cX8_isHanded 39 = .ok (.iload_n 1, 1) := by decide +kernel
theorem dX8_isHanded_40 : decode cX8_isHanded 40 = .ok (.ireturn, 1) := by decide +kernel
theorem dX8_nearest_0 : decode cX8_nearest 0 = .ok (.bipush (-5), 2) := by decide +kernel
theorem dX8_nearest_2 : decode cX8_nearest 2 = .ok (.istore_n 1, 1) := by decide +kernel
theorem dX8_nearest_3 : decode cX8_nearest 3 = .ok (.iconst 0, 1) := by decide +kernel
theorem dX8_nearest_4 : decode cX8_nearest 4 = .ok (.istore_n 2, 1) := by decide +kernel
theorem dX8_nearest_5 : decode cX8_nearest 5 = .ok (.iload_n 2, 1) := by decide +kernel
theorem dX8_nearest_6 : decode cX8_nearest 6 = .ok (.bipush 48, 2) := by decide +kernel
theorem dX8_nearest_8 : decode cX8_nearest 8 = .ok (.if_icmp .ge 43, 3) := by decide +kernel
theorem dX8_nearest_11 : decode cX8_nearest 11 = .ok (.aload_n 0, 1) := by decide +kernel
theorem dX8_nearest_12 : decode cX8_nearest 12 = .ok (.getfield 24, 3) := by decide +kernel
theorem dX8_nearest_15 : decode cX8_nearest 15 = .ok (.iload_n 2, 1) := by decide +kernel
theorem dX8_nearest_16 : decode cX8_nearest 16 = .ok (.baload, 1) := by decide +kernel
theorem dX8_nearest_17 : decode cX8_nearest 17 = .ok (.ifCond .ne 26, 3) := by decide +kernel
theorem dX8_nearest_20 : decode cX8_nearest 20 = .ok (.iload_n 1, 1) := by decide +kernel
theorem dX8_nearest_21 : decode cX8_nearest 21 = .ok (.bipush (-5), 2) := by decide +kernel
theorem dX8_nearest_23 : decode cX8_nearest 23 = .ok (.if_icmp .eq 16, 3) := by decide +kernel
theorem dX8_nearest_26 : decode cX8_nearest 26 = .ok (.aload_n 0, 1) := by decide +kernel
theorem dX8_nearest_27 : decode cX8_nearest 27 = .ok (.iload_n 2, 1) := by decide +kernel
theorem dX8_nearest_28 : decode cX8_nearest 28 = .ok (.invokevirtual 101, 3) := by decide +kernel
theorem dX8_nearest_31 : decode cX8_nearest 31 = .ok (.aload_n 0, 1) := by decide +kernel
theorem dX8_nearest_32 : decode cX8_nearest 32 = .ok (.iload_n 1, 1) := by decide +kernel
theorem dX8_nearest_33 : decode cX8_nearest 33 = .ok (.invokevirtual 101, 3) := by decide +kernel
theorem dX8_nearest_36 : decode cX8_nearest 36 = .ok (.if_icmp .ge 7, 3) := by decide +kernel
theorem dX8_nearest_39 : decode cX8_nearest 39 = .ok (.iload_n 2, 1) := by decide +kernel
theorem dX8_nearest_40 : decode cX8_nearest 40 = .ok (.goto 4, 3) := by decide +kernel
theorem dX8_nearest_43 : decode cX8_nearest 43 = .ok (.iload_n 1, 1) := by decide +kernel
theorem dX8_nearest_44 : decode cX8_nearest 44 = .ok (.istore_n 1, 1) := by decide +kernel
theorem dX8_nearest_45 : decode cX8_nearest 45 = .ok (.iinc 2 1, 3) := by decide +kernel
theorem dX8_nearest_48 : decode cX8_nearest 48 = .ok (.goto (-43), 3) := by decide +kernel
theorem dX8_nearest_51 : decode cX8_nearest 51 = .ok (.iload_n 1, 1) := by decide +kernel
theorem dX8_nearest_52 : decode cX8_nearest 52 = .ok (.ireturn, 1) := by decide +kernel
theorem dX8_makesMore_0 : decode cX8_makesMore 0 = .ok (.iconst 0, 1) := by decide +kernel
theorem dX8_makesMore_1 : decode cX8_makesMore 1 = .ok (.istore_n 1, 1) := by decide +kernel
theorem dX8_makesMore_2 : decode cX8_makesMore 2 = .ok (.iconst 0, 1) := by decide +kernel
theorem dX8_makesMore_3 : decode cX8_makesMore 3 = .ok (.istore_n 2, 1) := by decide +kernel
theorem dX8_makesMore_4 : decode cX8_makesMore 4 = .ok (.iload_n 2, 1) := by decide +kernel
theorem dX8_makesMore_5 : decode cX8_makesMore 5 = .ok (.bipush 48, 2) := by decide +kernel
theorem dX8_makesMore_7 : decode cX8_makesMore 7 = .ok (.if_icmp .ge 72, 3) := by decide +kernel
theorem dX8_makesMore_10 : decode cX8_makesMore 10 = .ok (.iconst 0, 1) := by decide +kernel
theorem dX8_makesMore_11 : decode cX8_makesMore 11 = .ok (.istore_n 3, 1) := by decide +kernel
theorem dX8_makesMore_12 : decode cX8_makesMore 12 = .ok (.iload_n 3, 1) := by decide +kernel
theorem dX8_makesMore_13 : decode cX8_makesMore 13 = .ok (.aload_n 0, 1) := by decide +kernel
theorem dX8_makesMore_14 : decode cX8_makesMore 14 = .ok (.getfield 124, 3) := by decide +kernel
theorem dX8_makesMore_17 : decode cX8_makesMore 17 = .ok (.if_icmp .ge 56, 3) := by decide +kernel
theorem dX8_makesMore_20 : decode cX8_makesMore 20 = .ok (.aload_n 0, 1) := by decide +kernel
theorem dX8_makesMore_21 : decode cX8_makesMore 21 = .ok (.getfield 31, 3) := by decide +kernel
theorem dX8_makesMore_24 : decode cX8_makesMore 24 = .ok (.iload_n 2, 1) := by decide +kernel
theorem dX8_makesMore_25 : decode cX8_makesMore 25 = .ok (.baload, 1) := by decide +kernel
theorem dX8_makesMore_26 : decode cX8_makesMore 26 = .ok (.ifCond .eq 47, 3) := by decide +kernel
theorem dX8_makesMore_29 : decode cX8_makesMore 29 = .ok (.aload_n 0, 1) := by decide +kernel
theorem dX8_makesMore_30 : decode cX8_makesMore 30 = .ok (.getfield 28, 3) := by decide +kernel
theorem dX8_makesMore_33 : decode cX8_makesMore 33 = .ok (.iload_n 3, 1) := by decide +kernel
theorem dX8_makesMore_34 : decode cX8_makesMore 34 = .ok (.iaload, 1) := by decide +kernel
theorem dX8_makesMore_35 : decode cX8_makesMore 35 = .ok (.iload_n 2, 1) := by decide +kernel
theorem dX8_makesMore_36 : decode cX8_makesMore 36 = .ok (.invokestatic 81, 3) := by decide +kernel
theorem dX8_makesMore_39 : decode cX8_makesMore 39 = .ok (.istore 4, 2) := by decide +kernel
theorem dX8_makesMore_41 : decode cX8_makesMore 41 = .ok (.iload_n 1, 1) := by decide +kernel
theorem dX8_makesMore_42 : decode cX8_makesMore 42 = .ok (.aload_n 0, 1) := by decide +kernel
theorem dX8_makesMore_43 : decode cX8_makesMore 43 = .ok (.getfield 31, 3) := by decide +kernel
theorem dX8_makesMore_46 : decode cX8_makesMore 46 = .ok (.iload 4, 2) := by decide +kernel
theorem dX8_makesMore_48 : decode cX8_makesMore 48 = .ok (.baload, 1) := by decide +kernel
theorem dX8_makesMore_49 : decode cX8_makesMore 49 = .ok (.ifCond .ne 7, 3) := by decide +kernel
theorem dX8_makesMore_52 : decode cX8_makesMore 52 = .ok (.iconst 1, 1) := by decide +kernel
theorem dX8_makesMore_53 : decode cX8_makesMore 53 = .ok (.goto 4, 3) := by decide +kernel
theorem dX8_makesMore_56 : decode cX8_makesMore 56 = .ok (.iconst 0, 1) := by decide +kernel
theorem dX8_makesMore_57 : decode cX8_makesMore 57 = .ok (.ior, 1) := by decide +kernel
theorem dX8_makesMore_58 : decode cX8_makesMore 58 = .ok (.istore_n 1, 1) := by decide +kernel
theorem dX8_makesMore_59 : decode cX8_makesMore 59 = .ok (.aload_n 0, 1) := by decide +kernel
theorem dX8_makesMore_60 : decode cX8_makesMore 60 = .ok (.getfield 31, 3) := by decide +kernel
theorem dX8_makesMore_63 : decode cX8_makesMore 63 = .ok (.iload 4, 2) := by decide +kernel
theorem dX8_makesMore_65 : decode cX8_makesMore 65 = .ok (.iconst 1, 1) := by decide +kernel
theorem dX8_makesMore_66 : decode cX8_makesMore 66 = .ok (.bastore, 1) := by decide +kernel
theorem dX8_makesMore_67 : decode cX8_makesMore 67 = .ok (.iinc 3 1, 3) := by decide +kernel
theorem dX8_makesMore_70 : decode cX8_makesMore 70 = .ok (.goto (-58), 3) := by decide +kernel
theorem dX8_makesMore_73 : decode cX8_makesMore 73 = .ok (.iinc 2 1, 3) := by decide +kernel
theorem dX8_makesMore_76 : decode cX8_makesMore 76 = .ok (.goto (-72), 3) := by decide +kernel
theorem dX8_makesMore_79 : decode cX8_makesMore 79 = .ok (.iload_n 1, 1) := by decide +kernel
theorem dX8_makesMore_80 : decode cX8_makesMore 80 = .ok (.ireturn, 1) := by decide +kernel
theorem dX8_findsMakers_0 : decode cX8_findsMakers 0 = .ok (.aload_n 0, 1) := by decide +kernel
theorem dX8_findsMakers_1 : decode cX8_findsMakers 1 = .ok (.iconst 0, 1) := by decide +kernel
theorem dX8_findsMakers_2 : decode cX8_findsMakers 2 = .ok (.putfield 124, 3) := by decide +kernel
theorem dX8_findsMakers_5 : decode cX8_findsMakers 5 = .ok (.iconst 0, 1) := by decide +kernel
theorem dX8_findsMakers_6 : decode cX8_findsMakers 6 = .ok (.istore_n 1, 1) := by decide +kernel
theorem dX8_findsMakers_7 : decode cX8_findsMakers 7 = .ok (.iload_n 1, 1) := by decide +kernel
theorem dX8_findsMakers_8 : decode cX8_findsMakers 8 = .ok (.bipush 48, 2) := by decide +kernel
theorem dX8_findsMakers_10 : decode cX8_findsMakers 10 = .ok (.if_icmp .ge 24, 3) := by decide +kernel
theorem dX8_findsMakers_13 : decode cX8_findsMakers 13 = .ok (.aload_n 0, 1) := by decide +kernel
theorem dX8_findsMakers_14 : decode cX8_findsMakers 14 = .ok (.getfield 31, 3) := by decide +kernel
theorem dX8_findsMakers_17 : decode cX8_findsMakers 17 = .ok (.iload_n 1, 1) := by decide +kernel
theorem dX8_findsMakers_18 : decode cX8_findsMakers 18 = .ok (.iload_n 1, 1) := by decide +kernel
theorem dX8_findsMakers_19 : decode cX8_findsMakers 19 = .ok (.ifCond .ne 7, 3) := by decide +kernel
theorem dX8_findsMakers_22 : decode cX8_findsMakers 22 = .ok (.iconst 1, 1) := by decide +kernel
theorem dX8_findsMakers_23 : decode cX8_findsMakers 23 = .ok (.goto 4, 3) := by decide +kernel
theorem dX8_findsMakers_26 : decode cX8_findsMakers 26 = .ok (.iconst 0, 1) := by decide +kernel
theorem dX8_findsMakers_27 : decode cX8_findsMakers 27 = .ok (.bastore, 1) := by decide +kernel
theorem dX8_findsMakers_28 : decode cX8_findsMakers 28 = .ok (.iinc 1 1, 3) := by decide +kernel
theorem dX8_findsMakers_31 : decode cX8_findsMakers 31 = .ok (.goto (-24), 3) := by decide +kernel
theorem dX8_findsMakers_34 : decode cX8_findsMakers 34 = .ok (.iconst 0, 1) := by decide +kernel
theorem dX8_findsMakers_35 : decode cX8_findsMakers 35 = .ok (.istore_n 1, 1) := by decide +kernel
theorem dX8_findsMakers_36 : decode cX8_findsMakers 36 = .ok (.iload_n 1, 1) := by decide +kernel
theorem dX8_findsMakers_37 : decode cX8_findsMakers 37 = .ok (.aload_n 0, 1) := by decide +kernel
theorem dX8_findsMakers_38 : decode cX8_findsMakers 38 = .ok (.getfield 97, 3) := by decide +kernel
theorem dX8_findsMakers_41 : decode cX8_findsMakers 41 = .ok (.if_icmp .ge 65, 3) := by decide +kernel
theorem dX8_findsMakers_44 : decode cX8_findsMakers 44 = .ok (.aload_n 0, 1) := by decide +kernel
theorem dX8_findsMakers_45 : decode cX8_findsMakers 45 = .ok (.getfield 31, 3) := by decide +kernel
theorem dX8_findsMakers_48 : decode cX8_findsMakers 48 = .ok (.aload_n 0, 1) := by decide +kernel
theorem dX8_findsMakers_49 : decode cX8_findsMakers 49 = .ok (.getfield 21, 3) := by decide +kernel
theorem dX8_findsMakers_52 : decode cX8_findsMakers 52 = .ok (.iload_n 1, 1) := by decide +kernel
theorem dX8_findsMakers_53 : decode cX8_findsMakers 53 = .ok (.iaload, 1) := by decide +kernel
theorem dX8_findsMakers_54 : decode cX8_findsMakers 54 = .ok (.baload, 1) := by decide +kernel
theorem dX8_findsMakers_55 : decode cX8_findsMakers 55 = .ok (.ifCond .ne 45, 3) := by decide +kernel
theorem dX8_findsMakers_58 : decode cX8_findsMakers 58 = .ok (.aload_n 0, 1) := by decide +kernel
theorem dX8_findsMakers_59 : decode cX8_findsMakers 59 = .ok (.getfield 28, 3) := by decide +kernel
theorem dX8_findsMakers_62 : decode cX8_findsMakers 62 = .ok (.aload_n 0, 1) := by decide +kernel
theorem dX8_findsMakers_63 : decode cX8_findsMakers 63 = .ok (.getfield 124, 3) := by decide +kernel
theorem dX8_findsMakers_66 : decode cX8_findsMakers 66 = .ok (.aload_n 0, 1) := by decide +kernel
theorem dX8_findsMakers_67 : decode cX8_findsMakers 67 = .ok (.getfield 21, 3) := by decide +kernel
theorem dX8_findsMakers_70 : decode cX8_findsMakers 70 = .ok (.iload_n 1, 1) := by decide +kernel
theorem dX8_findsMakers_71 : decode cX8_findsMakers 71 = .ok (.iaload, 1) := by decide +kernel
theorem dX8_findsMakers_72 : decode cX8_findsMakers 72 = .ok (.iastore, 1) := by decide +kernel
theorem dX8_findsMakers_73 : decode cX8_findsMakers 73 = .ok (.aload_n 0, 1) := by decide +kernel
theorem dX8_findsMakers_74 : decode cX8_findsMakers 74 = .ok (.dup, 1) := by decide +kernel
theorem dX8_findsMakers_75 : decode cX8_findsMakers 75 = .ok (.getfield 124, 3) := by decide +kernel
theorem dX8_findsMakers_78 : decode cX8_findsMakers 78 = .ok (.iconst 1, 1) := by decide +kernel
theorem dX8_findsMakers_79 : decode cX8_findsMakers 79 = .ok (.iadd, 1) := by decide +kernel
theorem dX8_findsMakers_80 : decode cX8_findsMakers 80 = .ok (.putfield 124, 3) := by decide +kernel
theorem dX8_findsMakers_83 : decode cX8_findsMakers 83 = .ok (.aload_n 0, 1) := by decide +kernel
theorem dX8_findsMakers_84 : decode cX8_findsMakers 84 = .ok (.invokevirtual 127, 3) := by decide +kernel
theorem dX8_findsMakers_87 : decode cX8_findsMakers 87 = .ok (.ifCond .eq 13, 3) := by decide +kernel
theorem dX8_findsMakers_90 : decode cX8_findsMakers 90 = .ok (.aload_n 0, 1) := by decide +kernel
theorem dX8_findsMakers_91 : decode cX8_findsMakers 91 = .ok (.getfield 31, 3) := by decide +kernel
theorem dX8_findsMakers_94 : decode cX8_findsMakers 94 = .ok (.iconst 0, 1) := by decide +kernel
theorem dX8_findsMakers_95 : decode cX8_findsMakers 95 = .ok (.iconst 1, 1) := by decide +kernel
theorem dX8_findsMakers_96 : decode cX8_findsMakers 96 = .ok (.bastore, 1) := by decide +kernel
theorem dX8_findsMakers_97 : decode cX8_findsMakers 97 = .ok (.goto (-14), 3) := by decide +kernel
theorem dX8_findsMakers_100 : decode cX8_findsMakers 100 = .ok (.iinc 1 1, 3) := by decide +kernel
theorem dX8_findsMakers_103 : decode cX8_findsMakers 103 = .ok (.goto (-67), 3) := by decide +kernel
theorem dX8_findsMakers_106 : decode cX8_findsMakers 106 = .ok (.return_, 1) := by decide +kernel
theorem dX8_toldSign_0 : decode cX8_toldSign 0 = .ok (.iconst 1, 1) := by decide +kernel
theorem dX8_toldSign_1 : decode cX8_toldSign 1 = .ok (.iconst 2, 1) := by decide +kernel
theorem dX8_toldSign_2 : decode cX8_toldSign 2 = .ok (.iload_n 1, 1) := by decide +kernel
theorem dX8_toldSign_3 : decode cX8_toldSign 3 = .ok (.aload_n 0, 1) := by decide +kernel
theorem dX8_toldSign_4 : decode cX8_toldSign 4 = .ok (.getfield 124, 3) := by decide +kernel
theorem dX8_toldSign_7 : decode cX8_toldSign 7 = .ok (.iconst 1, 1) := by decide +kernel
theorem dX8_toldSign_8 : decode cX8_toldSign 8 = .ok (.isub, 1) := by decide +kernel
theorem dX8_toldSign_9 : decode cX8_toldSign 9 = .ok (.iload_n 2, 1) := by decide +kernel
theorem dX8_toldSign_10 : decode cX8_toldSign 10 = .ok (.isub, 1) := by decide +kernel
theorem dX8_toldSign_11 : decode cX8_toldSign 11 = .ok (.ishr, 1) := by decide +kernel
theorem dX8_toldSign_12 : decode cX8_toldSign 12 = .ok (.iconst 1, 1) := by decide +kernel
theorem dX8_toldSign_13 : decode cX8_toldSign 13 = .ok (.iand, 1) := by decide +kernel
theorem dX8_toldSign_14 : decode cX8_toldSign 14 = .ok (.imul, 1) := by decide +kernel
theorem dX8_toldSign_15 : decode cX8_toldSign 15 = .ok (.isub, 1) := by decide +kernel
theorem dX8_toldSign_16 : decode cX8_toldSign 16 = .ok (.ireturn, 1) := by decide +kernel
theorem dX8_spreads_0 : decode cX8_spreads 0 = .ok (.iconst 0, 1) := by decide +kernel
theorem dX8_spreads_1 : decode cX8_spreads 1 = .ok (.istore_n 2, 1) := by decide +kernel
theorem dX8_spreads_2 : decode cX8_spreads 2 = .ok (.iconst 0, 1) := by decide +kernel
theorem dX8_spreads_3 : decode cX8_spreads 3 = .ok (.istore_n 3, 1) := by decide +kernel
theorem dX8_spreads_4 : decode cX8_spreads 4 = .ok (.iload_n 3, 1) := by decide +kernel
theorem dX8_spreads_5 : decode cX8_spreads 5 = .ok (.bipush 48, 2) := by decide +kernel
theorem dX8_spreads_7 : decode cX8_spreads 7 = .ok (.if_icmp .ge 108, 3) := by decide +kernel
theorem dX8_spreads_10 : decode cX8_spreads 10 = .ok (.iconst 0, 1) := by decide +kernel
theorem dX8_spreads_11 : decode cX8_spreads 11 = .ok (.istore 4, 2) := by decide +kernel
theorem dX8_spreads_13 : decode cX8_spreads 13 = .ok (.iload 4, 2) := by decide +kernel
theorem dX8_spreads_15 : decode cX8_spreads 15 = .ok (.aload_n 0, 1) := by decide +kernel
theorem dX8_spreads_16 : decode cX8_spreads 16 = .ok (.getfield 124, 3) := by decide +kernel
theorem dX8_spreads_19 : decode cX8_spreads 19 = .ok (.if_icmp .ge 90, 3) := by decide +kernel
theorem dX8_spreads_22 : decode cX8_spreads 22 = .ok (.aload_n 0, 1) := by decide +kernel
theorem dX8_spreads_23 : decode cX8_spreads 23 = .ok (.getfield 34, 3) := by decide +kernel
theorem dX8_spreads_26 : decode cX8_spreads 26 = .ok (.iload_n 3, 1) := by decide +kernel
theorem dX8_spreads_27 : decode cX8_spreads 27 = .ok (.iaload, 1) := by decide +kernel
theorem dX8_spreads_28 : decode cX8_spreads 28 = .ok (.ifCond .eq 81, 3) := by decide +kernel
theorem dX8_spreads_31 : decode cX8_spreads 31 = .ok (.aload_n 0, 1) := by decide +kernel
theorem dX8_spreads_32 : decode cX8_spreads 32 = .ok (.getfield 28, 3) := by decide +kernel
theorem dX8_spreads_35 : decode cX8_spreads 35 = .ok (.iload 4, 2) := by decide +kernel
theorem dX8_spreads_37 : decode cX8_spreads 37 = .ok (.iaload, 1) := by decide +kernel
theorem dX8_spreads_38 : decode cX8_spreads 38 = .ok (.iload_n 3, 1) := by decide +kernel
theorem dX8_spreads_39 : decode cX8_spreads 39 = .ok (.invokestatic 81, 3) := by decide +kernel
theorem dX8_spreads_42 : decode cX8_spreads 42 = .ok (.istore 5, 2) := by decide +kernel
theorem dX8_spreads_44 : decode cX8_spreads 44 = .ok (.iload_n 2, 1) := by decide +kernel
theorem dX8_spreads_45 : decode cX8_spreads 45 = .ok (.aload_n 0, 1) := by decide +kernel
theorem dX8_spreads_46 : decode cX8_spreads 46 = .ok (.getfield 34, 3) := by decide +kernel
theorem dX8_spreads_49 : decode cX8_spreads 49 = .ok (.iload 5, 2) := by decide +kernel
theorem dX8_spreads_51 : decode cX8_spreads 51 = .ok (.iaload, 1) := by decide +kernel
theorem dX8_spreads_52 : decode cX8_spreads 52 = .ok (.ifCond .ne 7, 3) := by decide +kernel
theorem dX8_spreads_55 : decode cX8_spreads 55 = .ok (.iconst 1, 1) := by decide +kernel
theorem dX8_spreads_56 : decode cX8_spreads 56 = .ok (.goto 4, 3) := by decide +kernel
theorem dX8_spreads_59 : decode cX8_spreads 59 = .ok (.iconst 0, 1) := by decide +kernel
theorem dX8_spreads_60 : decode cX8_spreads 60 = .ok (.ior, 1) := by decide +kernel
theorem dX8_spreads_61 : decode cX8_spreads 61 = .ok (.istore_n 2, 1) := by decide +kernel
theorem dX8_spreads_62 : decode cX8_spreads 62 = .ok (.aload_n 0, 1) := by decide +kernel
theorem dX8_spreads_63 : decode cX8_spreads 63 = .ok (.getfield 34, 3) := by decide +kernel
theorem dX8_spreads_66 : decode cX8_spreads 66 = .ok (.iload 5, 2) := by decide +kernel
theorem dX8_spreads_68 : decode cX8_spreads 68 = .ok (.aload_n 0, 1) := by decide +kernel
theorem dX8_spreads_69 : decode cX8_spreads 69 = .ok (.getfield 34, 3) := by decide +kernel
theorem dX8_spreads_72 : decode cX8_spreads 72 = .ok (.iload 5, 2) := by decide +kernel
theorem dX8_spreads_74 : decode cX8_spreads 74 = .ok (.iaload, 1) := by decide +kernel
theorem dX8_spreads_75 : decode cX8_spreads 75 = .ok (.ifCond .ne 20, 3) := by decide +kernel
theorem dX8_spreads_78 : decode cX8_spreads 78 = .ok (.aload_n 0, 1) := by decide +kernel
theorem dX8_spreads_79 : decode cX8_spreads 79 = .ok (.getfield 34, 3) := by decide +kernel
theorem dX8_spreads_82 : decode cX8_spreads 82 = .ok (.iload_n 3, 1) := by decide +kernel
theorem dX8_spreads_83 : decode cX8_spreads 83 = .ok (.iaload, 1) := by decide +kernel
theorem dX8_spreads_84 : decode cX8_spreads 84 = .ok (.aload_n 0, 1) := by decide +kernel
theorem dX8_spreads_85 : decode cX8_spreads 85 = .ok (.iload_n 1, 1) := by decide +kernel
theorem dX8_spreads_86 : decode cX8_spreads 86 = .ok (.iload 4, 2) := by decide +kernel
theorem dX8_spreads_88 : decode cX8_spreads 88 = .ok (.invokevirtual 131, 3) := by decide +kernel
theorem dX8_spreads_91 : decode cX8_spreads 91 = .ok (.imul, 1) := by decide +kernel
theorem dX8_spreads_92 : decode cX8_spreads 92 = .ok (.goto 10, 3) := by decide +kernel
theorem dX8_spreads_95 : decode cX8_spreads 95 = .ok (.aload_n 0, 1) := by decide +kernel
theorem dX8_spreads_96 : decode cX8_spreads 96 = .ok (.getfield 34, 3) := by decide +kernel
theorem dX8_spreads_99 : decode cX8_spreads 99 = .ok (.iload 5, 2) := by decide +kernel
theorem dX8_spreads_101 : decode cX8_spreads 101 = .ok (.iaload, 1) := by decide +kernel
theorem dX8_spreads_102 : decode cX8_spreads 102 = .ok (.iastore, 1) := by decide +kernel
theorem dX8_spreads_103 : decode cX8_spreads 103 = .ok (.iinc 4 1, 3) := by decide +kernel
theorem dX8_spreads_106 : decode cX8_spreads 106 = .ok (.goto (-93), 3) := by decide +kernel
theorem dX8_spreads_109 : decode cX8_spreads 109 = .ok (.iinc 3 1, 3) := by decide +kernel
theorem dX8_spreads_112 : decode cX8_spreads 112 = .ok (.goto (-108), 3) := by decide +kernel
theorem dX8_spreads_115 : decode cX8_spreads 115 = .ok (.iload_n 2, 1) := by decide +kernel
theorem dX8_spreads_116 : decode cX8_spreads 116 = .ok (.ireturn, 1) := by decide +kernel
theorem dX8_isSign_0 : decode cX8_isSign 0 = .ok (.iconst 0, 1) := by decide +kernel
theorem dX8_isSign_1 : decode cX8_isSign 1 = .ok (.istore_n 2, 1) := by decide +kernel
theorem dX8_isSign_2 : decode cX8_isSign 2 = .ok (.iload_n 2, 1) := by decide +kernel
theorem dX8_isSign_3 : decode cX8_isSign 3 = .ok (.bipush 48, 2) := by decide +kernel
theorem dX8_isSign_5 : decode cX8_isSign 5 = .ok (.if_icmp .ge 24, 3) := by decide +kernel
theorem dX8_isSign_8 : decode cX8_isSign 8 = .ok (.aload_n 0, 1) := by decide +kernel
theorem dX8_isSign_9 : decode cX8_isSign 9 = .ok (.getfield 34, 3) := by decide +kernel
theorem dX8_isSign_12 : decode cX8_isSign 12 = .ok (.iload_n 2, 1) := by decide +kernel
theorem dX8_isSign_13 : decode cX8_isSign 13 = .ok (.iload_n 2, 1) := by decide +kernel
theorem dX8_isSign_14 : decode cX8_isSign 14 = .ok (.ifCond .ne 7, 3) := by decide +kernel
theorem dX8_isSign_17 : decode cX8_isSign 17 = .ok (.iconst 1, 1) := by decide +kernel
theorem dX8_isSign_18 : decode cX8_isSign 18 = .ok (.goto 4, 3) := by decide +kernel
theorem dX8_isSign_21 : decode cX8_isSign 21 = .ok (.iconst 0, 1) := by decide +kernel
theorem dX8_isSign_22 : decode cX8_isSign 22 = .ok (.iastore, 1) := by decide +kernel
theorem dX8_isSign_23 : decode cX8_isSign 23 = .ok (.iinc 2 1, 3) := by decide +kernel
theorem dX8_isSign_26 : decode cX8_isSign 26 = .ok (.goto (-24), 3) := by decide +kernel
theorem dX8_isSign_29 : decode cX8_isSign 29 = .ok (.aload_n 0, 1) := by decide +kernel
theorem dX8_isSign_30 : decode cX8_isSign 30 = .ok (.iload_n 1, 1) := by decide +kernel
theorem dX8_isSign_31 : decode cX8_isSign 31 = .ok (.invokevirtual 134, 3) := by decide +kernel
theorem dX8_isSign_34 : decode cX8_isSign 34 = .ok (.ifCond .eq 13, 3) := by decide +kernel
theorem dX8_isSign_37 : decode cX8_isSign 37 = .ok (.aload_n 0, 1) := by decide +kernel
theorem dX8_isSign_38 : decode cX8_isSign 38 = .ok (.getfield 34, 3) := by decide +kernel
theorem dX8_isSign_41 : decode cX8_isSign 41 = .ok (.iconst 0, 1) := by decide +kernel
theorem dX8_isSign_42 : decode cX8_isSign 42 = .ok (.iconst 1, 1) := by decide +kernel
theorem dX8_isSign_43 : decode cX8_isSign 43 = .ok (.iastore, 1) := by decide +kernel
theorem dX8_isSign_44 : decode cX8_isSign 44 = .ok (.goto (-15), 3) := by decide +kernel
theorem dX8_isSign_47 : decode cX8_isSign 47 = .ok (.iconst 1, 1) := by decide +kernel
theorem dX8_isSign_48 : decode cX8_isSign 48 = .ok (.istore_n 2, 1) := by decide +kernel
theorem dX8_isSign_49 : decode cX8_isSign 49 = .ok (.iconst 0, 1) := by decide +kernel
theorem dX8_isSign_50 : decode cX8_isSign 50 = .ok (.istore_n 3, 1) := by decide +kernel
theorem dX8_isSign_51 : decode cX8_isSign 51 = .ok (.iload_n 3, 1) := by decide +kernel
theorem dX8_isSign_52 : decode cX8_isSign 52 = .ok (.aload_n 0, 1) := by decide +kernel
theorem dX8_isSign_53 : decode cX8_isSign 53 = .ok (.getfield 97, 3) := by decide +kernel
theorem dX8_isSign_56 : decode cX8_isSign 56 = .ok (.if_icmp .ge 78, 3) := by decide +kernel
theorem dX8_isSign_59 : decode cX8_isSign 59 = .ok (.iconst 0, 1) := by decide +kernel
theorem dX8_isSign_60 : decode cX8_isSign 60 = .ok (.istore 4, 2) := by decide +kernel
theorem dX8_isSign_62 : decode cX8_isSign 62 = .ok (.iload 4, 2) := by decide +kernel
theorem dX8_isSign_64 : decode cX8_isSign 64 = .ok (.aload_n 0, 1) := by decide +kernel
theorem dX8_isSign_65 : decode cX8_isSign 65 = .ok (.getfield 124, 3) := by decide +kernel
theorem dX8_isSign_68 : decode cX8_isSign 68 = .ok (.if_icmp .ge 60, 3) := by decide +kernel
theorem dX8_isSign_71 : decode cX8_isSign 71 = .ok (.iload_n 2, 1) := by decide +kernel
theorem dX8_isSign_72 : decode cX8_isSign 72 = .ok (.aload_n 0, 1) := by decide +kernel
theorem dX8_isSign_73 : decode cX8_isSign 73 = .ok (.getfield 34, 3) := by decide +kernel
theorem dX8_isSign_76 : decode cX8_isSign 76 = .ok (.aload_n 0, 1) := by decide +kernel
theorem dX8_isSign_77 : decode cX8_isSign 77 = .ok (.getfield 28, 3) := by decide +kernel
theorem dX8_isSign_80 : decode cX8_isSign 80 = .ok (.iload 4, 2) := by decide +kernel
theorem dX8_isSign_82 : decode cX8_isSign 82 = .ok (.iaload, 1) := by decide +kernel
theorem dX8_isSign_83 : decode cX8_isSign 83 = .ok (.aload_n 0, 1) := by decide +kernel
theorem dX8_isSign_84 : decode cX8_isSign 84 = .ok (.getfield 21, 3) := by decide +kernel
theorem dX8_isSign_87 : decode cX8_isSign 87 = .ok (.iload_n 3, 1) := by decide +kernel
theorem dX8_isSign_88 : decode cX8_isSign 88 = .ok (.iaload, 1) := by decide +kernel
theorem dX8_isSign_89 : decode cX8_isSign 89 = .ok (.invokestatic 81, 3) := by decide +kernel
theorem dX8_isSign_92 : decode cX8_isSign 92 = .ok (.iaload, 1) := by decide +kernel
theorem dX8_isSign_93 : decode cX8_isSign 93 = .ok (.aload_n 0, 1) := by decide +kernel
theorem dX8_isSign_94 : decode cX8_isSign 94 = .ok (.iload_n 1, 1) := by decide +kernel
theorem dX8_isSign_95 : decode cX8_isSign 95 = .ok (.iload 4, 2) := by decide +kernel
theorem dX8_isSign_97 : decode cX8_isSign 97 = .ok (.invokevirtual 131, 3) := by decide +kernel
theorem dX8_isSign_100 : decode cX8_isSign 100 = .ok (.aload_n 0, 1) := by decide +kernel
theorem dX8_isSign_101 : decode cX8_isSign 101 = .ok (.getfield 34, 3) := by decide +kernel
theorem dX8_isSign_104 : decode cX8_isSign 104 = .ok (.aload_n 0, 1) := by decide +kernel
theorem dX8_isSign_105 : decode cX8_isSign 105 = .ok (.getfield 21, 3) := by decide +kernel
theorem dX8_isSign_108 : decode cX8_isSign 108 = .ok (.iload_n 3, 1) := by decide +kernel
theorem dX8_isSign_109 : decode cX8_isSign 109 = .ok (.iaload, 1) := by decide +kernel
theorem dX8_isSign_110 : decode cX8_isSign 110 = .ok (.iaload, 1) := by decide +kernel
theorem dX8_isSign_111 : decode cX8_isSign 111 = .ok (.imul, 1) := by decide +kernel
theorem dX8_isSign_112 : decode cX8_isSign 112 = .ok (.if_icmp .ne 7, 3) := by decide +kernel
theorem dX8_isSign_115 : decode cX8_isSign 115 = .ok (.iconst 1, 1) := by decide +kernel
theorem dX8_isSign_116 : decode cX8_isSign 116 = .ok (.goto 4, 3) := by decide +kernel
theorem dX8_isSign_119 : decode cX8_isSign 119 = .ok (.iconst 0, 1) := by decide +kernel
theorem dX8_isSign_120 : decode cX8_isSign 120 = .ok (.iand, 1) := by decide +kernel
theorem dX8_isSign_121 : decode cX8_isSign 121 = .ok (.istore_n 2, 1) := by decide +kernel
theorem dX8_isSign_122 : decode cX8_isSign 122 = .ok (.iinc 4 1, 3) := by decide +kernel
theorem dX8_isSign_125 : decode cX8_isSign 125 = .ok (.goto (-63), 3) := by decide +kernel
theorem dX8_isSign_128 : decode cX8_isSign 128 = .ok (.iinc 3 1, 3) := by decide +kernel
theorem dX8_isSign_131 : decode cX8_isSign 131 = .ok (.goto (-80), 3) := by decide +kernel
theorem dX8_isSign_134 : decode cX8_isSign 134 = .ok (.iload_n 2, 1) := by decide +kernel
theorem dX8_isSign_135 : decode cX8_isSign 135 = .ok (.ireturn, 1) := by decide +kernel
theorem dX8_findsSigns_0 : decode cX8_findsSigns 0 = .ok (.aload_n 0, 1) := by decide +kernel
theorem dX8_findsSigns_1 : decode cX8_findsSigns 1 = .ok (.invokevirtual 138, 3) := by decide +kernel
theorem dX8_findsSigns_4 : decode cX8_findsSigns 4 = .ok (.aload_n 0, 1) := by decide +kernel
theorem dX8_findsSigns_5 : decode cX8_findsSigns 5 = .ok (.invokevirtual 141, 3) := by decide +kernel
theorem dX8_findsSigns_8 : decode cX8_findsSigns 8 = .ok (.aload_n 0, 1) := by decide +kernel
theorem dX8_findsSigns_9 : decode cX8_findsSigns 9 = .ok (.iconst 0, 1) := by decide +kernel
theorem dX8_findsSigns_10 : decode cX8_findsSigns 10 = .ok (.putfield 144, 3) := by decide +kernel
theorem dX8_findsSigns_13 : decode cX8_findsSigns 13 = .ok (.iconst 0, 1) := by decide +kernel
theorem dX8_findsSigns_14 : decode cX8_findsSigns 14 = .ok (.istore_n 1, 1) := by decide +kernel
theorem dX8_findsSigns_15 : decode cX8_findsSigns 15 = .ok (.iload_n 1, 1) := by decide +kernel
theorem dX8_findsSigns_16 : decode cX8_findsSigns 16 = .ok (.iconst 1, 1) := by decide +kernel
theorem dX8_findsSigns_17 : decode cX8_findsSigns 17 = .ok (.aload_n 0, 1) := by decide +kernel
theorem dX8_findsSigns_18 : decode cX8_findsSigns 18 = .ok (.getfield 124, 3) := by decide +kernel
theorem dX8_findsSigns_21 : decode cX8_findsSigns 21 = .ok (.ishl, 1) := by decide +kernel
theorem dX8_findsSigns_22 : decode cX8_findsSigns 22 = .ok (.if_icmp .ge 61, 3) := by decide +kernel
theorem dX8_findsSigns_25 : decode cX8_findsSigns 25 = .ok (.aload_n 0, 1) := by decide +kernel
theorem dX8_findsSigns_26 : decode cX8_findsSigns 26 = .ok (.iload_n 1, 1) := by decide +kernel
theorem dX8_findsSigns_27 : decode cX8_findsSigns 27 = .ok (.invokevirtual 147, 3) := by decide +kernel
theorem dX8_findsSigns_30 : decode cX8_findsSigns 30 = .ok (.ifCond .eq 47, 3) := by decide +kernel
theorem dX8_findsSigns_33 : decode cX8_findsSigns 33 = .ok (.iconst 0, 1) := by decide +kernel
theorem dX8_findsSigns_34 : decode cX8_findsSigns 34 = .ok (.istore_n 2, 1) := by decide +kernel
theorem dX8_findsSigns_35 : decode cX8_findsSigns 35 = .ok (.iload_n 2, 1) := by decide +kernel
theorem dX8_findsSigns_36 : decode cX8_findsSigns 36 = .ok (.bipush 48, 2) := by decide +kernel
theorem dX8_findsSigns_38 : decode cX8_findsSigns 38 = .ok (.if_icmp .ge 29, 3) := by decide +kernel
theorem dX8_findsSigns_41 : decode cX8_findsSigns 41 = .ok (.aload_n 0, 1) := by decide +kernel
theorem dX8_findsSigns_42 : decode cX8_findsSigns 42 = .ok (.getfield 37, 3) := by decide +kernel
theorem dX8_findsSigns_45 : decode cX8_findsSigns 45 = .ok (.bipush 48, 2) := by decide +kernel
theorem dX8_findsSigns_47 : decode cX8_findsSigns 47 = .ok (.aload_n 0, 1) := by decide +kernel
theorem dX8_findsSigns_48 : decode cX8_findsSigns 48 = .ok (.getfield 144, 3) := by decide +kernel
theorem dX8_findsSigns_51 : decode cX8_findsSigns 51 = .ok (.imul, 1) := by decide +kernel
theorem dX8_findsSigns_52 : decode cX8_findsSigns 52 = .ok (.iload_n 2, 1) := by decide +kernel
theorem dX8_findsSigns_53 : decode cX8_findsSigns 53 = .ok (.iadd, 1) := by decide +kernel
theorem dX8_findsSigns_54 : decode cX8_findsSigns 54 = .ok (.aload_n 0, 1) := by decide +kernel
theorem dX8_findsSigns_55 : decode cX8_findsSigns 55 = .ok (.getfield 34, 3) := by decide +kernel
theorem dX8_findsSigns_58 : decode cX8_findsSigns 58 = .ok (.iload_n 2, 1) := by decide +kernel
theorem dX8_findsSigns_59 : decode cX8_findsSigns 59 = .ok (.iaload, 1) := by decide +kernel
theorem dX8_findsSigns_60 : decode cX8_findsSigns 60 = .ok (.iastore, 1) := by decide +kernel
theorem dX8_findsSigns_61 : decode cX8_findsSigns 61 = .ok (.iinc 2 1, 3) := by decide +kernel
theorem dX8_findsSigns_64 : decode cX8_findsSigns 64 = .ok (.goto (-29), 3) := by decide +kernel
theorem dX8_findsSigns_67 : decode cX8_findsSigns 67 = .ok (.aload_n 0, 1) := by decide +kernel
theorem dX8_findsSigns_68 : decode cX8_findsSigns 68 = .ok (.dup, 1) := by decide +kernel
theorem dX8_findsSigns_69 : decode cX8_findsSigns 69 = .ok (.getfield 144, 3) := by decide +kernel
theorem dX8_findsSigns_72 : decode cX8_findsSigns 72 = .ok (.iconst 1, 1) := by decide +kernel
theorem dX8_findsSigns_73 : decode cX8_findsSigns 73 = .ok (.iadd, 1) := by decide +kernel
theorem dX8_findsSigns_74 : decode cX8_findsSigns 74 = .ok (.putfield 144, 3) := by decide +kernel
theorem dX8_findsSigns_77 : decode cX8_findsSigns 77 = .ok (.iinc 1 1, 3) := by decide +kernel
theorem dX8_findsSigns_80 : decode cX8_findsSigns 80 = .ok (.goto (-65), 3) := by decide +kernel
theorem dX8_findsSigns_83 : decode cX8_findsSigns 83 = .ok (.return_, 1) := by decide +kernel
theorem dX8_motionOf_0 : decode cX8_motionOf 0 = .ok (.iconst 0, 1) := by decide +kernel
theorem dX8_motionOf_1 : decode cX8_motionOf 1 = .ok (.istore_n 3, 1) := by decide +kernel
theorem dX8_motionOf_2 : decode cX8_motionOf 2 = .ok (.iconst 0, 1) := by decide +kernel
theorem dX8_motionOf_3 : decode cX8_motionOf 3 = .ok (.istore 4, 2) := by decide +kernel
theorem dX8_motionOf_5 : decode cX8_motionOf 5 = .ok (.iload 4, 2) := by decide +kernel
theorem dX8_motionOf_7 : decode cX8_motionOf 7 = .ok (.aload_n 0, 1) := by decide +kernel
theorem dX8_motionOf_8 : decode cX8_motionOf 8 = .ok (.getfield 11, 3) := by decide +kernel
theorem dX8_motionOf_11 : decode cX8_motionOf 11 = .ok (.iconst 0, 1) := by decide +kernel
theorem dX8_motionOf_12 : decode cX8_motionOf 12 = .ok (.iaload, 1) := by decide +kernel
theorem dX8_motionOf_13 : decode cX8_motionOf 13 = .ok (.if_icmp .ge 29, 3) := by decide +kernel
theorem dX8_motionOf_16 : decode cX8_motionOf 16 = .ok (.iload_n 3, 1) := by decide +kernel
theorem dX8_motionOf_17 : decode cX8_motionOf 17 = .ok (.aload_n 0, 1) := by decide +kernel
theorem dX8_motionOf_18 : decode cX8_motionOf 18 = .ok (.iload_n 2, 1) := by decide +kernel
theorem dX8_motionOf_19 : decode cX8_motionOf 19 = .ok (.iload 4, 2) := by decide +kernel
theorem dX8_motionOf_21 : decode cX8_motionOf 21 = .ok (.invokevirtual 90, 3) := by decide +kernel
theorem dX8_motionOf_24 : decode cX8_motionOf 24 = .ok (.iload 4, 2) := by decide +kernel
theorem dX8_motionOf_26 : decode cX8_motionOf 26 = .ok (.if_icmp .ne 7, 3) := by decide +kernel
theorem dX8_motionOf_29 : decode cX8_motionOf 29 = .ok (.iconst 1, 1) := by decide +kernel
theorem dX8_motionOf_30 : decode cX8_motionOf 30 = .ok (.goto 4, 3) := by decide +kernel
theorem dX8_motionOf_33 : decode cX8_motionOf 33 = .ok (.iconst 0, 1) := by decide +kernel
theorem dX8_motionOf_34 : decode cX8_motionOf 34 = .ok (.iadd, 1) := by decide +kernel
theorem dX8_motionOf_35 : decode cX8_motionOf 35 = .ok (.istore_n 3, 1) := by decide +kernel
theorem dX8_motionOf_36 : decode cX8_motionOf 36 = .ok (.iinc 4 1, 3) := by decide +kernel
theorem dX8_motionOf_39 : decode cX8_motionOf 39 = .ok (.goto (-34), 3) := by decide +kernel
theorem dX8_motionOf_42 : decode cX8_motionOf 42 = .ok (.iload_n 2, 1) := by decide +kernel
theorem dX8_motionOf_43 : decode cX8_motionOf 43 = .ok (.invokestatic 150, 3) := by decide +kernel
theorem dX8_motionOf_46 : decode cX8_motionOf 46 = .ok (.istore 4, 2) := by decide +kernel
theorem dX8_motionOf_48 : decode cX8_motionOf 48 = .ok (.iload_n 2, 1) := by decide +kernel
theorem dX8_motionOf_49 : decode cX8_motionOf 49 = .ok (.invokestatic 121, 3) := by decide +kernel
theorem dX8_motionOf_52 : decode cX8_motionOf 52 = .ok (.iload 4, 2) := by decide +kernel
theorem dX8_motionOf_54 : decode cX8_motionOf 54 = .ok (.imul, 1) := by decide +kernel
theorem dX8_motionOf_55 : decode cX8_motionOf 55 = .ok (.istore 5, 2) := by decide +kernel
theorem dX8_motionOf_57 : decode cX8_motionOf 57 = .ok (.iload_n 1, 1) := by decide +kernel
theorem dX8_motionOf_58 : decode cX8_motionOf 58 = .ok (.tableswitch 58 0 4 #[34, 36, 41, 44, 47], 34) := by decide +kernel
theorem dX8_motionOf_92 : decode cX8_motionOf 92 = .ok (.iload_n 3, 1) := by decide +kernel
theorem dX8_motionOf_93 : decode cX8_motionOf 93 = .ok (.ireturn, 1) := by decide +kernel
theorem dX8_motionOf_94 : decode cX8_motionOf 94 = .ok (.iload_n 3, 1) := by decide +kernel
theorem dX8_motionOf_95 : decode cX8_motionOf 95 = .ok (.iload 4, 2) := by decide +kernel
theorem dX8_motionOf_97 : decode cX8_motionOf 97 = .ok (.imul, 1) := by decide +kernel
theorem dX8_motionOf_98 : decode cX8_motionOf 98 = .ok (.ireturn, 1) := by decide +kernel
theorem dX8_motionOf_99 : decode cX8_motionOf 99 = .ok (.iload 4, 2) := by decide +kernel
theorem dX8_motionOf_101 : decode cX8_motionOf 101 = .ok (.ireturn, 1) := by decide +kernel
theorem dX8_motionOf_102 : decode cX8_motionOf 102 = .ok (.iload 5, 2) := by decide +kernel
theorem dX8_motionOf_104 : decode cX8_motionOf 104 = .ok (.ireturn, 1) := by decide +kernel
theorem dX8_motionOf_105 : decode cX8_motionOf 105 = .ok (.iload_n 3, 1) := by decide +kernel
theorem dX8_motionOf_106 : decode cX8_motionOf 106 = .ok (.iload 4, 2) := by decide +kernel
theorem dX8_motionOf_108 : decode cX8_motionOf 108 = .ok (.imul, 1) := by decide +kernel
theorem dX8_motionOf_109 : decode cX8_motionOf 109 = .ok (.iload 4, 2) := by decide +kernel
theorem dX8_motionOf_111 : decode cX8_motionOf 111 = .ok (.isub, 1) := by decide +kernel
theorem dX8_motionOf_112 : decode cX8_motionOf 112 = .ok (.iload 5, 2) := by decide +kernel
theorem dX8_motionOf_114 : decode cX8_motionOf 114 = .ok (.isub, 1) := by decide +kernel
theorem dX8_motionOf_115 : decode cX8_motionOf 115 = .ok (.ireturn, 1) := by decide +kernel
theorem dX8_motionOf_116 : decode cX8_motionOf 116 = .ok (.iload 4, 2) := by decide +kernel
theorem dX8_motionOf_118 : decode cX8_motionOf 118 = .ok (.iload 4, 2) := by decide +kernel
theorem dX8_motionOf_120 : decode cX8_motionOf 120 = .ok (.imul, 1) := by decide +kernel
theorem dX8_motionOf_121 : decode cX8_motionOf 121 = .ok (.iload_n 2, 1) := by decide +kernel
theorem dX8_motionOf_122 : decode cX8_motionOf 122 = .ok (.iload_n 2, 1) := by decide +kernel
theorem dX8_motionOf_123 : decode cX8_motionOf 123 = .ok (.invokestatic 81, 3) := by decide +kernel
theorem dX8_motionOf_126 : decode cX8_motionOf 126 = .ok (.invokestatic 150, 3) := by decide +kernel
theorem dX8_motionOf_129 : decode cX8_motionOf 129 = .ok (.iadd, 1) := by decide +kernel
theorem dX8_motionOf_130 : decode cX8_motionOf 130 = .ok (.iconst 2, 1) := by decide +kernel
theorem dX8_motionOf_131 : decode cX8_motionOf 131 = .ok (.idiv, 1) := by decide +kernel
theorem dX8_motionOf_132 : decode cX8_motionOf 132 = .ok (.ireturn, 1) := by decide +kernel
theorem dX8_hasOf_0 : decode cX8_hasOf 0 = .ok (.iconst 0, 1) := by decide +kernel
theorem dX8_hasOf_1 : decode cX8_hasOf 1 = .ok (.istore_n 3, 1) := by decide +kernel
theorem dX8_hasOf_2 : decode cX8_hasOf 2 = .ok (.iconst 0, 1) := by decide +kernel
theorem dX8_hasOf_3 : decode cX8_hasOf 3 = .ok (.istore 4, 2) := by decide +kernel
theorem dX8_hasOf_5 : decode cX8_hasOf 5 = .ok (.iload 4, 2) := by decide +kernel
theorem dX8_hasOf_7 : decode cX8_hasOf 7 = .ok (.aload_n 0, 1) := by decide +kernel
theorem dX8_hasOf_8 : decode cX8_hasOf 8 = .ok (.getfield 97, 3) := by decide +kernel
theorem dX8_hasOf_11 : decode cX8_hasOf 11 = .ok (.if_icmp .ge 42, 3) := by decide +kernel
theorem dX8_hasOf_14 : decode cX8_hasOf 14 = .ok (.iload_n 3, 1) := by decide +kernel
theorem dX8_hasOf_15 : decode cX8_hasOf 15 = .ok (.aload_n 0, 1) := by decide +kernel
theorem dX8_hasOf_16 : decode cX8_hasOf 16 = .ok (.iload_n 1, 1) := by decide +kernel
theorem dX8_hasOf_17 : decode cX8_hasOf 17 = .ok (.aload_n 0, 1) := by decide +kernel
theorem dX8_hasOf_18 : decode cX8_hasOf 18 = .ok (.getfield 21, 3) := by decide +kernel
theorem dX8_hasOf_21 : decode cX8_hasOf 21 = .ok (.iload 4, 2) := by decide +kernel
theorem dX8_hasOf_23 : decode cX8_hasOf 23 = .ok (.iaload, 1) := by decide +kernel
theorem dX8_hasOf_24 : decode cX8_hasOf 24 = .ok (.invokevirtual 153, 3) := by decide +kernel
theorem dX8_hasOf_27 : decode cX8_hasOf 27 = .ok (.aload_n 0, 1) := by decide +kernel
theorem dX8_hasOf_28 : decode cX8_hasOf 28 = .ok (.getfield 37, 3) := by decide +kernel
theorem dX8_hasOf_31 : decode cX8_hasOf 31 = .ok (.bipush 48, 2) := by decide +kernel
theorem dX8_hasOf_33 : decode cX8_hasOf 33 = .ok (.iload_n 2, 1) := by decide +kernel
theorem dX8_hasOf_34 : decode cX8_hasOf 34 = .ok (.imul, 1) := by decide +kernel
theorem dX8_hasOf_35 : decode cX8_hasOf 35 = .ok (.aload_n 0, 1) := by decide +kernel
theorem dX8_hasOf_36 : decode cX8_hasOf 36 = .ok (.getfield 21, 3) := by decide +kernel
theorem dX8_hasOf_39 : decode cX8_hasOf 39 = .ok (.iload 4, 2) := by decide +kernel
theorem dX8_hasOf_41 : decode cX8_hasOf 41 = .ok (.iaload, 1) := by decide +kernel
theorem dX8_hasOf_42 : decode cX8_hasOf 42 = .ok (.iadd, 1) := by decide +kernel
theorem dX8_hasOf_43 : decode cX8_hasOf 43 = .ok (.iaload, 1) := by decide +kernel
theorem dX8_hasOf_44 : decode cX8_hasOf 44 = .ok (.imul, 1) := by decide +kernel
theorem dX8_hasOf_45 : decode cX8_hasOf 45 = .ok (.iadd, 1) := by decide +kernel
theorem dX8_hasOf_46 : decode cX8_hasOf 46 = .ok (.istore_n 3, 1) := by decide +kernel
theorem dX8_hasOf_47 : decode cX8_hasOf 47 = .ok (.iinc 4 1, 3) := by decide +kernel
theorem dX8_hasOf_50 : decode cX8_hasOf 50 = .ok (.goto (-45), 3) := by decide +kernel
theorem dX8_hasOf_53 : decode cX8_hasOf 53 = .ok (.iload_n 3, 1) := by decide +kernel
theorem dX8_hasOf_54 : decode cX8_hasOf 54 = .ok (.aload_n 0, 1) := by decide +kernel
theorem dX8_hasOf_55 : decode cX8_hasOf 55 = .ok (.getfield 97, 3) := by decide +kernel
theorem dX8_hasOf_58 : decode cX8_hasOf 58 = .ok (.idiv, 1) := by decide +kernel
theorem dX8_hasOf_59 : decode cX8_hasOf 59 = .ok (.ireturn, 1) := by decide +kernel
theorem dX8_comes_0 : decode cX8_comes 0 = .ok (.iload_n 1, 1) := by decide +kernel
theorem dX8_comes_1 : decode cX8_comes 1 = .ok (.i2l, 1) := by decide +kernel
theorem dX8_comes_2 : decode cX8_comes 2 = .ok (.ldc2_w 156, 3) := by decide +kernel
theorem dX8_comes_5 : decode cX8_comes 5 = .ok (.ldc2_w 158, 3) := by decide +kernel
theorem dX8_comes_8 : decode cX8_comes 8 = .ok (.invokestatic 56, 3) := by decide +kernel
theorem dX8_comes_11 : decode cX8_comes 11 = .ok (.ifCond .eq 44, 3) := by decide +kernel
theorem dX8_comes_14 : decode cX8_comes 14 = .ok (.iload_n 2, 1) := by decide +kernel
theorem dX8_comes_15 : decode cX8_comes 15 = .ok (.i2l, 1) := by decide +kernel
theorem dX8_comes_16 : decode cX8_comes 16 = .ok (.ldc2_w 156, 3) := by decide +kernel
theorem dX8_comes_19 : decode cX8_comes 19 = .ok (.ldc2_w 158, 3) := by decide +kernel
theorem dX8_comes_22 : decode cX8_comes 22 = .ok (.invokestatic 56, 3) := by decide +kernel
theorem dX8_comes_25 : decode cX8_comes 25 = .ok (.ifCond .eq 30, 3) := by decide +kernel
theorem dX8_comes_28 : decode cX8_comes 28 = .ok (.iload_n 3, 1) := by decide +kernel
theorem dX8_comes_29 : decode cX8_comes 29 = .ok (.i2l, 1) := by decide +kernel
theorem dX8_comes_30 : decode cX8_comes 30 = .ok (.ldc2_w 156, 3) := by decide +kernel
theorem dX8_comes_33 : decode cX8_comes 33 = .ok (.ldc2_w 158, 3) := by decide +kernel
theorem dX8_comes_36 : decode cX8_comes 36 = .ok (.invokestatic 56, 3) := by decide +kernel
theorem dX8_comes_39 : decode cX8_comes 39 = .ok (.ifCond .eq 16, 3) := by decide +kernel
theorem dX8_comes_42 : decode cX8_comes 42 = .ok (.iload 4, 2) := by decide +kernel
theorem dX8_comes_44 : decode cX8_comes 44 = .ok (.i2l, 1) := by decide +kernel
theorem dX8_comes_45 : decode cX8_comes 45 = .ok (.lconst 0, 1) := by decide +kernel
theorem dX8_comes_46 : decode cX8_comes 46 = .ok (.ldc2_w 160, 3) := by decide +kernel
theorem dX8_comes_49 : decode cX8_comes 49 = .ok (.invokestatic 56, 3) := by decide +kernel
theorem dX8_comes_52 : decode cX8_comes 52 = .ok (.ifCond .ne 6, 3) := by decide +kernel
theorem dX8_comes_55 : decode cX8_comes 55 = .ok (.bipush (-2), 2) := by decide +kernel
theorem dX8_comes_57 : decode cX8_comes 57 = .ok (.ireturn, 1) := by decide +kernel
theorem dX8_comes_58 : decode cX8_comes 58 = .ok (.aload_n 0, 1) := by decide +kernel
theorem dX8_comes_59 : decode cX8_comes 59 = .ok (.iload_n 1, 1) := by decide +kernel
theorem dX8_comes_60 : decode cX8_comes 60 = .ok (.iload_n 2, 1) := by decide +kernel
theorem dX8_comes_61 : decode cX8_comes 61 = .ok (.iload_n 3, 1) := by decide +kernel
theorem dX8_comes_62 : decode cX8_comes 62 = .ok (.invokevirtual 87, 3) := by decide +kernel
theorem dX8_comes_65 : decode cX8_comes 65 = .ok (.bipush (-5), 2) := by decide +kernel
theorem dX8_comes_67 : decode cX8_comes 67 = .ok (.if_icmp .eq 6, 3) := by decide +kernel
theorem dX8_comes_70 : decode cX8_comes 70 = .ok (.bipush (-3), 2) := by decide +kernel
theorem dX8_comes_72 : decode cX8_comes 72 = .ok (.ireturn, 1) := by decide +kernel
theorem dX8_comes_73 : decode cX8_comes 73 = .ok (.aload_n 0, 1) := by decide +kernel
theorem dX8_comes_74 : decode cX8_comes 74 = .ok (.getfield 11, 3) := by decide +kernel
theorem dX8_comes_77 : decode cX8_comes 77 = .ok (.iconst 0, 1) := by decide +kernel
theorem dX8_comes_78 : decode cX8_comes 78 = .ok (.iaload, 1) := by decide +kernel
theorem dX8_comes_79 : decode cX8_comes 79 = .ok (.bipush 8, 2) := by decide +kernel
theorem dX8_comes_81 : decode cX8_comes 81 = .ok (.if_icmp .ne 6, 3) := by decide +kernel
theorem dX8_comes_84 : decode cX8_comes 84 = .ok (.bipush (-4), 2) := by decide +kernel
theorem dX8_comes_86 : decode cX8_comes 86 = .ok (.ireturn, 1) := by decide +kernel
theorem dX8_comes_87 : decode cX8_comes 87 = .ok (.iconst 1, 1) := by decide +kernel
theorem dX8_comes_88 : decode cX8_comes 88 = .ok (.iconst 4, 1) := by decide +kernel
theorem dX8_comes_89 : decode cX8_comes 89 = .ok (.aload_n 0, 1) := by decide +kernel
theorem dX8_comes_90 : decode cX8_comes 90 = .ok (.getfield 11, 3) := by decide +kernel
theorem dX8_comes_93 : decode cX8_comes 93 = .ok (.iconst 0, 1) := by decide +kernel
theorem dX8_comes_94 : decode cX8_comes 94 = .ok (.iaload, 1) := by decide +kernel
theorem dX8_comes_95 : decode cX8_comes 95 = .ok (.imul, 1) := by decide +kernel
theorem dX8_comes_96 : decode cX8_comes 96 = .ok (.iadd, 1) := by decide +kernel
theorem dX8_comes_97 : decode cX8_comes 97 = .ok (.istore 5, 2) := by decide +kernel
theorem dX8_comes_99 : decode cX8_comes 99 = .ok (.aload_n 0, 1) := by decide +kernel
theorem dX8_comes_100 : decode cX8_comes 100 = .ok (.getfield 11, 3) := by decide +kernel
theorem dX8_comes_103 : decode cX8_comes 103 = .ok (.iload 5, 2) := by decide +kernel
theorem dX8_comes_105 : decode cX8_comes 105 = .ok (.iload_n 1, 1) := by decide +kernel
theorem dX8_comes_106 : decode cX8_comes 106 = .ok (.iastore, 1) := by decide +kernel
theorem dX8_comes_107 : decode cX8_comes 107 = .ok (.aload_n 0, 1) := by decide +kernel
theorem dX8_comes_108 : decode cX8_comes 108 = .ok (.getfield 11, 3) := by decide +kernel
theorem dX8_comes_111 : decode cX8_comes 111 = .ok (.iload 5, 2) := by decide +kernel
theorem dX8_comes_113 : decode cX8_comes 113 = .ok (.iconst 1, 1) := by decide +kernel
theorem dX8_comes_114 : decode cX8_comes 114 = .ok (.iadd, 1) := by decide +kernel
theorem dX8_comes_115 : decode cX8_comes 115 = .ok (.iload_n 2, 1) := by decide +kernel
theorem dX8_comes_116 : decode cX8_comes 116 = .ok (.iastore, 1) := by decide +kernel
theorem dX8_comes_117 : decode cX8_comes 117 = .ok (.aload_n 0, 1) := by decide +kernel
theorem dX8_comes_118 : decode cX8_comes 118 = .ok (.getfield 11, 3) := by decide +kernel
theorem dX8_comes_121 : decode cX8_comes 121 = .ok (.iload 5, 2) := by decide +kernel
theorem dX8_comes_123 : decode cX8_comes 123 = .ok (.iconst 2, 1) := by decide +kernel
theorem dX8_comes_124 : decode cX8_comes 124 = .ok (.iadd, 1) := by decide +kernel
theorem dX8_comes_125 : decode cX8_comes 125 = .ok (.iload_n 3, 1) := by decide +kernel
theorem dX8_comes_126 : decode cX8_comes 126 = .ok (.iastore, 1) := by decide +kernel
theorem dX8_comes_127 : decode cX8_comes 127 = .ok (.aload_n 0, 1) := by decide +kernel
theorem dX8_comes_128 : decode cX8_comes 128 = .ok (.getfield 11, 3) := by decide +kernel
theorem dX8_comes_131 : decode cX8_comes 131 = .ok (.iload 5, 2) := by decide +kernel
theorem dX8_comes_133 : decode cX8_comes 133 = .ok (.iconst 3, 1) := by decide +kernel
theorem dX8_comes_134 : decode cX8_comes 134 = .ok (.iadd, 1) := by decide +kernel
theorem dX8_comes_135 : decode cX8_comes 135 = .ok (.iload 4, 2) := by decide +kernel
theorem dX8_comes_137 : decode cX8_comes 137 = .ok (.iastore, 1) := by decide +kernel
theorem dX8_comes_138 : decode cX8_comes 138 = .ok (.aload_n 0, 1) := by decide +kernel
theorem dX8_comes_139 : decode cX8_comes 139 = .ok (.getfield 11, 3) := by decide +kernel
theorem dX8_comes_142 : decode cX8_comes 142 = .ok (.iconst 0, 1) := by decide +kernel
theorem dX8_comes_143 : decode cX8_comes 143 = .ok (.dup2, 1) := by decide +kernel
theorem dX8_comes_144 : decode cX8_comes 144 = .ok (.iaload, 1) := by decide +kernel
theorem dX8_comes_145 : decode cX8_comes 145 = .ok (.iconst 1, 1) := by decide +kernel
theorem dX8_comes_146 : decode cX8_comes 146 = .ok (.iadd, 1) := by decide +kernel
theorem dX8_comes_147 : decode cX8_comes 147 = .ok (.iastore, 1) := by decide +kernel
theorem dX8_comes_148 : decode cX8_comes 148 = .ok (.aload_n 0, 1) := by decide +kernel
theorem dX8_comes_149 : decode cX8_comes 149 = .ok (.getfield 11, 3) := by decide +kernel
theorem dX8_comes_152 : decode cX8_comes 152 = .ok (.iconst 0, 1) := by decide +kernel
theorem dX8_comes_153 : decode cX8_comes 153 = .ok (.iaload, 1) := by decide +kernel
theorem dX8_comes_154 : decode cX8_comes 154 = .ok (.iconst 1, 1) := by decide +kernel
theorem dX8_comes_155 : decode cX8_comes 155 = .ok (.isub, 1) := by decide +kernel
theorem dX8_comes_156 : decode cX8_comes 156 = .ok (.ireturn, 1) := by decide +kernel
theorem dX8_point_0 : decode cX8_point 0 = .ok (.aload_n 0, 1) := by decide +kernel
theorem dX8_point_1 : decode cX8_point 1 = .ok (.iload_n 1, 1) := by decide +kernel
theorem dX8_point_2 : decode cX8_point 2 = .ok (.iload_n 2, 1) := by decide +kernel
theorem dX8_point_3 : decode cX8_point 3 = .ok (.iload_n 3, 1) := by decide +kernel
theorem dX8_point_4 : decode cX8_point 4 = .ok (.iload 4, 2) := by decide +kernel
theorem dX8_point_6 : decode cX8_point 6 = .ok (.invokevirtual 162, 3) := by decide +kernel
theorem dX8_point_9 : decode cX8_point 9 = .ok (.ireturn, 1) := by decide +kernel
theorem dX8_mark_0 : decode cX8_mark 0 = .ok (.aload_n 0, 1) := by decide +kernel
theorem dX8_mark_1 : decode cX8_mark 1 = .ok (.iload_n 1, 1) := by decide +kernel
theorem dX8_mark_2 : decode cX8_mark 2 = .ok (.invokevirtual 166, 3) := by decide +kernel
theorem dX8_mark_5 : decode cX8_mark 5 = .ok (.ifCond .ne 5, 3) := by decide +kernel
theorem dX8_mark_8 : decode cX8_mark 8 = .ok (.iconst (-1), 1) := by decide +kernel
theorem dX8_mark_9 : decode cX8_mark 9 = .ok (.ireturn, 1) := by decide +kernel
theorem dX8_mark_10 : decode cX8_mark 10 = .ok (.iload_n 2, 1) := by decide +kernel
theorem dX8_mark_11 : decode cX8_mark 11 = .ok (.i2l, 1) := by decide +kernel
theorem dX8_mark_12 : decode cX8_mark 12 = .ok (.lconst 0, 1) := by decide +kernel
theorem dX8_mark_13 : decode cX8_mark 13 = .ok (.ldc2_w 160, 3) := by decide +kernel
theorem dX8_mark_16 : decode cX8_mark 16 = .ok (.invokestatic 56, 3) := by decide +kernel
theorem dX8_mark_19 : decode cX8_mark 19 = .ok (.ifCond .ne 6, 3) := by decide +kernel
theorem dX8_mark_22 : decode cX8_mark 22 = .ok (.bipush (-2), 2) := by decide +kernel
theorem dX8_mark_24 : decode cX8_mark 24 = .ok (.ireturn, 1) := by decide +kernel
theorem dX8_mark_25 : decode cX8_mark 25 = .ok (.aload_n 0, 1) := by decide +kernel
theorem dX8_mark_26 : decode cX8_mark 26 = .ok (.iload_n 1, 1) := by decide +kernel
theorem dX8_mark_27 : decode cX8_mark 27 = .ok (.invokevirtual 93, 3) := by decide +kernel
theorem dX8_mark_30 : decode cX8_mark 30 = .ok (.istore_n 3, 1) := by decide +kernel
theorem dX8_mark_31 : decode cX8_mark 31 = .ok (.aload_n 0, 1) := by decide +kernel
theorem dX8_mark_32 : decode cX8_mark 32 = .ok (.getfield 11, 3) := by decide +kernel
theorem dX8_mark_35 : decode cX8_mark 35 = .ok (.iconst 1, 1) := by decide +kernel
theorem dX8_mark_36 : decode cX8_mark 36 = .ok (.iconst 4, 1) := by decide +kernel
theorem dX8_mark_37 : decode cX8_mark 37 = .ok (.iload_n 1, 1) := by decide +kernel
theorem dX8_mark_38 : decode cX8_mark 38 = .ok (.imul, 1) := by decide +kernel
theorem dX8_mark_39 : decode cX8_mark 39 = .ok (.iadd, 1) := by decide +kernel
theorem dX8_mark_40 : decode cX8_mark 40 = .ok (.iconst 3, 1) := by decide +kernel
theorem dX8_mark_41 : decode cX8_mark 41 = .ok (.iadd, 1) := by decide +kernel
theorem dX8_mark_42 : decode cX8_mark 42 = .ok (.iload_n 2, 1) := by decide +kernel
theorem dX8_mark_43 : decode cX8_mark 43 = .ok (.iastore, 1) := by decide +kernel
theorem dX8_mark_44 : decode cX8_mark 44 = .ok (.iload_n 3, 1) := by decide +kernel
theorem dX8_mark_45 : decode cX8_mark 45 = .ok (.ireturn, 1) := by decide +kernel
theorem dX8_drop_0 : decode cX8_drop 0 = .ok (.aload_n 0, 1) := by decide +kernel
theorem dX8_drop_1 : decode cX8_drop 1 = .ok (.iload_n 1, 1) := by decide +kernel
theorem dX8_drop_2 : decode cX8_drop 2 = .ok (.invokevirtual 166, 3) := by decide +kernel
theorem dX8_drop_5 : decode cX8_drop 5 = .ok (.ifCond .ne 5, 3) := by decide +kernel
theorem dX8_drop_8 : decode cX8_drop 8 = .ok (.iconst (-1), 1) := by decide +kernel
theorem dX8_drop_9 : decode cX8_drop 9 = .ok (.ireturn, 1) := by decide +kernel
theorem dX8_drop_10 : decode cX8_drop 10 = .ok (.iconst 1, 1) := by decide +kernel
theorem dX8_drop_11 : decode cX8_drop 11 = .ok (.iconst 4, 1) := by decide +kernel
theorem dX8_drop_12 : decode cX8_drop 12 = .ok (.iload_n 1, 1) := by decide +kernel
theorem dX8_drop_13 : decode cX8_drop 13 = .ok (.imul, 1) := by decide +kernel
theorem dX8_drop_14 : decode cX8_drop 14 = .ok (.iadd, 1) := by decide +kernel
theorem dX8_drop_15 : decode cX8_drop 15 = .ok (.istore_n 2, 1) := by decide +kernel
theorem dX8_drop_16 : decode cX8_drop 16 = .ok (.iload_n 2, 1) := by decide +kernel
theorem dX8_drop_17 : decode cX8_drop 17 = .ok (.iconst 1, 1) := by decide +kernel
theorem dX8_drop_18 : decode cX8_drop 18 = .ok (.iconst 4, 1) := by decide +kernel
theorem dX8_drop_19 : decode cX8_drop 19 = .ok (.aload_n 0, 1) := by decide +kernel
theorem dX8_drop_20 : decode cX8_drop 20 = .ok (.getfield 11, 3) := by decide +kernel
theorem dX8_drop_23 : decode cX8_drop 23 = .ok (.iconst 0, 1) := by decide +kernel
theorem dX8_drop_24 : decode cX8_drop 24 = .ok (.iaload, 1) := by decide +kernel
theorem dX8_drop_25 : decode cX8_drop 25 = .ok (.iconst 1, 1) := by decide +kernel
theorem dX8_drop_26 : decode cX8_drop 26 = .ok (.isub, 1) := by decide +kernel
theorem dX8_drop_27 : decode cX8_drop 27 = .ok (.imul, 1) := by decide +kernel
theorem dX8_drop_28 : decode cX8_drop 28 = .ok (.iadd, 1) := by decide +kernel
theorem dX8_drop_29 : decode cX8_drop 29 = .ok (.if_icmp .ge 23, 3) := by decide +kernel
theorem dX8_drop_32 : decode cX8_drop 32 = .ok (.aload_n 0, 1) := by decide +kernel
theorem dX8_drop_33 : decode cX8_drop 33 = .ok (.getfield 11, 3) := by decide +kernel
theorem dX8_drop_36 : decode cX8_drop 36 = .ok (.iload_n 2, 1) := by decide +kernel
theorem dX8_drop_37 : decode cX8_drop 37 = .ok (.aload_n 0, 1) := by decide +kernel
theorem dX8_drop_38 : decode cX8_drop 38 = .ok (.getfield 11, 3) := by decide +kernel
theorem dX8_drop_41 : decode cX8_drop 41 = .ok (.iload_n 2, 1) := by decide +kernel
theorem dX8_drop_42 : decode cX8_drop 42 = .ok (.iconst 4, 1) := by decide +kernel
theorem dX8_drop_43 : decode cX8_drop 43 = .ok (.iadd, 1) := by decide +kernel
theorem dX8_drop_44 : decode cX8_drop 44 = .ok (.iaload, 1) := by decide +kernel
theorem dX8_drop_45 : decode cX8_drop 45 = .ok (.iastore, 1) := by decide +kernel
theorem dX8_drop_46 : decode cX8_drop 46 = .ok (.iinc 2 1, 3) := by decide +kernel
theorem dX8_drop_49 : decode cX8_drop 49 = .ok (.goto (-33), 3) := by decide +kernel
theorem dX8_drop_52 : decode cX8_drop 52 = .ok (.aload_n 0, 1) := by decide +kernel
theorem dX8_drop_53 : decode cX8_drop 53 = .ok (.getfield 11, 3) := by decide +kernel
theorem dX8_drop_56 : decode cX8_drop 56 = .ok (.iconst 0, 1) := by decide +kernel
theorem dX8_drop_57 : decode cX8_drop 57 = .ok (.dup2, 1) := by decide +kernel
theorem dX8_drop_58 : decode cX8_drop 58 = .ok (.iaload, 1) := by decide +kernel
theorem dX8_drop_59 : decode cX8_drop 59 = .ok (.iconst 1, 1) := by decide +kernel
theorem dX8_drop_60 : decode cX8_drop 60 = .ok (.isub, 1) := by decide +kernel
theorem dX8_drop_61 : decode cX8_drop 61 = .ok (.iastore, 1) := by decide +kernel
theorem dX8_drop_62 : decode cX8_drop 62 = .ok (.aload_n 0, 1) := by decide +kernel
theorem dX8_drop_63 : decode cX8_drop 63 = .ok (.getfield 11, 3) := by decide +kernel
theorem dX8_drop_66 : decode cX8_drop 66 = .ok (.iconst 0, 1) := by decide +kernel
theorem dX8_drop_67 : decode cX8_drop 67 = .ok (.iaload, 1) := by decide +kernel
theorem dX8_drop_68 : decode cX8_drop 68 = .ok (.ireturn, 1) := by decide +kernel
theorem dX8_of_0 : decode cX8_of 0 = .ok (.aload_n 0, 1) := by decide +kernel
theorem dX8_of_1 : decode cX8_of 1 = .ok (.iload_n 1, 1) := by decide +kernel
theorem dX8_of_2 : decode cX8_of 2 = .ok (.invokevirtual 166, 3) := by decide +kernel
theorem dX8_of_5 : decode cX8_of 5 = .ok (.ifCond .eq 15, 3) := by decide +kernel
theorem dX8_of_8 : decode cX8_of 8 = .ok (.iload_n 2, 1) := by decide +kernel
theorem dX8_of_9 : decode cX8_of 9 = .ok (.i2l, 1) := by decide +kernel
theorem dX8_of_10 : decode cX8_of 10 = .ok (.lconst 0, 1) := by decide +kernel
theorem dX8_of_11 : decode cX8_of 11 = .ok (.ldc2_w 160, 3) := by decide +kernel
theorem dX8_of_14 : decode cX8_of 14 = .ok (.invokestatic 56, 3) := by decide +kernel
theorem dX8_of_17 : decode cX8_of 17 = .ok (.ifCond .ne 6, 3) := by decide +kernel
theorem dX8_of_20 : decode cX8_of 20 = .ok (.bipush (-9), 2) := by decide +kernel
theorem dX8_of_22 : decode cX8_of 22 = .ok (.ireturn, 1) := by decide +kernel
theorem dX8_of_23 : decode cX8_of 23 = .ok (.iload_n 2, 1) := by decide +kernel
theorem dX8_of_24 : decode cX8_of 24 = .ok (.iconst 4, 1) := by decide +kernel
theorem dX8_of_25 : decode cX8_of 25 = .ok (.if_icmp .ge 16, 3) := by decide +kernel
theorem dX8_of_28 : decode cX8_of 28 = .ok (.aload_n 0, 1) := by decide +kernel
theorem dX8_of_29 : decode cX8_of 29 = .ok (.getfield 11, 3) := by decide +kernel
theorem dX8_of_32 : decode cX8_of 32 = .ok (.iconst 1, 1) := by decide +kernel
theorem dX8_of_33 : decode cX8_of 33 = .ok (.iconst 4, 1) := by decide +kernel
theorem dX8_of_34 : decode cX8_of 34 = .ok (.iload_n 1, 1) := by decide +kernel
theorem dX8_of_35 : decode cX8_of 35 = .ok (.imul, 1) := by decide +kernel
theorem dX8_of_36 : decode cX8_of 36 = .ok (.iadd, 1) := by decide +kernel
theorem dX8_of_37 : decode cX8_of 37 = .ok (.iload_n 2, 1) := by decide +kernel
theorem dX8_of_38 : decode cX8_of 38 = .ok (.iadd, 1) := by decide +kernel
theorem dX8_of_39 : decode cX8_of 39 = .ok (.iaload, 1) := by decide +kernel
theorem dX8_of_40 : decode cX8_of 40 = .ok (.ireturn, 1) := by decide +kernel
theorem dX8_of_41 : decode cX8_of 41 = .ok (.aload_n 0, 1) := by decide +kernel
theorem dX8_of_42 : decode cX8_of 42 = .ok (.invokevirtual 138, 3) := by decide +kernel
theorem dX8_of_45 : decode cX8_of 45 = .ok (.aload_n 0, 1) := by decide +kernel
theorem dX8_of_46 : decode cX8_of 46 = .ok (.iload_n 1, 1) := by decide +kernel
theorem dX8_of_47 : decode cX8_of 47 = .ok (.invokevirtual 118, 3) := by decide +kernel
theorem dX8_of_50 : decode cX8_of 50 = .ok (.ireturn, 1) := by decide +kernel
theorem dX8_at_0 : decode cX8_at 0 = .ok (.iload_n 1, 1) := by decide +kernel
theorem dX8_at_1 : decode cX8_at 1 = .ok (.i2l, 1) := by decide +kernel
theorem dX8_at_2 : decode cX8_at 2 = .ok (.ldc2_w 156, 3) := by decide +kernel
theorem dX8_at_5 : decode cX8_at 5 = .ok (.ldc2_w 158, 3) := by decide +kernel
theorem dX8_at_8 : decode cX8_at 8 = .ok (.invokestatic 56, 3) := by decide +kernel
theorem dX8_at_11 : decode cX8_at 11 = .ok (.ifCond .eq 41, 3) := by decide +kernel
theorem dX8_at_14 : decode cX8_at 14 = .ok (.iload_n 2, 1) := by decide +kernel
theorem dX8_at_15 : decode cX8_at 15 = .ok (.i2l, 1) := by decide +kernel
theorem dX8_at_16 : decode cX8_at 16 = .ok (.ldc2_w 156, 3) := by decide +kernel
theorem dX8_at_19 : decode cX8_at 19 = .ok (.ldc2_w 158, 3) := by decide +kernel
theorem dX8_at_22 : decode cX8_at 22 = .ok (.invokestatic 56, 3) := by decide +kernel
theorem dX8_at_25 : decode cX8_at 25 = .ok (.ifCond .eq 27, 3) := by decide +kernel
theorem dX8_at_28 : decode cX8_at 28 = .ok (.iload_n 3, 1) := by decide +kernel
theorem dX8_at_29 : decode cX8_at 29 = .ok (.i2l, 1) := by decide +kernel
theorem dX8_at_30 : decode cX8_at 30 = .ok (.ldc2_w 156, 3) := by decide +kernel
theorem dX8_at_33 : decode cX8_at 33 = .ok (.ldc2_w 158, 3) := by decide +kernel
theorem dX8_at_36 : decode cX8_at 36 = .ok (.invokestatic 56, 3) := by decide +kernel
theorem dX8_at_39 : decode cX8_at 39 = .ok (.ifCond .eq 13, 3) := by decide +kernel
theorem dX8_at_42 : decode cX8_at 42 = .ok (.aload_n 0, 1) := by decide +kernel
theorem dX8_at_43 : decode cX8_at 43 = .ok (.iload_n 1, 1) := by decide +kernel
theorem dX8_at_44 : decode cX8_at 44 = .ok (.iload_n 2, 1) := by decide +kernel
theorem dX8_at_45 : decode cX8_at 45 = .ok (.iload_n 3, 1) := by decide +kernel
theorem dX8_at_46 : decode cX8_at 46 = .ok (.invokevirtual 87, 3) := by decide +kernel
theorem dX8_at_49 : decode cX8_at 49 = .ok (.goto 5, 3) := by decide +kernel
theorem dX8_at_52 : decode cX8_at 52 = .ok (.bipush (-2), 2) := by decide +kernel
theorem dX8_at_54 : decode cX8_at 54 = .ok (.ireturn, 1) := by decide +kernel
theorem dX8_feed_0 : decode cX8_feed 0 = .ok (.iload_n 1, 1) := by decide +kernel
theorem dX8_feed_1 : decode cX8_feed 1 = .ok (.i2l, 1) := by decide +kernel
theorem dX8_feed_2 : decode cX8_feed 2 = .ok (.lconst 0, 1) := by decide +kernel
theorem dX8_feed_3 : decode cX8_feed 3 = .ok (.ldc2_w 169, 3) := by decide +kernel
theorem dX8_feed_6 : decode cX8_feed 6 = .ok (.invokestatic 56, 3) := by decide +kernel
theorem dX8_feed_9 : decode cX8_feed 9 = .ok (.ifCond .ne 6, 3) := by decide +kernel
theorem dX8_feed_12 : decode cX8_feed 12 = .ok (.bipush (-2), 2) := by decide +kernel
theorem dX8_feed_14 : decode cX8_feed 14 = .ok (.ireturn, 1) := by decide +kernel
theorem dX8_feed_15 : decode cX8_feed 15 = .ok (.aload_n 0, 1) := by decide +kernel
theorem dX8_feed_16 : decode cX8_feed 16 = .ok (.getfield 171, 3) := by decide +kernel
theorem dX8_feed_19 : decode cX8_feed 19 = .ok (.bipush 100, 2) := by decide +kernel
theorem dX8_feed_21 : decode cX8_feed 21 = .ok (.if_icmp .ne 6, 3) := by decide +kernel
theorem dX8_feed_24 : decode cX8_feed 24 = .ok (.bipush (-4), 2) := by decide +kernel
theorem dX8_feed_26 : decode cX8_feed 26 = .ok (.ireturn, 1) := by decide +kernel
theorem dX8_feed_27 : decode cX8_feed 27 = .ok (.aload_n 0, 1) := by decide +kernel
theorem dX8_feed_28 : decode cX8_feed 28 = .ok (.getfield 40, 3) := by decide +kernel
theorem dX8_feed_31 : decode cX8_feed 31 = .ok (.aload_n 0, 1) := by decide +kernel
theorem dX8_feed_32 : decode cX8_feed 32 = .ok (.getfield 171, 3) := by decide +kernel
theorem dX8_feed_35 : decode cX8_feed 35 = .ok (.iload_n 1, 1) := by decide +kernel
theorem dX8_feed_36 : decode cX8_feed 36 = .ok (.iastore, 1) := by decide +kernel
theorem dX8_feed_37 : decode cX8_feed 37 = .ok (.aload_n 0, 1) := by decide +kernel
theorem dX8_feed_38 : decode cX8_feed 38 = .ok (.dup, 1) := by decide +kernel
theorem dX8_feed_39 : decode cX8_feed 39 = .ok (.getfield 171, 3) := by decide +kernel
theorem dX8_feed_42 : decode cX8_feed 42 = .ok (.iconst 1, 1) := by decide +kernel
theorem dX8_feed_43 : decode cX8_feed 43 = .ok (.iadd, 1) := by decide +kernel
theorem dX8_feed_44 : decode cX8_feed 44 = .ok (.putfield 171, 3) := by decide +kernel
theorem dX8_feed_47 : decode cX8_feed 47 = .ok (.aload_n 0, 1) := by decide +kernel
theorem dX8_feed_48 : decode cX8_feed 48 = .ok (.getfield 171, 3) := by decide +kernel
theorem dX8_feed_51 : decode cX8_feed 51 = .ok (.ireturn, 1) := by decide +kernel
theorem dX8_here_0 : decode cX8_here 0 = .ok (.aload_n 0, 1) := by decide +kernel
theorem dX8_here_1 : decode cX8_here 1 = .ok (.getfield 174, 3) := by decide +kernel
theorem dX8_here_4 : decode cX8_here 4 = .ok (.aload_n 0, 1) := by decide +kernel
theorem dX8_here_5 : decode cX8_here 5 = .ok (.getfield 171, 3) := by decide +kernel
theorem dX8_here_8 : decode cX8_here 8 = .ok (.if_icmp .ge 15, 3) := by decide +kernel
theorem dX8_here_11 : decode cX8_here 11 = .ok (.aload_n 0, 1) := by decide +kernel
theorem dX8_here_12 : decode cX8_here 12 = .ok (.getfield 40, 3) := by decide +kernel
theorem dX8_here_15 : decode cX8_here 15 = .ok (.aload_n 0, 1) := by decide +kernel
theorem dX8_here_16 : decode cX8_here 16 = .ok (.getfield 174, 3) := by decide +kernel
theorem dX8_here_19 : decode cX8_here 19 = .ok (.iaload, 1) := by decide +kernel
theorem dX8_here_20 : decode cX8_here 20 = .ok (.goto 4, 3) := by decide +kernel
theorem dX8_here_23 : decode cX8_here 23 = .ok (.iconst (-1), 1) := by decide +kernel
theorem dX8_here_24 : decode cX8_here 24 = .ok (.ireturn, 1) := by decide +kernel
theorem dX8_digit_0 : decode cX8_digit 0 = .ok (.aload_n 0, 1) := by decide +kernel
theorem dX8_digit_1 : decode cX8_digit 1 = .ok (.aload_n 0, 1) := by decide +kernel
theorem dX8_digit_2 : decode cX8_digit 2 = .ok (.getfield 177, 3) := by decide +kernel
theorem dX8_digit_5 : decode cX8_digit 5 = .ok (.ifCond .ne 20, 3) := by decide +kernel
theorem dX8_digit_8 : decode cX8_digit 8 = .ok (.aload_n 0, 1) := by decide +kernel
theorem dX8_digit_9 : decode cX8_digit 9 = .ok (.invokevirtual 181, 3) := by decide +kernel
theorem dX8_digit_12 : decode cX8_digit 12 = .ok (.i2l, 1) := by decide +kernel
theorem dX8_digit_13 : decode cX8_digit 13 = .ok (.ldc2_w 185, 3) := by decide +kernel
theorem dX8_digit_16 : decode cX8_digit 16 = .ok (.ldc2_w 187, 3) := by decide +kernel
theorem dX8_digit_19 : decode cX8_digit 19 = .ok (.invokestatic 56, 3) := by decide +kernel
theorem dX8_digit_22 : decode cX8_digit 22 = .ok (.ifCond .ne 7, 3) := by decide +kernel
theorem dX8_digit_25 : decode cX8_digit 25 = .ok (.iconst 1, 1) := by decide +kernel
theorem dX8_digit_26 : decode cX8_digit 26 = .ok (.goto 4, 3) := by decide +kernel
theorem dX8_digit_29 : decode cX8_digit 29 = .ok (.iconst 0, 1) := by decide +kernel
theorem dX8_digit_30 : decode cX8_digit 30 = .ok (.putfield 177, 3) := by decide +kernel
theorem dX8_digit_33 : decode cX8_digit 33 = .ok (.aload_n 0, 1) := by decide +kernel
theorem dX8_digit_34 : decode cX8_digit 34 = .ok (.getfield 177, 3) := by decide +kernel
theorem dX8_digit_37 : decode cX8_digit 37 = .ok (.ifCond .eq 7, 3) := by decide +kernel
theorem dX8_digit_40 : decode cX8_digit 40 = .ok (.iconst 0, 1) := by decide +kernel
theorem dX8_digit_41 : decode cX8_digit 41 = .ok (.goto 10, 3) := by decide +kernel
theorem dX8_digit_44 : decode cX8_digit 44 = .ok (.aload_n 0, 1) := by decide +kernel
theorem dX8_digit_45 : decode cX8_digit 45 = .ok (.invokevirtual 181, 3) := by decide +kernel
theorem dX8_digit_48 : decode cX8_digit 48 = .ok (.bipush 48, 2) := by decide +kernel
theorem dX8_digit_50 : decode cX8_digit 50 = .ok (.isub, 1) := by decide +kernel
theorem dX8_digit_51 : decode cX8_digit 51 = .ok (.istore_n 1, 1) := by decide +kernel
theorem dX8_digit_52 : decode cX8_digit 52 = .ok (.aload_n 0, 1) := by decide +kernel
theorem dX8_digit_53 : decode cX8_digit 53 = .ok (.dup, 1) := by decide +kernel
theorem dX8_digit_54 : decode cX8_digit 54 = .ok (.getfield 174, 3) := by decide +kernel
theorem dX8_digit_57 : decode cX8_digit 57 = .ok (.aload_n 0, 1) := by decide +kernel
theorem dX8_digit_58 : decode cX8_digit 58 = .ok (.getfield 177, 3) := by decide +kernel
theorem dX8_digit_61 : decode cX8_digit 61 = .ok (.ifCond .eq 7, 3) := by decide +kernel
theorem dX8_digit_64 : decode cX8_digit 64 = .ok (.iconst 0, 1) := by decide +kernel
theorem dX8_digit_65 : decode cX8_digit 65 = .ok (.goto 4, 3) := by decide +kernel
theorem dX8_digit_68 : decode cX8_digit 68 = .ok (.iconst 1, 1) := by decide +kernel
theorem dX8_digit_69 : decode cX8_digit 69 = .ok (.iadd, 1) := by decide +kernel
theorem dX8_digit_70 : decode cX8_digit 70 = .ok (.putfield 174, 3) := by decide +kernel
theorem dX8_digit_73 : decode cX8_digit 73 = .ok (.iload_n 1, 1) := by decide +kernel
theorem dX8_digit_74 : decode cX8_digit 74 = .ok (.ireturn, 1) := by decide +kernel
theorem dX8_comma_0 : decode cX8_comma 0 = .ok (.aload_n 0, 1) := by decide +kernel
theorem dX8_comma_1 : decode cX8_comma 1 = .ok (.aload_n 0, 1) := by decide +kernel
theorem dX8_comma_2 : decode cX8_comma 2 = .ok (.getfield 177, 3) := by decide +kernel
theorem dX8_comma_5 : decode cX8_comma 5 = .ok (.ifCond .ne 12, 3) := by decide +kernel
theorem dX8_comma_8 : decode cX8_comma 8 = .ok (.aload_n 0, 1) := by decide +kernel
theorem dX8_comma_9 : decode cX8_comma 9 = .ok (.invokevirtual 181, 3) := by decide +kernel
theorem dX8_comma_12 : decode cX8_comma 12 = .ok (.bipush 44, 2) := by decide +kernel
theorem dX8_comma_14 : decode cX8_comma 14 = .ok (.if_icmp .eq 7, 3) := by decide +kernel
theorem dX8_comma_17 : decode cX8_comma 17 = .ok (.iconst 1, 1) := by decide +kernel
theorem dX8_comma_18 : decode cX8_comma 18 = .ok (.goto 4, 3) := by decide +kernel
theorem dX8_comma_21 : decode cX8_comma 21 = .ok (.iconst 0, 1) := by decide +kernel
theorem dX8_comma_22 : decode cX8_comma 22 = .ok (.putfield 177, 3) := by decide +kernel
theorem dX8_comma_25 : decode cX8_comma 25 = .ok (.aload_n 0, 1) := by decide +kernel
theorem dX8_comma_26 : decode cX8_comma 26 = .ok (.dup, 1) := by decide +kernel
theorem dX8_comma_27 : decode cX8_comma 27 = .ok (.getfield 174, 3) := by decide +kernel
theorem dX8_comma_30 : decode cX8_comma 30 = .ok (.aload_n 0, 1) := by decide +kernel
theorem dX8_comma_31 : decode cX8_comma 31 = .ok (.getfield 177, 3) := by decide +kernel
theorem dX8_comma_34 : decode cX8_comma 34 = .ok (.ifCond .eq 7, 3) := by decide +kernel
theorem dX8_comma_37 : decode cX8_comma 37 = .ok (.iconst 0, 1) := by decide +kernel
theorem dX8_comma_38 : decode cX8_comma 38 = .ok (.goto 4, 3) := by decide +kernel
theorem dX8_comma_41 : decode cX8_comma 41 = .ok (.iconst 1, 1) := by decide +kernel
theorem dX8_comma_42 : decode cX8_comma 42 = .ok (.iadd, 1) := by decide +kernel
theorem dX8_comma_43 : decode cX8_comma 43 = .ok (.putfield 174, 3) := by decide +kernel
theorem dX8_comma_46 : decode cX8_comma 46 = .ok (.return_, 1) := by decide +kernel
theorem dX8_number_0 : decode cX8_number 0 = .ok (.aload_n 0, 1) := by decide +kernel
theorem dX8_number_1 : decode cX8_number 1 = .ok (.getfield 177, 3) := by decide +kernel
theorem dX8_number_4 : decode cX8_number 4 = .ok (.ifCond .ne 16, 3) := by decide +kernel
theorem dX8_number_7 : decode cX8_number 7 = .ok (.aload_n 0, 1) := by decide +kernel
theorem dX8_number_8 : decode cX8_number 8 = .ok (.invokevirtual 181, 3) := by decide +kernel
theorem dX8_number_11 : decode cX8_number 11 = .ok (.bipush 45, 2) := by decide +kernel
theorem dX8_number_13 : decode cX8_number 13 = .ok (.if_icmp .ne 7, 3) := by decide +kernel
theorem dX8_number_16 : decode cX8_number 16 = .ok (.iconst 1, 1) := by decide +kernel
theorem dX8_number_17 : decode cX8_number 17 = .ok (.goto 4, 3) := by decide +kernel
theorem dX8_number_20 : decode cX8_number 20 = .ok (.iconst 0, 1) := by decide +kernel
theorem dX8_number_21 : decode cX8_number 21 = .ok (.istore_n 1, 1) := by decide +kernel
theorem dX8_number_22 : decode cX8_number 22 = .ok (.aload_n 0, 1) := by decide +kernel
theorem dX8_number_23 : decode cX8_number 23 = .ok (.dup, 1) := by decide +kernel
theorem dX8_number_24 : decode cX8_number 24 = .ok (.getfield 174, 3) := by decide +kernel
theorem dX8_number_27 : decode cX8_number 27 = .ok (.iload_n 1, 1) := by decide +kernel
theorem dX8_number_28 : decode cX8_number 28 = .ok (.ifCond .eq 7, 3) := by decide +kernel
theorem dX8_number_31 : decode cX8_number 31 = .ok (.iconst 1, 1) := by decide +kernel
theorem dX8_number_32 : decode cX8_number 32 = .ok (.goto 4, 3) := by decide +kernel
theorem dX8_number_35 : decode cX8_number 35 = .ok (.iconst 0, 1) := by decide +kernel
theorem dX8_number_36 : decode cX8_number 36 = .ok (.iadd, 1) := by decide +kernel
theorem dX8_number_37 : decode cX8_number 37 = .ok (.putfield 174, 3) := by decide +kernel
theorem dX8_number_40 : decode cX8_number 40 = .ok (.aload_n 0, 1) := by decide +kernel
theorem dX8_number_41 : decode cX8_number 41 = .ok (.invokevirtual 189, 3) := by decide +kernel
theorem dX8_number_44 : decode cX8_number 44 = .ok (.istore_n 2, 1) := by decide +kernel
theorem dX8_number_45 : decode cX8_number 45 = .ok (.iload_n 1, 1) := by decide +kernel
theorem dX8_number_46 : decode cX8_number 46 = .ok (.ifCond .eq 8, 3) := by decide +kernel
theorem dX8_number_49 : decode cX8_number 49 = .ok (.iload_n 2, 1) := by decide +kernel
theorem dX8_number_50 : decode cX8_number 50 = .ok (.ineg, 1) := by decide +kernel
theorem dX8_number_51 : decode cX8_number 51 = .ok (.goto 4, 3) := by decide +kernel
theorem dX8_number_54 : decode cX8_number 54 = .ok (.iload_n 2, 1) := by decide +kernel
theorem dX8_number_55 : decode cX8_number 55 = .ok (.ireturn, 1) := by decide +kernel
theorem dX8_clause_0 : decode cX8_clause 0 = .ok (.aload_n 0, 1) := by decide +kernel
theorem dX8_clause_1 : decode cX8_clause 1 = .ok (.invokevirtual 181, 3) := by decide +kernel
theorem dX8_clause_4 : decode cX8_clause 4 = .ok (.istore_n 1, 1) := by decide +kernel
theorem dX8_clause_5 : decode cX8_clause 5 = .ok (.iconst 5, 1) := by decide +kernel
theorem dX8_clause_6 : decode cX8_clause 6 = .ok (.aload_n 0, 1) := by decide +kernel
theorem dX8_clause_7 : decode cX8_clause 7 = .ok (.getfield 192, 3) := by decide +kernel
theorem dX8_clause_10 : decode cX8_clause 10 = .ok (.imul, 1) := by decide +kernel
theorem dX8_clause_11 : decode cX8_clause 11 = .ok (.istore_n 2, 1) := by decide +kernel
theorem dX8_clause_12 : decode cX8_clause 12 = .ok (.aload_n 0, 1) := by decide +kernel
theorem dX8_clause_13 : decode cX8_clause 13 = .ok (.getfield 43, 3) := by decide +kernel
theorem dX8_clause_16 : decode cX8_clause 16 = .ok (.iload_n 2, 1) := by decide +kernel
theorem dX8_clause_17 : decode cX8_clause 17 = .ok (.iload_n 1, 1) := by decide +kernel
theorem dX8_clause_18 : decode cX8_clause 18 = .ok (.iastore, 1) := by decide +kernel
theorem dX8_clause_19 : decode cX8_clause 19 = .ok (.iload_n 1, 1) := by decide +kernel
theorem dX8_clause_20 : decode cX8_clause 20 = .ok (.bipush 112, 2) := by decide +kernel
theorem dX8_clause_22 : decode cX8_clause 22 = .ok (.if_icmp .eq 21, 3) := by decide +kernel
theorem dX8_clause_25 : decode cX8_clause 25 = .ok (.iload_n 1, 1) := by decide +kernel
theorem dX8_clause_26 : decode cX8_clause 26 = .ok (.bipush 109, 2) := by decide +kernel
theorem dX8_clause_28 : decode cX8_clause 28 = .ok (.if_icmp .eq 15, 3) := by decide +kernel
theorem dX8_clause_31 : decode cX8_clause 31 = .ok (.iload_n 1, 1) := by decide +kernel
theorem dX8_clause_32 : decode cX8_clause 32 = .ok (.bipush 100, 2) := by decide +kernel
theorem dX8_clause_34 : decode cX8_clause 34 = .ok (.if_icmp .eq 9, 3) := by decide +kernel
theorem dX8_clause_37 : decode cX8_clause 37 = .ok (.aload_n 0, 1) := by decide +kernel
theorem dX8_clause_38 : decode cX8_clause 38 = .ok (.iconst 1, 1) := by decide +kernel
theorem dX8_clause_39 : decode cX8_clause 39 = .ok (.putfield 177, 3) := by decide +kernel
theorem dX8_clause_42 : decode cX8_clause 42 = .ok (.return_, 1) := by decide +kernel
theorem dX8_clause_43 : decode cX8_clause 43 = .ok (.aload_n 0, 1) := by decide +kernel
theorem dX8_clause_44 : decode cX8_clause 44 = .ok (.dup, 1) := by decide +kernel
theorem dX8_clause_45 : decode cX8_clause 45 = .ok (.getfield 174, 3) := by decide +kernel
theorem dX8_clause_48 : decode cX8_clause 48 = .ok (.iconst 1, 1) := by decide +kernel
theorem dX8_clause_49 : decode cX8_clause 49 = .ok (.iadd, 1) := by decide +kernel
theorem dX8_clause_50 : decode cX8_clause 50 = .ok (.putfield 174, 3) := by decide +kernel
theorem dX8_clause_53 : decode cX8_clause 53 = .ok (.iload_n 1, 1) := by decide +kernel
theorem dX8_clause_54 : decode cX8_clause 54 = .ok (.bipush 112, 2) := by decide +kernel
theorem dX8_clause_56 : decode cX8_clause 56 = .ok (.if_icmp .ne 49, 3) := by decide +kernel
theorem dX8_clause_59 : decode cX8_clause 59 = .ok (.iconst 0, 1) := by decide +kernel
theorem dX8_clause_60 : decode cX8_clause 60 = .ok (.istore_n 3, 1) := by decide +kernel
theorem dX8_clause_61 : decode cX8_clause 61 = .ok (.iload_n 3, 1) := by decide +kernel
theorem dX8_clause_62 : decode cX8_clause 62 = .ok (.iconst 3, 1) := by decide +kernel
theorem dX8_clause_63 : decode cX8_clause 63 = .ok (.if_icmp .ge 27, 3) := by decide +kernel
theorem dX8_clause_66 : decode cX8_clause 66 = .ok (.aload_n 0, 1) := by decide +kernel
theorem dX8_clause_67 : decode cX8_clause 67 = .ok (.getfield 43, 3) := by decide +kernel
theorem dX8_clause_70 : decode cX8_clause 70 = .ok (.iload_n 2, 1) := by decide +kernel
theorem dX8_clause_71 : decode cX8_clause 71 = .ok (.iconst 1, 1) := by decide +kernel
theorem dX8_clause_72 : decode cX8_clause 72 = .ok (.iadd, 1) := by decide +kernel
theorem dX8_clause_73 : decode cX8_clause 73 = .ok (.iload_n 3, 1) := by decide +kernel
theorem dX8_clause_74 : decode cX8_clause 74 = .ok (.iadd, 1) := by decide +kernel
theorem dX8_clause_75 : decode cX8_clause 75 = .ok (.aload_n 0, 1) := by decide +kernel
theorem dX8_clause_76 : decode cX8_clause 76 = .ok (.invokevirtual 195, 3) := by decide +kernel
theorem dX8_clause_79 : decode cX8_clause 79 = .ok (.iastore, 1) := by decide +kernel
theorem dX8_clause_80 : decode cX8_clause 80 = .ok (.aload_n 0, 1) := by decide +kernel
theorem dX8_clause_81 : decode cX8_clause 81 = .ok (.invokevirtual 198, 3) := by decide +kernel
theorem dX8_clause_84 : decode cX8_clause 84 = .ok (.iinc 3 1, 3) := by decide +kernel
theorem dX8_clause_87 : decode cX8_clause 87 = .ok (.goto (-26), 3) := by decide +kernel
theorem dX8_clause_90 : decode cX8_clause 90 = .ok (.aload_n 0, 1) := by decide +kernel
theorem dX8_clause_91 : decode cX8_clause 91 = .ok (.getfield 43, 3) := by decide +kernel
end
section
theorem dX8_clause_94 : decode cX8_clause 94 = .ok (.iload_n 2, 1) := by decide +kernel
theorem dX8_clause_95 : decode cX8_clause 95 = .ok (.iconst 4, 1) := by decide +kernel
theorem dX8_clause_96 : decode cX8_clause 96 = .ok (.iadd, 1) := by decide +kernel
theorem dX8_clause_97 : decode cX8_clause 97 = .ok (.aload_n 0, 1) := by decide +kernel
theorem dX8_clause_98 : decode cX8_clause 98 = .ok (.invokevirtual 189, 3) := by decide +kernel
theorem dX8_clause_101 : decode cX8_clause 101 = .ok (.iastore, 1) := by decide +kernel
theorem dX8_clause_102 : decode cX8_clause 102 = .ok (.goto 37, 3) := by decide +kernel
theorem dX8_clause_105 : decode cX8_clause 105 = .ok (.aload_n 0, 1) := by decide +kernel
theorem dX8_clause_106 : decode cX8_clause 106 = .ok (.getfield 43, 3) := by decide +kernel
theorem dX8_clause_109 : decode cX8_clause 109 = .ok (.iload_n 2, 1) := by decide +kernel
theorem dX8_clause_110 : decode cX8_clause 110 = .ok (.iconst 1, 1) := by decide +kernel
theorem dX8_clause_111 : decode cX8_clause 111 = .ok (.iadd, 1) := by decide +kernel
theorem dX8_clause_112 : decode cX8_clause 112 = .ok (.aload_n 0, 1) := by decide +kernel
theorem dX8_clause_113 : decode cX8_clause 113 = .ok (.invokevirtual 189, 3) := by decide +kernel
theorem dX8_clause_116 : decode cX8_clause 116 = .ok (.iastore, 1) := by decide +kernel
theorem dX8_clause_117 : decode cX8_clause 117 = .ok (.aload_n 0, 1) := by decide +kernel
theorem dX8_clause_118 : decode cX8_clause 118 = .ok (.getfield 43, 3) := by decide +kernel
theorem dX8_clause_121 : decode cX8_clause 121 = .ok (.iload_n 2, 1) := by decide +kernel
theorem dX8_clause_122 : decode cX8_clause 122 = .ok (.iconst 2, 1) := by decide +kernel
theorem dX8_clause_123 : decode cX8_clause 123 = .ok (.iadd, 1) := by decide +kernel
theorem dX8_clause_124 : decode cX8_clause 124 = .ok (.iload_n 1, 1) := by decide +kernel
theorem dX8_clause_125 : decode cX8_clause 125 = .ok (.bipush 109, 2) := by decide +kernel
theorem dX8_clause_127 : decode cX8_clause 127 = .ok (.if_icmp .ne 10, 3) := by decide +kernel
theorem dX8_clause_130 : decode cX8_clause 130 = .ok (.aload_n 0, 1) := by decide +kernel
theorem dX8_clause_131 : decode cX8_clause 131 = .ok (.invokevirtual 189, 3) := by decide +kernel
theorem dX8_clause_134 : decode cX8_clause 134 = .ok (.goto 4, 3) := by decide +kernel
theorem dX8_clause_137 : decode cX8_clause 137 = .ok (.iconst 0, 1) := by decide +kernel
theorem dX8_clause_138 : decode cX8_clause 138 = .ok (.iastore, 1) := by decide +kernel
theorem dX8_clause_139 : decode cX8_clause 139 = .ok (.aload_n 0, 1) := by decide +kernel
theorem dX8_clause_140 : decode cX8_clause 140 = .ok (.dup, 1) := by decide +kernel
theorem dX8_clause_141 : decode cX8_clause 141 = .ok (.getfield 192, 3) := by decide +kernel
theorem dX8_clause_144 : decode cX8_clause 144 = .ok (.iconst 1, 1) := by decide +kernel
theorem dX8_clause_145 : decode cX8_clause 145 = .ok (.iadd, 1) := by decide +kernel
theorem dX8_clause_146 : decode cX8_clause 146 = .ok (.putfield 192, 3) := by decide +kernel
theorem dX8_clause_149 : decode cX8_clause 149 = .ok (.return_, 1) := by decide +kernel
theorem dX8_done_0 : decode cX8_done 0 = .ok (.aload_n 0, 1) := by decide +kernel
theorem dX8_done_1 : decode cX8_done 1 = .ok (.getfield 43, 3) := by decide +kernel
theorem dX8_done_4 : decode cX8_done 4 = .ok (.iload_n 1, 1) := by decide +kernel
theorem dX8_done_5 : decode cX8_done 5 = .ok (.iaload, 1) := by decide +kernel
theorem dX8_done_6 : decode cX8_done 6 = .ok (.lookupswitch 84 #[(109, 63), (112, 26)], 26) := by decide +kernel
theorem dX8_done_32 : decode cX8_done 32 = .ok (.aload_n 0, 1) := by decide +kernel
theorem dX8_done_33 : decode cX8_done 33 = .ok (.aload_n 0, 1) := by decide +kernel
theorem dX8_done_34 : decode cX8_done 34 = .ok (.getfield 43, 3) := by decide +kernel
theorem dX8_done_37 : decode cX8_done 37 = .ok (.iload_n 1, 1) := by decide +kernel
theorem dX8_done_38 : decode cX8_done 38 = .ok (.iconst 1, 1) := by decide +kernel
theorem dX8_done_39 : decode cX8_done 39 = .ok (.iadd, 1) := by decide +kernel
theorem dX8_done_40 : decode cX8_done 40 = .ok (.iaload, 1) := by decide +kernel
theorem dX8_done_41 : decode cX8_done 41 = .ok (.aload_n 0, 1) := by decide +kernel
theorem dX8_done_42 : decode cX8_done 42 = .ok (.getfield 43, 3) := by decide +kernel
theorem dX8_done_45 : decode cX8_done 45 = .ok (.iload_n 1, 1) := by decide +kernel
theorem dX8_done_46 : decode cX8_done 46 = .ok (.iconst 2, 1) := by decide +kernel
theorem dX8_done_47 : decode cX8_done 47 = .ok (.iadd, 1) := by decide +kernel
theorem dX8_done_48 : decode cX8_done 48 = .ok (.iaload, 1) := by decide +kernel
theorem dX8_done_49 : decode cX8_done 49 = .ok (.aload_n 0, 1) := by decide +kernel
theorem dX8_done_50 : decode cX8_done 50 = .ok (.getfield 43, 3) := by decide +kernel
theorem dX8_done_53 : decode cX8_done 53 = .ok (.iload_n 1, 1) := by decide +kernel
theorem dX8_done_54 : decode cX8_done 54 = .ok (.iconst 3, 1) := by decide +kernel
theorem dX8_done_55 : decode cX8_done 55 = .ok (.iadd, 1) := by decide +kernel
theorem dX8_done_56 : decode cX8_done 56 = .ok (.iaload, 1) := by decide +kernel
theorem dX8_done_57 : decode cX8_done 57 = .ok (.aload_n 0, 1) := by decide +kernel
theorem dX8_done_58 : decode cX8_done 58 = .ok (.getfield 43, 3) := by decide +kernel
theorem dX8_done_61 : decode cX8_done 61 = .ok (.iload_n 1, 1) := by decide +kernel
theorem dX8_done_62 : decode cX8_done 62 = .ok (.iconst 4, 1) := by decide +kernel
theorem dX8_done_63 : decode cX8_done 63 = .ok (.iadd, 1) := by decide +kernel
theorem dX8_done_64 : decode cX8_done 64 = .ok (.iaload, 1) := by decide +kernel
theorem dX8_done_65 : decode cX8_done 65 = .ok (.invokevirtual 162, 3) := by decide +kernel
theorem dX8_done_68 : decode cX8_done 68 = .ok (.ireturn, 1) := by decide +kernel
theorem dX8_done_69 : decode cX8_done 69 = .ok (.aload_n 0, 1) := by decide +kernel
theorem dX8_done_70 : decode cX8_done 70 = .ok (.aload_n 0, 1) := by decide +kernel
theorem dX8_done_71 : decode cX8_done 71 = .ok (.getfield 43, 3) := by decide +kernel
theorem dX8_done_74 : decode cX8_done 74 = .ok (.iload_n 1, 1) := by decide +kernel
theorem dX8_done_75 : decode cX8_done 75 = .ok (.iconst 1, 1) := by decide +kernel
theorem dX8_done_76 : decode cX8_done 76 = .ok (.iadd, 1) := by decide +kernel
theorem dX8_done_77 : decode cX8_done 77 = .ok (.iaload, 1) := by decide +kernel
theorem dX8_done_78 : decode cX8_done 78 = .ok (.aload_n 0, 1) := by decide +kernel
theorem dX8_done_79 : decode cX8_done 79 = .ok (.getfield 43, 3) := by decide +kernel
theorem dX8_done_82 : decode cX8_done 82 = .ok (.iload_n 1, 1) := by decide +kernel
theorem dX8_done_83 : decode cX8_done 83 = .ok (.iconst 2, 1) := by decide +kernel
theorem dX8_done_84 : decode cX8_done 84 = .ok (.iadd, 1) := by decide +kernel
theorem dX8_done_85 : decode cX8_done 85 = .ok (.iaload, 1) := by decide +kernel
theorem dX8_done_86 : decode cX8_done 86 = .ok (.invokevirtual 201, 3) := by decide +kernel
theorem dX8_done_89 : decode cX8_done 89 = .ok (.ireturn, 1) := by decide +kernel
theorem dX8_done_90 : decode cX8_done 90 = .ok (.aload_n 0, 1) := by decide +kernel
theorem dX8_done_91 : decode cX8_done 91 = .ok (.aload_n 0, 1) := by decide +kernel
theorem dX8_done_92 : decode cX8_done 92 = .ok (.getfield 43, 3) := by decide +kernel
theorem dX8_done_95 : decode cX8_done 95 = .ok (.iload_n 1, 1) := by decide +kernel
theorem dX8_done_96 : decode cX8_done 96 = .ok (.iconst 1, 1) := by decide +kernel
theorem dX8_done_97 : decode cX8_done 97 = .ok (.iadd, 1) := by decide +kernel
theorem dX8_done_98 : decode cX8_done 98 = .ok (.iaload, 1) := by decide +kernel
theorem dX8_done_99 : decode cX8_done 99 = .ok (.invokevirtual 204, 3) := by decide +kernel
theorem dX8_done_102 : decode cX8_done 102 = .ok (.ireturn, 1) := by decide +kernel
theorem dX8_read_0 : decode cX8_read 0 = .ok (.aload_n 0, 1) := by decide +kernel
theorem dX8_read_1 : decode cX8_read 1 = .ok (.iconst 0, 1) := by decide +kernel
theorem dX8_read_2 : decode cX8_read 2 = .ok (.putfield 174, 3) := by decide +kernel
theorem dX8_read_5 : decode cX8_read 5 = .ok (.aload_n 0, 1) := by decide +kernel
theorem dX8_read_6 : decode cX8_read 6 = .ok (.iconst 0, 1) := by decide +kernel
theorem dX8_read_7 : decode cX8_read 7 = .ok (.putfield 177, 3) := by decide +kernel
theorem dX8_read_10 : decode cX8_read 10 = .ok (.aload_n 0, 1) := by decide +kernel
theorem dX8_read_11 : decode cX8_read 11 = .ok (.iconst 0, 1) := by decide +kernel
theorem dX8_read_12 : decode cX8_read 12 = .ok (.putfield 192, 3) := by decide +kernel
theorem dX8_read_15 : decode cX8_read 15 = .ok (.iconst 1, 1) := by decide +kernel
theorem dX8_read_16 : decode cX8_read 16 = .ok (.istore_n 1, 1) := by decide +kernel
theorem dX8_read_17 : decode cX8_read 17 = .ok (.iload_n 1, 1) := by decide +kernel
theorem dX8_read_18 : decode cX8_read 18 = .ok (.ifCond .eq 59, 3) := by decide +kernel
theorem dX8_read_21 : decode cX8_read 21 = .ok (.aload_n 0, 1) := by decide +kernel
theorem dX8_read_22 : decode cX8_read 22 = .ok (.invokevirtual 207, 3) := by decide +kernel
theorem dX8_read_25 : decode cX8_read 25 = .ok (.aload_n 0, 1) := by decide +kernel
theorem dX8_read_26 : decode cX8_read 26 = .ok (.getfield 177, 3) := by decide +kernel
theorem dX8_read_29 : decode cX8_read 29 = .ok (.ifCond .ne 25, 3) := by decide +kernel
theorem dX8_read_32 : decode cX8_read 32 = .ok (.aload_n 0, 1) := by decide +kernel
theorem dX8_read_33 : decode cX8_read 33 = .ok (.invokevirtual 181, 3) := by decide +kernel
theorem dX8_read_36 : decode cX8_read 36 = .ok (.bipush 59, 2) := by decide +kernel
theorem dX8_read_38 : decode cX8_read 38 = .ok (.if_icmp .ne 16, 3) := by decide +kernel
theorem dX8_read_41 : decode cX8_read 41 = .ok (.aload_n 0, 1) := by decide +kernel
theorem dX8_read_42 : decode cX8_read 42 = .ok (.getfield 192, 3) := by decide +kernel
theorem dX8_read_45 : decode cX8_read 45 = .ok (.bipush 12, 2) := by decide +kernel
theorem dX8_read_47 : decode cX8_read 47 = .ok (.if_icmp .ge 7, 3) := by decide +kernel
theorem dX8_read_50 : decode cX8_read 50 = .ok (.iconst 1, 1) := by decide +kernel
theorem dX8_read_51 : decode cX8_read 51 = .ok (.goto 4, 3) := by decide +kernel
theorem dX8_read_54 : decode cX8_read 54 = .ok (.iconst 0, 1) := by decide +kernel
theorem dX8_read_55 : decode cX8_read 55 = .ok (.istore_n 1, 1) := by decide +kernel
theorem dX8_read_56 : decode cX8_read 56 = .ok (.aload_n 0, 1) := by decide +kernel
theorem dX8_read_57 : decode cX8_read 57 = .ok (.dup, 1) := by decide +kernel
theorem dX8_read_58 : decode cX8_read 58 = .ok (.getfield 174, 3) := by decide +kernel
theorem dX8_read_61 : decode cX8_read 61 = .ok (.iload_n 1, 1) := by decide +kernel
theorem dX8_read_62 : decode cX8_read 62 = .ok (.ifCond .eq 7, 3) := by decide +kernel
theorem dX8_read_65 : decode cX8_read 65 = .ok (.iconst 1, 1) := by decide +kernel
theorem dX8_read_66 : decode cX8_read 66 = .ok (.goto 4, 3) := by decide +kernel
theorem dX8_read_69 : decode cX8_read 69 = .ok (.iconst 0, 1) := by decide +kernel
theorem dX8_read_70 : decode cX8_read 70 = .ok (.iadd, 1) := by decide +kernel
theorem dX8_read_71 : decode cX8_read 71 = .ok (.putfield 174, 3) := by decide +kernel
theorem dX8_read_74 : decode cX8_read 74 = .ok (.goto (-57), 3) := by decide +kernel
theorem dX8_read_77 : decode cX8_read 77 = .ok (.aload_n 0, 1) := by decide +kernel
theorem dX8_read_78 : decode cX8_read 78 = .ok (.getfield 177, 3) := by decide +kernel
theorem dX8_read_81 : decode cX8_read 81 = .ok (.ifCond .ne 18, 3) := by decide +kernel
theorem dX8_read_84 : decode cX8_read 84 = .ok (.aload_n 0, 1) := by decide +kernel
theorem dX8_read_85 : decode cX8_read 85 = .ok (.getfield 174, 3) := by decide +kernel
theorem dX8_read_88 : decode cX8_read 88 = .ok (.aload_n 0, 1) := by decide +kernel
theorem dX8_read_89 : decode cX8_read 89 = .ok (.getfield 171, 3) := by decide +kernel
theorem dX8_read_92 : decode cX8_read 92 = .ok (.if_icmp .ne 7, 3) := by decide +kernel
theorem dX8_read_95 : decode cX8_read 95 = .ok (.iconst 1, 1) := by decide +kernel
theorem dX8_read_96 : decode cX8_read 96 = .ok (.goto 4, 3) := by decide +kernel
theorem dX8_read_99 : decode cX8_read 99 = .ok (.iconst 0, 1) := by decide +kernel
theorem dX8_read_100 : decode cX8_read 100 = .ok (.istore_n 2, 1) := by decide +kernel
theorem dX8_read_101 : decode cX8_read 101 = .ok (.aload_n 0, 1) := by decide +kernel
theorem dX8_read_102 : decode cX8_read 102 = .ok (.iconst 0, 1) := by decide +kernel
theorem dX8_read_103 : decode cX8_read 103 = .ok (.putfield 171, 3) := by decide +kernel
theorem dX8_read_106 : decode cX8_read 106 = .ok (.iload_n 2, 1) := by decide +kernel
theorem dX8_read_107 : decode cX8_read 107 = .ok (.ifCond .ne 11, 3) := by decide +kernel
theorem dX8_read_110 : decode cX8_read 110 = .ok (.bipush (-10), 2) := by decide +kernel
theorem dX8_read_112 : decode cX8_read 112 = .ok (.aload_n 0, 1) := by decide +kernel
theorem dX8_read_113 : decode cX8_read 113 = .ok (.getfield 174, 3) := by decide +kernel
theorem dX8_read_116 : decode cX8_read 116 = .ok (.isub, 1) := by decide +kernel
theorem dX8_read_117 : decode cX8_read 117 = .ok (.ireturn, 1) := by decide +kernel
theorem dX8_read_118 : decode cX8_read 118 = .ok (.iconst 0, 1) := by decide +kernel
theorem dX8_read_119 : decode cX8_read 119 = .ok (.istore_n 3, 1) := by decide +kernel
theorem dX8_read_120 : decode cX8_read 120 = .ok (.iconst 0, 1) := by decide +kernel
theorem dX8_read_121 : decode cX8_read 121 = .ok (.istore 4, 2) := by decide +kernel
theorem dX8_read_123 : decode cX8_read 123 = .ok (.iload 4, 2) := by decide +kernel
theorem dX8_read_125 : decode cX8_read 125 = .ok (.aload_n 0, 1) := by decide +kernel
theorem dX8_read_126 : decode cX8_read 126 = .ok (.getfield 192, 3) := by decide +kernel
theorem dX8_read_129 : decode cX8_read 129 = .ok (.if_icmp .ge 28, 3) := by decide +kernel
theorem dX8_read_132 : decode cX8_read 132 = .ok (.iload_n 3, 1) := by decide +kernel
theorem dX8_read_133 : decode cX8_read 133 = .ok (.aload_n 0, 1) := by decide +kernel
theorem dX8_read_134 : decode cX8_read 134 = .ok (.iconst 5, 1) := by decide +kernel
theorem dX8_read_135 : decode cX8_read 135 = .ok (.iload 4, 2) := by decide +kernel
theorem dX8_read_137 : decode cX8_read 137 = .ok (.imul, 1) := by decide +kernel
theorem dX8_read_138 : decode cX8_read 138 = .ok (.invokevirtual 210, 3) := by decide +kernel
theorem dX8_read_141 : decode cX8_read 141 = .ok (.ifCond .lt 7, 3) := by decide +kernel
theorem dX8_read_144 : decode cX8_read 144 = .ok (.iconst 1, 1) := by decide +kernel
theorem dX8_read_145 : decode cX8_read 145 = .ok (.goto 4, 3) := by decide +kernel
theorem dX8_read_148 : decode cX8_read 148 = .ok (.iconst 0, 1) := by decide +kernel
theorem dX8_read_149 : decode cX8_read 149 = .ok (.iadd, 1) := by decide +kernel
theorem dX8_read_150 : decode cX8_read 150 = .ok (.istore_n 3, 1) := by decide +kernel
theorem dX8_read_151 : decode cX8_read 151 = .ok (.iinc 4 1, 3) := by decide +kernel
theorem dX8_read_154 : decode cX8_read 154 = .ok (.goto (-31), 3) := by decide +kernel
theorem dX8_read_157 : decode cX8_read 157 = .ok (.iload_n 3, 1) := by decide +kernel
theorem dX8_read_158 : decode cX8_read 158 = .ok (.ireturn, 1) := by decide +kernel
theorem dX8_product_0 : decode cX8_product 0 = .ok (.iload_n 1, 1) := by decide +kernel
theorem dX8_product_1 : decode cX8_product 1 = .ok (.invokestatic 213, 3) := by decide +kernel
theorem dX8_product_4 : decode cX8_product 4 = .ok (.ifCond .eq 18, 3) := by decide +kernel
theorem dX8_product_7 : decode cX8_product 7 = .ok (.iload_n 2, 1) := by decide +kernel
theorem dX8_product_8 : decode cX8_product 8 = .ok (.invokestatic 213, 3) := by decide +kernel
theorem dX8_product_11 : decode cX8_product 11 = .ok (.ifCond .eq 11, 3) := by decide +kernel
theorem dX8_product_14 : decode cX8_product 14 = .ok (.iload_n 1, 1) := by decide +kernel
theorem dX8_product_15 : decode cX8_product 15 = .ok (.iload_n 2, 1) := by decide +kernel
theorem dX8_product_16 : decode cX8_product 16 = .ok (.invokestatic 81, 3) := by decide +kernel
theorem dX8_product_19 : decode cX8_product 19 = .ok (.goto 4, 3) := by decide +kernel
theorem dX8_product_22 : decode cX8_product 22 = .ok (.iconst (-1), 1) := by decide +kernel
theorem dX8_product_23 : decode cX8_product 23 = .ok (.ireturn, 1) := by decide +kernel
theorem dX8_move_0 : decode cX8_move 0 = .ok (.iload_n 1, 1) := by decide +kernel
theorem dX8_move_1 : decode cX8_move 1 = .ok (.invokestatic 213, 3) := by decide +kernel
theorem dX8_move_4 : decode cX8_move 4 = .ok (.ifCond .eq 15, 3) := by decide +kernel
theorem dX8_move_7 : decode cX8_move 7 = .ok (.iload_n 2, 1) := by decide +kernel
theorem dX8_move_8 : decode cX8_move 8 = .ok (.i2l, 1) := by decide +kernel
theorem dX8_move_9 : decode cX8_move 9 = .ok (.lconst 0, 1) := by decide +kernel
theorem dX8_move_10 : decode cX8_move 10 = .ok (.ldc2_w 158, 3) := by decide +kernel
theorem dX8_move_13 : decode cX8_move 13 = .ok (.invokestatic 56, 3) := by decide +kernel
theorem dX8_move_16 : decode cX8_move 16 = .ok (.ifCond .ne 5, 3) := by decide +kernel
theorem dX8_move_19 : decode cX8_move 19 = .ok (.iconst (-1), 1) := by decide +kernel
theorem dX8_move_20 : decode cX8_move 20 = .ok (.ireturn, 1) := by decide +kernel
theorem dX8_move_21 : decode cX8_move 21 = .ok (.aload_n 0, 1) := by decide +kernel
theorem dX8_move_22 : decode cX8_move 22 = .ok (.iload_n 1, 1) := by decide +kernel
theorem dX8_move_23 : decode cX8_move 23 = .ok (.invokevirtual 101, 3) := by decide +kernel
theorem dX8_move_26 : decode cX8_move 26 = .ok (.istore_n 3, 1) := by decide +kernel
theorem dX8_move_27 : decode cX8_move 27 = .ok (.iload_n 2, 1) := by decide +kernel
theorem dX8_move_28 : decode cX8_move 28 = .ok (.ifCond .ne 10, 3) := by decide +kernel
theorem dX8_move_31 : decode cX8_move 31 = .ok (.iload_n 1, 1) := by decide +kernel
theorem dX8_move_32 : decode cX8_move 32 = .ok (.invokestatic 104, 3) := by decide +kernel
theorem dX8_move_35 : decode cX8_move 35 = .ok (.goto 33, 3) := by decide +kernel
theorem dX8_move_38 : decode cX8_move 38 = .ok (.iload_n 2, 1) := by decide +kernel
theorem dX8_move_39 : decode cX8_move 39 = .ok (.iconst 1, 1) := by decide +kernel
theorem dX8_move_40 : decode cX8_move 40 = .ok (.if_icmp .ne 10, 3) := by decide +kernel
theorem dX8_move_43 : decode cX8_move 43 = .ok (.iload_n 1, 1) := by decide +kernel
theorem dX8_move_44 : decode cX8_move 44 = .ok (.invokestatic 216, 3) := by decide +kernel
theorem dX8_move_47 : decode cX8_move 47 = .ok (.goto 21, 3) := by decide +kernel
theorem dX8_move_50 : decode cX8_move 50 = .ok (.iload_n 2, 1) := by decide +kernel
theorem dX8_move_51 : decode cX8_move 51 = .ok (.iconst 2, 1) := by decide +kernel
theorem dX8_move_52 : decode cX8_move 52 = .ok (.if_icmp .ne 15, 3) := by decide +kernel
theorem dX8_move_55 : decode cX8_move 55 = .ok (.iload_n 3, 1) := by decide +kernel
theorem dX8_move_56 : decode cX8_move 56 = .ok (.ifCond .ne 7, 3) := by decide +kernel
theorem dX8_move_59 : decode cX8_move 59 = .ok (.iconst 1, 1) := by decide +kernel
theorem dX8_move_60 : decode cX8_move 60 = .ok (.goto 8, 3) := by decide +kernel
theorem dX8_move_63 : decode cX8_move 63 = .ok (.iconst 0, 1) := by decide +kernel
theorem dX8_move_64 : decode cX8_move 64 = .ok (.goto 4, 3) := by decide +kernel
theorem dX8_move_67 : decode cX8_move 67 = .ok (.iload_n 3, 1) := by decide +kernel
theorem dX8_move_68 : decode cX8_move 68 = .ok (.ireturn, 1) := by decide +kernel
theorem dX8_trace_0 : decode cX8_trace 0 = .ok (.iload_n 1, 1) := by decide +kernel
theorem dX8_trace_1 : decode cX8_trace 1 = .ok (.invokestatic 213, 3) := by decide +kernel
theorem dX8_trace_4 : decode cX8_trace 4 = .ok (.ifCond .eq 31, 3) := by decide +kernel
theorem dX8_trace_7 : decode cX8_trace 7 = .ok (.iload_n 2, 1) := by decide +kernel
theorem dX8_trace_8 : decode cX8_trace 8 = .ok (.i2l, 1) := by decide +kernel
theorem dX8_trace_9 : decode cX8_trace 9 = .ok (.lconst 0, 1) := by decide +kernel
theorem dX8_trace_10 : decode cX8_trace 10 = .ok (.lconst 1, 1) := by decide +kernel
theorem dX8_trace_11 : decode cX8_trace 11 = .ok (.invokestatic 56, 3) := by decide +kernel
theorem dX8_trace_14 : decode cX8_trace 14 = .ok (.ifCond .eq 21, 3) := by decide +kernel
theorem dX8_trace_17 : decode cX8_trace 17 = .ok (.iload_n 2, 1) := by decide +kernel
theorem dX8_trace_18 : decode cX8_trace 18 = .ok (.ifCond .ne 10, 3) := by decide +kernel
theorem dX8_trace_21 : decode cX8_trace 21 = .ok (.iload_n 1, 1) := by decide +kernel
theorem dX8_trace_22 : decode cX8_trace 22 = .ok (.invokestatic 150, 3) := by decide +kernel
theorem dX8_trace_25 : decode cX8_trace 25 = .ok (.goto 12, 3) := by decide +kernel
theorem dX8_trace_28 : decode cX8_trace 28 = .ok (.iload_n 1, 1) := by decide +kernel
theorem dX8_trace_29 : decode cX8_trace 29 = .ok (.invokestatic 121, 3) := by decide +kernel
theorem dX8_trace_32 : decode cX8_trace 32 = .ok (.goto 5, 3) := by decide +kernel
theorem dX8_trace_35 : decode cX8_trace 35 = .ok (.bipush (-9), 2) := by decide +kernel
theorem dX8_trace_37 : decode cX8_trace 37 = .ok (.ireturn, 1) := by decide +kernel
theorem dX8_takes_0 : decode cX8_takes 0 = .ok (.iload_n 1, 1) := by decide +kernel
theorem dX8_takes_1 : decode cX8_takes 1 = .ok (.invokestatic 213, 3) := by decide +kernel
theorem dX8_takes_4 : decode cX8_takes 4 = .ok (.ifCond .eq 20, 3) := by decide +kernel
theorem dX8_takes_7 : decode cX8_takes 7 = .ok (.aload_n 0, 1) := by decide +kernel
theorem dX8_takes_8 : decode cX8_takes 8 = .ok (.iload_n 2, 1) := by decide +kernel
theorem dX8_takes_9 : decode cX8_takes 9 = .ok (.invokevirtual 166, 3) := by decide +kernel
theorem dX8_takes_12 : decode cX8_takes 12 = .ok (.ifCond .eq 12, 3) := by decide +kernel
theorem dX8_takes_15 : decode cX8_takes 15 = .ok (.aload_n 0, 1) := by decide +kernel
theorem dX8_takes_16 : decode cX8_takes 16 = .ok (.iload_n 1, 1) := by decide +kernel
theorem dX8_takes_17 : decode cX8_takes 17 = .ok (.iload_n 2, 1) := by decide +kernel
theorem dX8_takes_18 : decode cX8_takes 18 = .ok (.invokevirtual 90, 3) := by decide +kernel
theorem dX8_takes_21 : decode cX8_takes 21 = .ok (.goto 4, 3) := by decide +kernel
theorem dX8_takes_24 : decode cX8_takes 24 = .ok (.iconst (-1), 1) := by decide +kernel
theorem dX8_takes_25 : decode cX8_takes 25 = .ok (.ireturn, 1) := by decide +kernel
theorem dX8_told_0 : decode cX8_told 0 = .ok (.aload_n 0, 1) := by decide +kernel
theorem dX8_told_1 : decode cX8_told 1 = .ok (.invokevirtual 219, 3) := by decide +kernel
theorem dX8_told_4 : decode cX8_told 4 = .ok (.iload_n 1, 1) := by decide +kernel
theorem dX8_told_5 : decode cX8_told 5 = .ok (.tableswitch 108 0 7 #[47, 54, 59, 64, 69, 82, 98, 103], 47) := by decide +kernel
theorem dX8_told_52 : decode cX8_told 52 = .ok (.aload_n 0, 1) := by decide +kernel
theorem dX8_told_53 : decode cX8_told 53 = .ok (.getfield 11, 3) := by decide +kernel
theorem dX8_told_56 : decode cX8_told 56 = .ok (.iconst 0, 1) := by decide +kernel
theorem dX8_told_57 : decode cX8_told 57 = .ok (.iaload, 1) := by decide +kernel
theorem dX8_told_58 : decode cX8_told 58 = .ok (.ireturn, 1) := by decide +kernel
theorem dX8_told_59 : decode cX8_told 59 = .ok (.aload_n 0, 1) := by decide +kernel
theorem dX8_told_60 : decode cX8_told 60 = .ok (.getfield 97, 3) := by decide +kernel
theorem dX8_told_63 : decode cX8_told 63 = .ok (.ireturn, 1) := by decide +kernel
theorem dX8_told_64 : decode cX8_told 64 = .ok (.aload_n 0, 1) := by decide +kernel
theorem dX8_told_65 : decode cX8_told 65 = .ok (.invokevirtual 222, 3) := by decide +kernel
theorem dX8_told_68 : decode cX8_told 68 = .ok (.ireturn, 1) := by decide +kernel
theorem dX8_told_69 : decode cX8_told 69 = .ok (.aload_n 0, 1) := by decide +kernel
theorem dX8_told_70 : decode cX8_told 70 = .ok (.invokevirtual 225, 3) := by decide +kernel
theorem dX8_told_73 : decode cX8_told 73 = .ok (.ireturn, 1) := by decide +kernel
theorem dX8_told_74 : decode cX8_told 74 = .ok (.aload_n 0, 1) := by decide +kernel
theorem dX8_told_75 : decode cX8_told 75 = .ok (.invokevirtual 228, 3) := by decide +kernel
theorem dX8_told_78 : decode cX8_told 78 = .ok (.ifCond .eq 7, 3) := by decide +kernel
theorem dX8_told_81 : decode cX8_told 81 = .ok (.iconst 1, 1) := by decide +kernel
theorem dX8_told_82 : decode cX8_told 82 = .ok (.goto 4, 3) := by decide +kernel
theorem dX8_told_85 : decode cX8_told 85 = .ok (.iconst 0, 1) := by decide +kernel
theorem dX8_told_86 : decode cX8_told 86 = .ok (.ireturn, 1) := by decide +kernel
theorem dX8_told_87 : decode cX8_told 87 = .ok (.aload_n 0, 1) := by decide +kernel
theorem dX8_told_88 : decode cX8_told 88 = .ok (.getfield 24, 3) := by decide +kernel
theorem dX8_told_91 : decode cX8_told 91 = .ok (.bipush 7, 2) := by decide +kernel
theorem dX8_told_93 : decode cX8_told 93 = .ok (.baload, 1) := by decide +kernel
theorem dX8_told_94 : decode cX8_told 94 = .ok (.ifCond .eq 7, 3) := by decide +kernel
theorem dX8_told_97 : decode cX8_told 97 = .ok (.iconst 1, 1) := by decide +kernel
theorem dX8_told_98 : decode cX8_told 98 = .ok (.goto 4, 3) := by decide +kernel
theorem dX8_told_101 : decode cX8_told 101 = .ok (.iconst 0, 1) := by decide +kernel
theorem dX8_told_102 : decode cX8_told 102 = .ok (.ireturn, 1) := by decide +kernel
theorem dX8_told_103 : decode cX8_told 103 = .ok (.aload_n 0, 1) := by decide +kernel
theorem dX8_told_104 : decode cX8_told 104 = .ok (.getfield 144, 3) := by decide +kernel
theorem dX8_told_107 : decode cX8_told 107 = .ok (.ireturn, 1) := by decide +kernel
theorem dX8_told_108 : decode cX8_told 108 = .ok (.aload_n 0, 1) := by decide +kernel
theorem dX8_told_109 : decode cX8_told 109 = .ok (.invokevirtual 231, 3) := by decide +kernel
theorem dX8_told_112 : decode cX8_told 112 = .ok (.ireturn, 1) := by decide +kernel
theorem dX8_told_113 : decode cX8_told 113 = .ok (.iconst (-1), 1) := by decide +kernel
theorem dX8_told_114 : decode cX8_told 114 = .ok (.ireturn, 1) := by decide +kernel
theorem dX8_group_0 : decode cX8_group 0 = .ok (.aload_n 0, 1) := by decide +kernel
theorem dX8_group_1 : decode cX8_group 1 = .ok (.invokevirtual 138, 3) := by decide +kernel
theorem dX8_group_4 : decode cX8_group 4 = .ok (.iload_n 1, 1) := by decide +kernel
theorem dX8_group_5 : decode cX8_group 5 = .ok (.ifCond .ge 7, 3) := by decide +kernel
theorem dX8_group_8 : decode cX8_group 8 = .ok (.iconst (-1), 1) := by decide +kernel
theorem dX8_group_9 : decode cX8_group 9 = .ok (.goto 22, 3) := by decide +kernel
theorem dX8_group_12 : decode cX8_group 12 = .ok (.iload_n 1, 1) := by decide +kernel
theorem dX8_group_13 : decode cX8_group 13 = .ok (.aload_n 0, 1) := by decide +kernel
theorem dX8_group_14 : decode cX8_group 14 = .ok (.getfield 97, 3) := by decide +kernel
theorem dX8_group_17 : decode cX8_group 17 = .ok (.if_icmp .ge 12, 3) := by decide +kernel
theorem dX8_group_20 : decode cX8_group 20 = .ok (.aload_n 0, 1) := by decide +kernel
theorem dX8_group_21 : decode cX8_group 21 = .ok (.getfield 21, 3) := by decide +kernel
theorem dX8_group_24 : decode cX8_group 24 = .ok (.iload_n 1, 1) := by decide +kernel
theorem dX8_group_25 : decode cX8_group 25 = .ok (.iaload, 1) := by decide +kernel
theorem dX8_group_26 : decode cX8_group 26 = .ok (.goto 5, 3) := by decide +kernel
theorem dX8_group_29 : decode cX8_group 29 = .ok (.bipush (-5), 2) := by decide +kernel
theorem dX8_group_31 : decode cX8_group 31 = .ok (.ireturn, 1) := by decide +kernel
theorem dX8_classOf_0 : decode cX8_classOf 0 = .ok (.iload_n 1, 1) := by decide +kernel
theorem dX8_classOf_1 : decode cX8_classOf 1 = .ok (.invokestatic 213, 3) := by decide +kernel
theorem dX8_classOf_4 : decode cX8_classOf 4 = .ok (.ifCond .eq 13, 3) := by decide +kernel
theorem dX8_classOf_7 : decode cX8_classOf 7 = .ok (.iload_n 2, 1) := by decide +kernel
theorem dX8_classOf_8 : decode cX8_classOf 8 = .ok (.i2l, 1) := by decide +kernel
theorem dX8_classOf_9 : decode cX8_classOf 9 = .ok (.lconst 0, 1) := by decide +kernel
theorem dX8_classOf_10 : decode cX8_classOf 10 = .ok (.lconst 1, 1) := by decide +kernel
theorem dX8_classOf_11 : decode cX8_classOf 11 = .ok (.invokestatic 56, 3) := by decide +kernel
theorem dX8_classOf_14 : decode cX8_classOf 14 = .ok (.ifCond .ne 5, 3) := by decide +kernel
theorem dX8_classOf_17 : decode cX8_classOf 17 = .ok (.iconst (-1), 1) := by decide +kernel
theorem dX8_classOf_18 : decode cX8_classOf 18 = .ok (.ireturn, 1) := by decide +kernel
theorem dX8_classOf_19 : decode cX8_classOf 19 = .ok (.aload_n 0, 1) := by decide +kernel
theorem dX8_classOf_20 : decode cX8_classOf 20 = .ok (.invokevirtual 138, 3) := by decide +kernel
theorem dX8_classOf_23 : decode cX8_classOf 23 = .ok (.aload_n 0, 1) := by decide +kernel
theorem dX8_classOf_24 : decode cX8_classOf 24 = .ok (.getfield 24, 3) := by decide +kernel
theorem dX8_classOf_27 : decode cX8_classOf 27 = .ok (.iload_n 1, 1) := by decide +kernel
theorem dX8_classOf_28 : decode cX8_classOf 28 = .ok (.baload, 1) := by decide +kernel
theorem dX8_classOf_29 : decode cX8_classOf 29 = .ok (.ifCond .ne 6, 3) := by decide +kernel
theorem dX8_classOf_32 : decode cX8_classOf 32 = .ok (.bipush (-3), 2) := by decide +kernel
theorem dX8_classOf_34 : decode cX8_classOf 34 = .ok (.ireturn, 1) := by decide +kernel
theorem dX8_classOf_35 : decode cX8_classOf 35 = .ok (.iload_n 2, 1) := by decide +kernel
theorem dX8_classOf_36 : decode cX8_classOf 36 = .ok (.ifCond .ne 11, 3) := by decide +kernel
theorem dX8_classOf_39 : decode cX8_classOf 39 = .ok (.aload_n 0, 1) := by decide +kernel
theorem dX8_classOf_40 : decode cX8_classOf 40 = .ok (.iload_n 1, 1) := by decide +kernel
theorem dX8_classOf_41 : decode cX8_classOf 41 = .ok (.invokevirtual 112, 3) := by decide +kernel
theorem dX8_classOf_44 : decode cX8_classOf 44 = .ok (.goto 8, 3) := by decide +kernel
theorem dX8_classOf_47 : decode cX8_classOf 47 = .ok (.aload_n 0, 1) := by decide +kernel
theorem dX8_classOf_48 : decode cX8_classOf 48 = .ok (.iload_n 1, 1) := by decide +kernel
theorem dX8_classOf_49 : decode cX8_classOf 49 = .ok (.invokevirtual 234, 3) := by decide +kernel
theorem dX8_classOf_52 : decode cX8_classOf 52 = .ok (.ireturn, 1) := by decide +kernel
theorem dX8_classAt_0 : decode cX8_classAt 0 = .ok (.iload_n 1, 1) := by decide +kernel
theorem dX8_classAt_1 : decode cX8_classAt 1 = .ok (.ifCond .ge 5, 3) := by decide +kernel
theorem dX8_classAt_4 : decode cX8_classAt 4 = .ok (.iconst (-1), 1) := by decide +kernel
theorem dX8_classAt_5 : decode cX8_classAt 5 = .ok (.ireturn, 1) := by decide +kernel
theorem dX8_classAt_6 : decode cX8_classAt 6 = .ok (.aload_n 0, 1) := by decide +kernel
theorem dX8_classAt_7 : decode cX8_classAt 7 = .ok (.invokevirtual 138, 3) := by decide +kernel
theorem dX8_classAt_10 : decode cX8_classAt 10 = .ok (.bipush (-5), 2) := by decide +kernel
theorem dX8_classAt_12 : decode cX8_classAt 12 = .ok (.aload_n 0, 1) := by decide +kernel
theorem dX8_classAt_13 : decode cX8_classAt 13 = .ok (.iload_n 1, 1) := by decide +kernel
theorem dX8_classAt_14 : decode cX8_classAt 14 = .ok (.invokevirtual 115, 3) := by decide +kernel
theorem dX8_classAt_17 : decode cX8_classAt 17 = .ok (.ifCond .ge 8, 3) := by decide +kernel
theorem dX8_classAt_20 : decode cX8_classAt 20 = .ok (.bipush (-5), 2) := by decide +kernel
theorem dX8_classAt_22 : decode cX8_classAt 22 = .ok (.goto 8, 3) := by decide +kernel
theorem dX8_classAt_25 : decode cX8_classAt 25 = .ok (.aload_n 0, 1) := by decide +kernel
theorem dX8_classAt_26 : decode cX8_classAt 26 = .ok (.iload_n 1, 1) := by decide +kernel
theorem dX8_classAt_27 : decode cX8_classAt 27 = .ok (.invokevirtual 115, 3) := by decide +kernel
theorem dX8_classAt_30 : decode cX8_classAt 30 = .ok (.invokestatic 237, 3) := by decide +kernel
theorem dX8_classAt_33 : decode cX8_classAt 33 = .ok (.ireturn, 1) := by decide +kernel
theorem dX8_motion_0 : decode cX8_motion 0 = .ok (.iload_n 1, 1) := by decide +kernel
theorem dX8_motion_1 : decode cX8_motion 1 = .ok (.i2l, 1) := by decide +kernel
theorem dX8_motion_2 : decode cX8_motion 2 = .ok (.lconst 0, 1) := by decide +kernel
theorem dX8_motion_3 : decode cX8_motion 3 = .ok (.ldc2_w 240, 3) := by decide +kernel
theorem dX8_motion_6 : decode cX8_motion 6 = .ok (.invokestatic 56, 3) := by decide +kernel
theorem dX8_motion_9 : decode cX8_motion 9 = .ok (.ifCond .eq 18, 3) := by decide +kernel
theorem dX8_motion_12 : decode cX8_motion 12 = .ok (.iload_n 2, 1) := by decide +kernel
theorem dX8_motion_13 : decode cX8_motion 13 = .ok (.invokestatic 213, 3) := by decide +kernel
theorem dX8_motion_16 : decode cX8_motion 16 = .ok (.ifCond .eq 11, 3) := by decide +kernel
theorem dX8_motion_19 : decode cX8_motion 19 = .ok (.aload_n 0, 1) := by decide +kernel
theorem dX8_motion_20 : decode cX8_motion 20 = .ok (.iload_n 2, 1) := by decide +kernel
theorem dX8_motion_21 : decode cX8_motion 21 = .ok (.invokevirtual 101, 3) := by decide +kernel
theorem dX8_motion_24 : decode cX8_motion 24 = .ok (.ifCond .le 7, 3) := by decide +kernel
theorem dX8_motion_27 : decode cX8_motion 27 = .ok (.sipush (-1000), 3) := by decide +kernel
theorem dX8_motion_30 : decode cX8_motion 30 = .ok (.ireturn, 1) := by decide +kernel
theorem dX8_motion_31 : decode cX8_motion 31 = .ok (.aload_n 0, 1) := by decide +kernel
theorem dX8_motion_32 : decode cX8_motion 32 = .ok (.iload_n 1, 1) := by decide +kernel
theorem dX8_motion_33 : decode cX8_motion 33 = .ok (.iload_n 2, 1) := by decide +kernel
theorem dX8_motion_34 : decode cX8_motion 34 = .ok (.invokevirtual 153, 3) := by decide +kernel
theorem dX8_motion_37 : decode cX8_motion 37 = .ok (.ireturn, 1) := by decide +kernel
theorem dX8_sign_0 : decode cX8_sign 0 = .ok (.iload_n 1, 1) := by decide +kernel
theorem dX8_sign_1 : decode cX8_sign 1 = .ok (.ifCond .lt 10, 3) := by decide +kernel
theorem dX8_sign_4 : decode cX8_sign 4 = .ok (.iload_n 2, 1) := by decide +kernel
theorem dX8_sign_5 : decode cX8_sign 5 = .ok (.invokestatic 213, 3) := by decide +kernel
theorem dX8_sign_8 : decode cX8_sign 8 = .ok (.ifCond .ne 5, 3) := by decide +kernel
theorem dX8_sign_11 : decode cX8_sign 11 = .ok (.iconst 0, 1) := by decide +kernel
theorem dX8_sign_12 : decode cX8_sign 12 = .ok (.ireturn, 1) := by decide +kernel
theorem dX8_sign_13 : decode cX8_sign 13 = .ok (.aload_n 0, 1) := by decide +kernel
theorem dX8_sign_14 : decode cX8_sign 14 = .ok (.invokevirtual 219, 3) := by decide +kernel
theorem dX8_sign_17 : decode cX8_sign 17 = .ok (.iload_n 1, 1) := by decide +kernel
theorem dX8_sign_18 : decode cX8_sign 18 = .ok (.aload_n 0, 1) := by decide +kernel
theorem dX8_sign_19 : decode cX8_sign 19 = .ok (.getfield 144, 3) := by decide +kernel
theorem dX8_sign_22 : decode cX8_sign 22 = .ok (.if_icmp .ge 26, 3) := by decide +kernel
theorem dX8_sign_25 : decode cX8_sign 25 = .ok (.aload_n 0, 1) := by decide +kernel
theorem dX8_sign_26 : decode cX8_sign 26 = .ok (.getfield 24, 3) := by decide +kernel
theorem dX8_sign_29 : decode cX8_sign 29 = .ok (.iload_n 2, 1) := by decide +kernel
theorem dX8_sign_30 : decode cX8_sign 30 = .ok (.baload, 1) := by decide +kernel
theorem dX8_sign_31 : decode cX8_sign 31 = .ok (.ifCond .eq 17, 3) := by decide +kernel
theorem dX8_sign_34 : decode cX8_sign 34 = .ok (.aload_n 0, 1) := by decide +kernel
theorem dX8_sign_35 : decode cX8_sign 35 = .ok (.getfield 37, 3) := by decide +kernel
theorem dX8_sign_38 : decode cX8_sign 38 = .ok (.bipush 48, 2) := by decide +kernel
theorem dX8_sign_40 : decode cX8_sign 40 = .ok (.iload_n 1, 1) := by decide +kernel
theorem dX8_sign_41 : decode cX8_sign 41 = .ok (.imul, 1) := by decide +kernel
theorem dX8_sign_42 : decode cX8_sign 42 = .ok (.iload_n 2, 1) := by decide +kernel
theorem dX8_sign_43 : decode cX8_sign 43 = .ok (.iadd, 1) := by decide +kernel
theorem dX8_sign_44 : decode cX8_sign 44 = .ok (.iaload, 1) := by decide +kernel
theorem dX8_sign_45 : decode cX8_sign 45 = .ok (.goto 4, 3) := by decide +kernel
theorem dX8_sign_48 : decode cX8_sign 48 = .ok (.iconst 0, 1) := by decide +kernel
theorem dX8_sign_49 : decode cX8_sign 49 = .ok (.ireturn, 1) := by decide +kernel
theorem dX8_has_0 : decode cX8_has 0 = .ok (.aload_n 0, 1) := by decide +kernel
theorem dX8_has_1 : decode cX8_has 1 = .ok (.invokevirtual 219, 3) := by decide +kernel
theorem dX8_has_4 : decode cX8_has 4 = .ok (.iload_n 1, 1) := by decide +kernel
theorem dX8_has_5 : decode cX8_has 5 = .ok (.i2l, 1) := by decide +kernel
theorem dX8_has_6 : decode cX8_has 6 = .ok (.lconst 0, 1) := by decide +kernel
theorem dX8_has_7 : decode cX8_has 7 = .ok (.ldc2_w 240, 3) := by decide +kernel
theorem dX8_has_10 : decode cX8_has 10 = .ok (.invokestatic 56, 3) := by decide +kernel
theorem dX8_has_13 : decode cX8_has 13 = .ok (.ifCond .eq 28, 3) := by decide +kernel
theorem dX8_has_16 : decode cX8_has 16 = .ok (.iload_n 2, 1) := by decide +kernel
theorem dX8_has_17 : decode cX8_has 17 = .ok (.i2l, 1) := by decide +kernel
theorem dX8_has_18 : decode cX8_has 18 = .ok (.lconst 0, 1) := by decide +kernel
theorem dX8_has_19 : decode cX8_has 19 = .ok (.aload_n 0, 1) := by decide +kernel
theorem dX8_has_20 : decode cX8_has 20 = .ok (.getfield 144, 3) := by decide +kernel
theorem dX8_has_23 : decode cX8_has 23 = .ok (.iconst 1, 1) := by decide +kernel
theorem dX8_has_24 : decode cX8_has 24 = .ok (.isub, 1) := by decide +kernel
theorem dX8_has_25 : decode cX8_has 25 = .ok (.i2l, 1) := by decide +kernel
theorem dX8_has_26 : decode cX8_has 26 = .ok (.invokestatic 56, 3) := by decide +kernel
theorem dX8_has_29 : decode cX8_has 29 = .ok (.ifCond .eq 12, 3) := by decide +kernel
theorem dX8_has_32 : decode cX8_has 32 = .ok (.aload_n 0, 1) := by decide +kernel
theorem dX8_has_33 : decode cX8_has 33 = .ok (.iload_n 1, 1) := by decide +kernel
theorem dX8_has_34 : decode cX8_has 34 = .ok (.iload_n 2, 1) := by decide +kernel
theorem dX8_has_35 : decode cX8_has 35 = .ok (.invokevirtual 242, 3) := by decide +kernel
theorem dX8_has_38 : decode cX8_has 38 = .ok (.goto 6, 3) := by decide +kernel
theorem dX8_has_41 : decode cX8_has 41 = .ok (.sipush (-1000), 3) := by decide +kernel
theorem dX8_has_44 : decode cX8_has 44 = .ok (.ireturn, 1) := by decide +kernel
theorem dX8_active_0 : decode cX8_active 0 = .ok (.iload_n 1, 1) := by decide +kernel
theorem dX8_active_1 : decode cX8_active 1 = .ok (.i2l, 1) := by decide +kernel
theorem dX8_active_2 : decode cX8_active 2 = .ok (.lconst 0, 1) := by decide +kernel
theorem dX8_active_3 : decode cX8_active 3 = .ok (.ldc2_w 245, 3) := by decide +kernel
theorem dX8_active_6 : decode cX8_active 6 = .ok (.invokestatic 56, 3) := by decide +kernel
theorem dX8_active_9 : decode cX8_active 9 = .ok (.ifCond .ne 5, 3) := by decide +kernel
theorem dX8_active_12 : decode cX8_active 12 = .ok (.iconst (-1), 1) := by decide +kernel
theorem dX8_active_13 : decode cX8_active 13 = .ok (.ireturn, 1) := by decide +kernel
theorem dX8_active_14 : decode cX8_active 14 = .ok (.aload_n 0, 1) := by decide +kernel
theorem dX8_active_15 : decode cX8_active 15 = .ok (.invokevirtual 219, 3) := by decide +kernel
theorem dX8_active_18 : decode cX8_active 18 = .ok (.iconst 0, 1) := by decide +kernel
theorem dX8_active_19 : decode cX8_active 19 = .ok (.istore_n 2, 1) := by decide +kernel
theorem dX8_active_20 : decode cX8_active 20 = .ok (.iconst 0, 1) := by decide +kernel
theorem dX8_active_21 : decode cX8_active 21 = .ok (.istore_n 3, 1) := by decide +kernel
theorem dX8_active_22 : decode cX8_active 22 = .ok (.iload_n 3, 1) := by decide +kernel
theorem dX8_active_23 : decode cX8_active 23 = .ok (.aload_n 0, 1) := by decide +kernel
theorem dX8_active_24 : decode cX8_active 24 = .ok (.getfield 144, 3) := by decide +kernel
theorem dX8_active_27 : decode cX8_active 27 = .ok (.if_icmp .ge 86, 3) := by decide +kernel
theorem dX8_active_30 : decode cX8_active 30 = .ok (.aload_n 0, 1) := by decide +kernel
theorem dX8_active_31 : decode cX8_active 31 = .ok (.iconst 2, 1) := by decide +kernel
theorem dX8_active_32 : decode cX8_active 32 = .ok (.iload_n 3, 1) := by decide +kernel
theorem dX8_active_33 : decode cX8_active 33 = .ok (.invokevirtual 242, 3) := by decide +kernel
theorem dX8_active_36 : decode cX8_active 36 = .ok (.ifCond .le 7, 3) := by decide +kernel
theorem dX8_active_39 : decode cX8_active 39 = .ok (.iconst 1, 1) := by decide +kernel
theorem dX8_active_40 : decode cX8_active 40 = .ok (.goto 4, 3) := by decide +kernel
theorem dX8_active_43 : decode cX8_active 43 = .ok (.iconst 0, 1) := by decide +kernel
theorem dX8_active_44 : decode cX8_active 44 = .ok (.istore 4, 2) := by decide +kernel
theorem dX8_active_46 : decode cX8_active 46 = .ok (.aload_n 0, 1) := by decide +kernel
theorem dX8_active_47 : decode cX8_active 47 = .ok (.iconst 5, 1) := by decide +kernel
theorem dX8_active_48 : decode cX8_active 48 = .ok (.iload_n 3, 1) := by decide +kernel
theorem dX8_active_49 : decode cX8_active 49 = .ok (.invokevirtual 242, 3) := by decide +kernel
theorem dX8_active_52 : decode cX8_active 52 = .ok (.ifCond .le 7, 3) := by decide +kernel
theorem dX8_active_55 : decode cX8_active 55 = .ok (.iconst 1, 1) := by decide +kernel
theorem dX8_active_56 : decode cX8_active 56 = .ok (.goto 4, 3) := by decide +kernel
theorem dX8_active_59 : decode cX8_active 59 = .ok (.iconst 0, 1) := by decide +kernel
theorem dX8_active_60 : decode cX8_active 60 = .ok (.istore 5, 2) := by decide +kernel
theorem dX8_active_62 : decode cX8_active 62 = .ok (.iload_n 2, 1) := by decide +kernel
theorem dX8_active_63 : decode cX8_active 63 = .ok (.iload_n 1, 1) := by decide +kernel
theorem dX8_active_64 : decode cX8_active 64 = .ok (.ifCond .ne 11, 3) := by decide +kernel
theorem dX8_active_67 : decode cX8_active 67 = .ok (.iload 4, 2) := by decide +kernel
theorem dX8_active_69 : decode cX8_active 69 = .ok (.ifCond .eq 35, 3) := by decide +kernel
theorem dX8_active_72 : decode cX8_active 72 = .ok (.goto 26, 3) := by decide +kernel
theorem dX8_active_75 : decode cX8_active 75 = .ok (.iload_n 1, 1) := by decide +kernel
theorem dX8_active_76 : decode cX8_active 76 = .ok (.iconst 1, 1) := by decide +kernel
theorem dX8_active_77 : decode cX8_active 77 = .ok (.if_icmp .ne 11, 3) := by decide +kernel
theorem dX8_active_80 : decode cX8_active 80 = .ok (.iload 5, 2) := by decide +kernel
theorem dX8_active_82 : decode cX8_active 82 = .ok (.ifCond .eq 22, 3) := by decide +kernel
theorem dX8_active_85 : decode cX8_active 85 = .ok (.goto 13, 3) := by decide +kernel
theorem dX8_active_88 : decode cX8_active 88 = .ok (.iload 4, 2) := by decide +kernel
theorem dX8_active_90 : decode cX8_active 90 = .ok (.ifCond .ne 14, 3) := by decide +kernel
theorem dX8_active_93 : decode cX8_active 93 = .ok (.iload 5, 2) := by decide +kernel
theorem dX8_active_95 : decode cX8_active 95 = .ok (.ifCond .ne 9, 3) := by decide +kernel
theorem dX8_active_98 : decode cX8_active 98 = .ok (.iconst 1, 1) := by decide +kernel
theorem dX8_active_99 : decode cX8_active 99 = .ok (.iload_n 3, 1) := by decide +kernel
theorem dX8_active_100 : decode cX8_active 100 = .ok (.ishl, 1) := by decide +kernel
theorem dX8_active_101 : decode cX8_active 101 = .ok (.goto 4, 3) := by decide +kernel
theorem dX8_active_104 : decode cX8_active 104 = .ok (.iconst 0, 1) := by decide +kernel
theorem dX8_active_105 : decode cX8_active 105 = .ok (.ior, 1) := by decide +kernel
theorem dX8_active_106 : decode cX8_active 106 = .ok (.istore_n 2, 1) := by decide +kernel
theorem dX8_active_107 : decode cX8_active 107 = .ok (.iinc 3 1, 3) := by decide +kernel
theorem dX8_active_110 : decode cX8_active 110 = .ok (.goto (-88), 3) := by decide +kernel
theorem dX8_active_113 : decode cX8_active 113 = .ok (.iload_n 2, 1) := by decide +kernel
theorem dX8_active_114 : decode cX8_active 114 = .ok (.ireturn, 1) := by decide +kernel
theorem dX8_see_0 : decode cX8_see 0 = .ok (.iload_n 1, 1) := by decide +kernel
theorem dX8_see_1 : decode cX8_see 1 = .ok (.iconst (-1), 1) := by decide +kernel
theorem dX8_see_2 : decode cX8_see 2 = .ok (.if_icmp .ne 13, 3) := by decide +kernel
theorem dX8_see_5 : decode cX8_see 5 = .ok (.aload_n 0, 1) := by decide +kernel
theorem dX8_see_6 : decode cX8_see 6 = .ok (.getfield 11, 3) := by decide +kernel
theorem dX8_see_9 : decode cX8_see 9 = .ok (.bipush 33, 2) := by decide +kernel
theorem dX8_see_11 : decode cX8_see 11 = .ok (.iconst 0, 1) := by decide +kernel
theorem dX8_see_12 : decode cX8_see 12 = .ok (.iastore, 1) := by decide +kernel
theorem dX8_see_13 : decode cX8_see 13 = .ok (.iconst 0, 1) := by decide +kernel
theorem dX8_see_14 : decode cX8_see 14 = .ok (.ireturn, 1) := by decide +kernel
theorem dX8_see_15 : decode cX8_see 15 = .ok (.iload_n 1, 1) := by decide +kernel
theorem dX8_see_16 : decode cX8_see 16 = .ok (.invokestatic 213, 3) := by decide +kernel
theorem dX8_see_19 : decode cX8_see 19 = .ok (.ifCond .ne 5, 3) := by decide +kernel
theorem dX8_see_22 : decode cX8_see 22 = .ok (.iconst (-1), 1) := by decide +kernel
theorem dX8_see_23 : decode cX8_see 23 = .ok (.ireturn, 1) := by decide +kernel
theorem dX8_see_24 : decode cX8_see 24 = .ok (.aload_n 0, 1) := by decide +kernel
theorem dX8_see_25 : decode cX8_see 25 = .ok (.getfield 11, 3) := by decide +kernel
theorem dX8_see_28 : decode cX8_see 28 = .ok (.bipush 33, 2) := by decide +kernel
theorem dX8_see_30 : decode cX8_see 30 = .ok (.iaload, 1) := by decide +kernel
theorem dX8_see_31 : decode cX8_see 31 = .ok (.iconst 5, 1) := by decide +kernel
theorem dX8_see_32 : decode cX8_see 32 = .ok (.if_icmp .ne 6, 3) := by decide +kernel
theorem dX8_see_35 : decode cX8_see 35 = .ok (.bipush (-4), 2) := by decide +kernel
theorem dX8_see_37 : decode cX8_see 37 = .ok (.ireturn, 1) := by decide +kernel
theorem dX8_see_38 : decode cX8_see 38 = .ok (.bipush 34, 2) := by decide +kernel
theorem dX8_see_40 : decode cX8_see 40 = .ok (.iconst 2, 1) := by decide +kernel
theorem dX8_see_41 : decode cX8_see 41 = .ok (.aload_n 0, 1) := by decide +kernel
theorem dX8_see_42 : decode cX8_see 42 = .ok (.getfield 11, 3) := by decide +kernel
theorem dX8_see_45 : decode cX8_see 45 = .ok (.bipush 33, 2) := by decide +kernel
theorem dX8_see_47 : decode cX8_see 47 = .ok (.iaload, 1) := by decide +kernel
theorem dX8_see_48 : decode cX8_see 48 = .ok (.imul, 1) := by decide +kernel
theorem dX8_see_49 : decode cX8_see 49 = .ok (.iadd, 1) := by decide +kernel
theorem dX8_see_50 : decode cX8_see 50 = .ok (.istore_n 3, 1) := by decide +kernel
theorem dX8_see_51 : decode cX8_see 51 = .ok (.aload_n 0, 1) := by decide +kernel
theorem dX8_see_52 : decode cX8_see 52 = .ok (.getfield 11, 3) := by decide +kernel
theorem dX8_see_55 : decode cX8_see 55 = .ok (.iload_n 3, 1) := by decide +kernel
theorem dX8_see_56 : decode cX8_see 56 = .ok (.iload_n 1, 1) := by decide +kernel
theorem dX8_see_57 : decode cX8_see 57 = .ok (.iastore, 1) := by decide +kernel
theorem dX8_see_58 : decode cX8_see 58 = .ok (.aload_n 0, 1) := by decide +kernel
theorem dX8_see_59 : decode cX8_see 59 = .ok (.getfield 11, 3) := by decide +kernel
theorem dX8_see_62 : decode cX8_see 62 = .ok (.iload_n 3, 1) := by decide +kernel
theorem dX8_see_63 : decode cX8_see 63 = .ok (.iconst 1, 1) := by decide +kernel
theorem dX8_see_64 : decode cX8_see 64 = .ok (.iadd, 1) := by decide +kernel
theorem dX8_see_65 : decode cX8_see 65 = .ok (.iload_n 2, 1) := by decide +kernel
theorem dX8_see_66 : decode cX8_see 66 = .ok (.ifCond .eq 7, 3) := by decide +kernel
theorem dX8_see_69 : decode cX8_see 69 = .ok (.iconst 1, 1) := by decide +kernel
theorem dX8_see_70 : decode cX8_see 70 = .ok (.goto 4, 3) := by decide +kernel
theorem dX8_see_73 : decode cX8_see 73 = .ok (.iconst 0, 1) := by decide +kernel
theorem dX8_see_74 : decode cX8_see 74 = .ok (.iastore, 1) := by decide +kernel
theorem dX8_see_75 : decode cX8_see 75 = .ok (.aload_n 0, 1) := by decide +kernel
theorem dX8_see_76 : decode cX8_see 76 = .ok (.getfield 11, 3) := by decide +kernel
theorem dX8_see_79 : decode cX8_see 79 = .ok (.bipush 33, 2) := by decide +kernel
theorem dX8_see_81 : decode cX8_see 81 = .ok (.dup2, 1) := by decide +kernel
theorem dX8_see_82 : decode cX8_see 82 = .ok (.iaload, 1) := by decide +kernel
theorem dX8_see_83 : decode cX8_see 83 = .ok (.iconst 1, 1) := by decide +kernel
theorem dX8_see_84 : decode cX8_see 84 = .ok (.iadd, 1) := by decide +kernel
theorem dX8_see_85 : decode cX8_see 85 = .ok (.iastore, 1) := by decide +kernel
theorem dX8_see_86 : decode cX8_see 86 = .ok (.aload_n 0, 1) := by decide +kernel
theorem dX8_see_87 : decode cX8_see 87 = .ok (.getfield 11, 3) := by decide +kernel
theorem dX8_see_90 : decode cX8_see 90 = .ok (.bipush 33, 2) := by decide +kernel
theorem dX8_see_92 : decode cX8_see 92 = .ok (.iaload, 1) := by decide +kernel
theorem dX8_see_93 : decode cX8_see 93 = .ok (.ireturn, 1) := by decide +kernel
theorem dX8_isSeen_0 : decode cX8_isSeen 0 = .ok (.iconst 1, 1) := by decide +kernel
theorem dX8_isSeen_1 : decode cX8_isSeen 1 = .ok (.istore_n 1, 1) := by decide +kernel
theorem dX8_isSeen_2 : decode cX8_isSeen 2 = .ok (.iconst 0, 1) := by decide +kernel
theorem dX8_isSeen_3 : decode cX8_isSeen 3 = .ok (.istore_n 2, 1) := by decide +kernel
theorem dX8_isSeen_4 : decode cX8_isSeen 4 = .ok (.iload_n 2, 1) := by decide +kernel
theorem dX8_isSeen_5 : decode cX8_isSeen 5 = .ok (.aload_n 0, 1) := by decide +kernel
theorem dX8_isSeen_6 : decode cX8_isSeen 6 = .ok (.getfield 11, 3) := by decide +kernel
theorem dX8_isSeen_9 : decode cX8_isSeen 9 = .ok (.bipush 33, 2) := by decide +kernel
theorem dX8_isSeen_11 : decode cX8_isSeen 11 = .ok (.iaload, 1) := by decide +kernel
theorem dX8_isSeen_12 : decode cX8_isSeen 12 = .ok (.if_icmp .ge 65, 3) := by decide +kernel
theorem dX8_isSeen_15 : decode cX8_isSeen 15 = .ok (.iload_n 1, 1) := by decide +kernel
theorem dX8_isSeen_16 : decode cX8_isSeen 16 = .ok (.aload_n 0, 1) := by decide +kernel
theorem dX8_isSeen_17 : decode cX8_isSeen 17 = .ok (.aload_n 0, 1) := by decide +kernel
theorem dX8_isSeen_18 : decode cX8_isSeen 18 = .ok (.getfield 11, 3) := by decide +kernel
theorem dX8_isSeen_21 : decode cX8_isSeen 21 = .ok (.bipush 34, 2) := by decide +kernel
theorem dX8_isSeen_23 : decode cX8_isSeen 23 = .ok (.iconst 2, 1) := by decide +kernel
theorem dX8_isSeen_24 : decode cX8_isSeen 24 = .ok (.iload_n 2, 1) := by decide +kernel
theorem dX8_isSeen_25 : decode cX8_isSeen 25 = .ok (.imul, 1) := by decide +kernel
theorem dX8_isSeen_26 : decode cX8_isSeen 26 = .ok (.iadd, 1) := by decide +kernel
theorem dX8_isSeen_27 : decode cX8_isSeen 27 = .ok (.iaload, 1) := by decide +kernel
theorem dX8_isSeen_28 : decode cX8_isSeen 28 = .ok (.invokevirtual 101, 3) := by decide +kernel
theorem dX8_isSeen_31 : decode cX8_isSeen 31 = .ok (.ifCond .ne 7, 3) := by decide +kernel
theorem dX8_isSeen_34 : decode cX8_isSeen 34 = .ok (.iconst 1, 1) := by decide +kernel
theorem dX8_isSeen_35 : decode cX8_isSeen 35 = .ok (.goto 4, 3) := by decide +kernel
theorem dX8_isSeen_38 : decode cX8_isSeen 38 = .ok (.iconst 0, 1) := by decide +kernel
theorem dX8_isSeen_39 : decode cX8_isSeen 39 = .ok (.aload_n 0, 1) := by decide +kernel
theorem dX8_isSeen_40 : decode cX8_isSeen 40 = .ok (.getfield 11, 3) := by decide +kernel
theorem dX8_isSeen_43 : decode cX8_isSeen 43 = .ok (.bipush 34, 2) := by decide +kernel
theorem dX8_isSeen_45 : decode cX8_isSeen 45 = .ok (.iconst 2, 1) := by decide +kernel
theorem dX8_isSeen_46 : decode cX8_isSeen 46 = .ok (.iload_n 2, 1) := by decide +kernel
theorem dX8_isSeen_47 : decode cX8_isSeen 47 = .ok (.imul, 1) := by decide +kernel
theorem dX8_isSeen_48 : decode cX8_isSeen 48 = .ok (.iadd, 1) := by decide +kernel
theorem dX8_isSeen_49 : decode cX8_isSeen 49 = .ok (.iconst 1, 1) := by decide +kernel
theorem dX8_isSeen_50 : decode cX8_isSeen 50 = .ok (.iadd, 1) := by decide +kernel
theorem dX8_isSeen_51 : decode cX8_isSeen 51 = .ok (.iaload, 1) := by decide +kernel
theorem dX8_isSeen_52 : decode cX8_isSeen 52 = .ok (.iconst 1, 1) := by decide +kernel
theorem dX8_isSeen_53 : decode cX8_isSeen 53 = .ok (.if_icmp .ne 7, 3) := by decide +kernel
theorem dX8_isSeen_56 : decode cX8_isSeen 56 = .ok (.iconst 1, 1) := by decide +kernel
theorem dX8_isSeen_57 : decode cX8_isSeen 57 = .ok (.goto 4, 3) := by decide +kernel
theorem dX8_isSeen_60 : decode cX8_isSeen 60 = .ok (.iconst 0, 1) := by decide +kernel
theorem dX8_isSeen_61 : decode cX8_isSeen 61 = .ok (.if_icmp .ne 7, 3) := by decide +kernel
theorem dX8_isSeen_64 : decode cX8_isSeen 64 = .ok (.iconst 1, 1) := by decide +kernel
theorem dX8_isSeen_65 : decode cX8_isSeen 65 = .ok (.goto 4, 3) := by decide +kernel
theorem dX8_isSeen_68 : decode cX8_isSeen 68 = .ok (.iconst 0, 1) := by decide +kernel
theorem dX8_isSeen_69 : decode cX8_isSeen 69 = .ok (.iand, 1) := by decide +kernel
theorem dX8_isSeen_70 : decode cX8_isSeen 70 = .ok (.istore_n 1, 1) := by decide +kernel
theorem dX8_isSeen_71 : decode cX8_isSeen 71 = .ok (.iinc 2 1, 3) := by decide +kernel
theorem dX8_isSeen_74 : decode cX8_isSeen 74 = .ok (.goto (-70), 3) := by decide +kernel
theorem dX8_isSeen_77 : decode cX8_isSeen 77 = .ok (.iload_n 1, 1) := by decide +kernel
theorem dX8_isSeen_78 : decode cX8_isSeen 78 = .ok (.ireturn, 1) := by decide +kernel
theorem dX8_fits_0 : decode cX8_fits 0 = .ok (.aload_n 0, 1) := by decide +kernel
theorem dX8_fits_1 : decode cX8_fits 1 = .ok (.iload_n 1, 1) := by decide +kernel
theorem dX8_fits_2 : decode cX8_fits 2 = .ok (.invokevirtual 166, 3) := by decide +kernel
theorem dX8_fits_5 : decode cX8_fits 5 = .ok (.ifCond .eq 13, 3) := by decide +kernel
theorem dX8_fits_8 : decode cX8_fits 8 = .ok (.iload_n 2, 1) := by decide +kernel
theorem dX8_fits_9 : decode cX8_fits 9 = .ok (.i2l, 1) := by decide +kernel
theorem dX8_fits_10 : decode cX8_fits 10 = .ok (.lconst 0, 1) := by decide +kernel
theorem dX8_fits_11 : decode cX8_fits 11 = .ok (.lconst 1, 1) := by decide +kernel
theorem dX8_fits_12 : decode cX8_fits 12 = .ok (.invokestatic 56, 3) := by decide +kernel
theorem dX8_fits_15 : decode cX8_fits 15 = .ok (.ifCond .ne 5, 3) := by decide +kernel
theorem dX8_fits_18 : decode cX8_fits 18 = .ok (.iconst (-1), 1) := by decide +kernel
theorem dX8_fits_19 : decode cX8_fits 19 = .ok (.ireturn, 1) := by decide +kernel
theorem dX8_fits_20 : decode cX8_fits 20 = .ok (.iconst 1, 1) := by decide +kernel
theorem dX8_fits_21 : decode cX8_fits 21 = .ok (.iconst 4, 1) := by decide +kernel
theorem dX8_fits_22 : decode cX8_fits 22 = .ok (.iload_n 1, 1) := by decide +kernel
theorem dX8_fits_23 : decode cX8_fits 23 = .ok (.imul, 1) := by decide +kernel
theorem dX8_fits_24 : decode cX8_fits 24 = .ok (.iadd, 1) := by decide +kernel
theorem dX8_fits_25 : decode cX8_fits 25 = .ok (.iconst 3, 1) := by decide +kernel
theorem dX8_fits_26 : decode cX8_fits 26 = .ok (.iadd, 1) := by decide +kernel
theorem dX8_fits_27 : decode cX8_fits 27 = .ok (.istore_n 3, 1) := by decide +kernel
theorem dX8_fits_28 : decode cX8_fits 28 = .ok (.aload_n 0, 1) := by decide +kernel
theorem dX8_fits_29 : decode cX8_fits 29 = .ok (.getfield 11, 3) := by decide +kernel
theorem dX8_fits_32 : decode cX8_fits 32 = .ok (.iload_n 3, 1) := by decide +kernel
theorem dX8_fits_33 : decode cX8_fits 33 = .ok (.iaload, 1) := by decide +kernel
theorem dX8_fits_34 : decode cX8_fits 34 = .ok (.istore 4, 2) := by decide +kernel
theorem dX8_fits_36 : decode cX8_fits 36 = .ok (.iconst 0, 1) := by decide +kernel
theorem dX8_fits_37 : decode cX8_fits 37 = .ok (.istore 5, 2) := by decide +kernel
theorem dX8_fits_39 : decode cX8_fits 39 = .ok (.bipush (-5), 2) := by decide +kernel
theorem dX8_fits_41 : decode cX8_fits 41 = .ok (.istore 6, 2) := by decide +kernel
theorem dX8_fits_43 : decode cX8_fits 43 = .ok (.iconst 4, 1) := by decide +kernel
theorem dX8_fits_44 : decode cX8_fits 44 = .ok (.istore 7, 2) := by decide +kernel
theorem dX8_fits_46 : decode cX8_fits 46 = .ok (.iload 7, 2) := by decide +kernel
theorem dX8_fits_48 : decode cX8_fits 48 = .ok (.ifCond .lt 52, 3) := by decide +kernel
theorem dX8_fits_51 : decode cX8_fits 51 = .ok (.aload_n 0, 1) := by decide +kernel
theorem dX8_fits_52 : decode cX8_fits 52 = .ok (.getfield 11, 3) := by decide +kernel
theorem dX8_fits_55 : decode cX8_fits 55 = .ok (.iload_n 3, 1) := by decide +kernel
theorem dX8_fits_56 : decode cX8_fits 56 = .ok (.iload 7, 2) := by decide +kernel
theorem dX8_fits_58 : decode cX8_fits 58 = .ok (.iastore, 1) := by decide +kernel
theorem dX8_fits_59 : decode cX8_fits 59 = .ok (.aload_n 0, 1) := by decide +kernel
theorem dX8_fits_60 : decode cX8_fits 60 = .ok (.invokevirtual 247, 3) := by decide +kernel
theorem dX8_fits_63 : decode cX8_fits 63 = .ok (.istore 8, 2) := by decide +kernel
theorem dX8_fits_65 : decode cX8_fits 65 = .ok (.iload 5, 2) := by decide +kernel
theorem dX8_fits_67 : decode cX8_fits 67 = .ok (.iload 8, 2) := by decide +kernel
theorem dX8_fits_69 : decode cX8_fits 69 = .ok (.ifCond .eq 7, 3) := by decide +kernel
theorem dX8_fits_72 : decode cX8_fits 72 = .ok (.iconst 1, 1) := by decide +kernel
theorem dX8_fits_73 : decode cX8_fits 73 = .ok (.goto 4, 3) := by decide +kernel
theorem dX8_fits_76 : decode cX8_fits 76 = .ok (.iconst 0, 1) := by decide +kernel
theorem dX8_fits_77 : decode cX8_fits 77 = .ok (.iadd, 1) := by decide +kernel
theorem dX8_fits_78 : decode cX8_fits 78 = .ok (.istore 5, 2) := by decide +kernel
theorem dX8_fits_80 : decode cX8_fits 80 = .ok (.iload 8, 2) := by decide +kernel
theorem dX8_fits_82 : decode cX8_fits 82 = .ok (.ifCond .eq 8, 3) := by decide +kernel
theorem dX8_fits_85 : decode cX8_fits 85 = .ok (.iload 7, 2) := by decide +kernel
theorem dX8_fits_87 : decode cX8_fits 87 = .ok (.goto 5, 3) := by decide +kernel
theorem dX8_fits_90 : decode cX8_fits 90 = .ok (.iload 6, 2) := by decide +kernel
theorem dX8_fits_92 : decode cX8_fits 92 = .ok (.istore 6, 2) := by decide +kernel
theorem dX8_fits_94 : decode cX8_fits 94 = .ok (.iinc 7 (-1), 3) := by decide +kernel
theorem dX8_fits_97 : decode cX8_fits 97 = .ok (.goto (-51), 3) := by decide +kernel
theorem dX8_fits_100 : decode cX8_fits 100 = .ok (.aload_n 0, 1) := by decide +kernel
theorem dX8_fits_101 : decode cX8_fits 101 = .ok (.getfield 11, 3) := by decide +kernel
theorem dX8_fits_104 : decode cX8_fits 104 = .ok (.iload_n 3, 1) := by decide +kernel
theorem dX8_fits_105 : decode cX8_fits 105 = .ok (.iload 4, 2) := by decide +kernel
theorem dX8_fits_107 : decode cX8_fits 107 = .ok (.iastore, 1) := by decide +kernel
theorem dX8_fits_108 : decode cX8_fits 108 = .ok (.iload_n 2, 1) := by decide +kernel
theorem dX8_fits_109 : decode cX8_fits 109 = .ok (.ifCond .ne 8, 3) := by decide +kernel
theorem dX8_fits_112 : decode cX8_fits 112 = .ok (.iload 5, 2) := by decide +kernel
theorem dX8_fits_114 : decode cX8_fits 114 = .ok (.goto 5, 3) := by decide +kernel
theorem dX8_fits_117 : decode cX8_fits 117 = .ok (.iload 6, 2) := by decide +kernel
theorem dX8_fits_119 : decode cX8_fits 119 = .ok (.ireturn, 1) := by decide +kernel
theorem dX8_lowest_0 : decode cX8_lowest 0 = .ok (.lload_n 0, 1) := by decide +kernel
theorem dX8_lowest_1 : decode cX8_lowest 1 = .ok (.lstore 5, 2) := by decide +kernel
theorem dX8_lowest_3 : decode cX8_lowest 3 = .ok (.lload_n 2, 1) := by decide +kernel
theorem dX8_lowest_4 : decode cX8_lowest 4 = .ok (.lstore 7, 2) := by decide +kernel
theorem dX8_lowest_6 : decode cX8_lowest 6 = .ok (.lload 7, 2) := by decide +kernel
theorem dX8_lowest_8 : decode cX8_lowest 8 = .ok (.lconst 0, 1) := by decide +kernel
theorem dX8_lowest_9 : decode cX8_lowest 9 = .ok (.lcmp, 1) := by decide +kernel
theorem dX8_lowest_10 : decode cX8_lowest 10 = .ok (.ifCond .eq 21, 3) := by decide +kernel
theorem dX8_lowest_13 : decode cX8_lowest 13 = .ok (.lload 5, 2) := by decide +kernel
theorem dX8_lowest_15 : decode cX8_lowest 15 = .ok (.lload 7, 2) := by decide +kernel
theorem dX8_lowest_17 : decode cX8_lowest 17 = .ok (.lrem, 1) := by decide +kernel
theorem dX8_lowest_18 : decode cX8_lowest 18 = .ok (.lstore 9, 2) := by decide +kernel
theorem dX8_lowest_20 : decode cX8_lowest 20 = .ok (.lload 7, 2) := by decide +kernel
theorem dX8_lowest_22 : decode cX8_lowest 22 = .ok (.lstore 5, 2) := by decide +kernel
theorem dX8_lowest_24 : decode cX8_lowest 24 = .ok (.lload 9, 2) := by decide +kernel
theorem dX8_lowest_26 : decode cX8_lowest 26 = .ok (.lstore 7, 2) := by decide +kernel
theorem dX8_lowest_28 : decode cX8_lowest 28 = .ok (.goto (-22), 3) := by decide +kernel
theorem dX8_lowest_31 : decode cX8_lowest 31 = .ok (.iload 4, 2) := by decide +kernel
theorem dX8_lowest_33 : decode cX8_lowest 33 = .ok (.ifCond .ne 7, 3) := by decide +kernel
theorem dX8_lowest_36 : decode cX8_lowest 36 = .ok (.lload_n 0, 1) := by decide +kernel
theorem dX8_lowest_37 : decode cX8_lowest 37 = .ok (.goto 4, 3) := by decide +kernel
theorem dX8_lowest_40 : decode cX8_lowest 40 = .ok (.lload_n 2, 1) := by decide +kernel
theorem dX8_lowest_41 : decode cX8_lowest 41 = .ok (.lload 5, 2) := by decide +kernel
theorem dX8_lowest_43 : decode cX8_lowest 43 = .ok (.ldiv, 1) := by decide +kernel
theorem dX8_lowest_44 : decode cX8_lowest 44 = .ok (.lreturn, 1) := by decide +kernel
theorem dX8_odds_0 : decode cX8_odds 0 = .ok (.aload_n 0, 1) := by decide +kernel
theorem dX8_odds_1 : decode cX8_odds 1 = .ok (.iload_n 1, 1) := by decide +kernel
theorem dX8_odds_2 : decode cX8_odds 2 = .ok (.invokevirtual 166, 3) := by decide +kernel
theorem dX8_odds_5 : decode cX8_odds 5 = .ok (.ifCond .eq 25, 3) := by decide +kernel
theorem dX8_odds_8 : decode cX8_odds 8 = .ok (.iload_n 2, 1) := by decide +kernel
theorem dX8_odds_9 : decode cX8_odds 9 = .ok (.i2l, 1) := by decide +kernel
theorem dX8_odds_10 : decode cX8_odds 10 = .ok (.lconst 0, 1) := by decide +kernel
theorem dX8_odds_11 : decode cX8_odds 11 = .ok (.ldc2_w 185, 3) := by decide +kernel
theorem dX8_odds_14 : decode cX8_odds 14 = .ok (.invokestatic 56, 3) := by decide +kernel
theorem dX8_odds_17 : decode cX8_odds 17 = .ok (.ifCond .eq 13, 3) := by decide +kernel
theorem dX8_odds_20 : decode cX8_odds 20 = .ok (.iload_n 3, 1) := by decide +kernel
theorem dX8_odds_21 : decode cX8_odds 21 = .ok (.i2l, 1) := by decide +kernel
theorem dX8_odds_22 : decode cX8_odds 22 = .ok (.lconst 0, 1) := by decide +kernel
theorem dX8_odds_23 : decode cX8_odds 23 = .ok (.lconst 1, 1) := by decide +kernel
theorem dX8_odds_24 : decode cX8_odds 24 = .ok (.invokestatic 56, 3) := by decide +kernel
theorem dX8_odds_27 : decode cX8_odds 27 = .ok (.ifCond .ne 7, 3) := by decide +kernel
theorem dX8_odds_30 : decode cX8_odds 30 = .ok (.ldc2_w 250, 3) := by decide +kernel
theorem dX8_odds_33 : decode cX8_odds 33 = .ok (.lreturn, 1) := by decide +kernel
theorem dX8_odds_34 : decode cX8_odds 34 = .ok (.iconst 1, 1) := by decide +kernel
theorem dX8_odds_35 : decode cX8_odds 35 = .ok (.iconst 4, 1) := by decide +kernel
theorem dX8_odds_36 : decode cX8_odds 36 = .ok (.iload_n 1, 1) := by decide +kernel
theorem dX8_odds_37 : decode cX8_odds 37 = .ok (.imul, 1) := by decide +kernel
theorem dX8_odds_38 : decode cX8_odds 38 = .ok (.iadd, 1) := by decide +kernel
theorem dX8_odds_39 : decode cX8_odds 39 = .ok (.iconst 3, 1) := by decide +kernel
theorem dX8_odds_40 : decode cX8_odds 40 = .ok (.iadd, 1) := by decide +kernel
theorem dX8_odds_41 : decode cX8_odds 41 = .ok (.istore 4, 2) := by decide +kernel
theorem dX8_odds_43 : decode cX8_odds 43 = .ok (.aload_n 0, 1) := by decide +kernel
theorem dX8_odds_44 : decode cX8_odds 44 = .ok (.getfield 11, 3) := by decide +kernel
theorem dX8_odds_47 : decode cX8_odds 47 = .ok (.iload 4, 2) := by decide +kernel
theorem dX8_odds_49 : decode cX8_odds 49 = .ok (.iaload, 1) := by decide +kernel
theorem dX8_odds_50 : decode cX8_odds 50 = .ok (.istore 5, 2) := by decide +kernel
theorem dX8_odds_52 : decode cX8_odds 52 = .ok (.iconst 0, 1) := by decide +kernel
theorem dX8_odds_53 : decode cX8_odds 53 = .ok (.istore 6, 2) := by decide +kernel
theorem dX8_odds_55 : decode cX8_odds 55 = .ok (.iconst 0, 1) := by decide +kernel
theorem dX8_odds_56 : decode cX8_odds 56 = .ok (.istore 7, 2) := by decide +kernel
theorem dX8_odds_58 : decode cX8_odds 58 = .ok (.iload 7, 2) := by decide +kernel
theorem dX8_odds_60 : decode cX8_odds 60 = .ok (.iconst 4, 1) := by decide +kernel
theorem dX8_odds_61 : decode cX8_odds 61 = .ok (.if_icmp .gt 40, 3) := by decide +kernel
theorem dX8_odds_64 : decode cX8_odds 64 = .ok (.aload_n 0, 1) := by decide +kernel
theorem dX8_odds_65 : decode cX8_odds 65 = .ok (.getfield 11, 3) := by decide +kernel
theorem dX8_odds_68 : decode cX8_odds 68 = .ok (.iload 4, 2) := by decide +kernel
theorem dX8_odds_70 : decode cX8_odds 70 = .ok (.iload 7, 2) := by decide +kernel
theorem dX8_odds_72 : decode cX8_odds 72 = .ok (.iastore, 1) := by decide +kernel
theorem dX8_odds_73 : decode cX8_odds 73 = .ok (.aload_n 0, 1) := by decide +kernel
theorem dX8_odds_74 : decode cX8_odds 74 = .ok (.invokevirtual 138, 3) := by decide +kernel
theorem dX8_odds_77 : decode cX8_odds 77 = .ok (.iload 6, 2) := by decide +kernel
theorem dX8_odds_79 : decode cX8_odds 79 = .ok (.aload_n 0, 1) := by decide +kernel
theorem dX8_odds_80 : decode cX8_odds 80 = .ok (.getfield 97, 3) := by decide +kernel
theorem dX8_odds_83 : decode cX8_odds 83 = .ok (.iload_n 2, 1) := by decide +kernel
theorem dX8_odds_84 : decode cX8_odds 84 = .ok (.if_icmp .lt 7, 3) := by decide +kernel
theorem dX8_odds_87 : decode cX8_odds 87 = .ok (.iconst 1, 1) := by decide +kernel
theorem dX8_odds_88 : decode cX8_odds 88 = .ok (.goto 4, 3) := by decide +kernel
theorem dX8_odds_91 : decode cX8_odds 91 = .ok (.iconst 0, 1) := by decide +kernel
theorem dX8_odds_92 : decode cX8_odds 92 = .ok (.iadd, 1) := by decide +kernel
theorem dX8_odds_93 : decode cX8_odds 93 = .ok (.istore 6, 2) := by decide +kernel
theorem dX8_odds_95 : decode cX8_odds 95 = .ok (.iinc 7 1, 3) := by decide +kernel
theorem dX8_odds_98 : decode cX8_odds 98 = .ok (.goto (-40), 3) := by decide +kernel
theorem dX8_odds_101 : decode cX8_odds 101 = .ok (.aload_n 0, 1) := by decide +kernel
theorem dX8_odds_102 : decode cX8_odds 102 = .ok (.getfield 11, 3) := by decide +kernel
theorem dX8_odds_105 : decode cX8_odds 105 = .ok (.iload 4, 2) := by decide +kernel
theorem dX8_odds_107 : decode cX8_odds 107 = .ok (.iload 5, 2) := by decide +kernel
theorem dX8_odds_109 : decode cX8_odds 109 = .ok (.iastore, 1) := by decide +kernel
theorem dX8_odds_110 : decode cX8_odds 110 = .ok (.iload 6, 2) := by decide +kernel
theorem dX8_odds_112 : decode cX8_odds 112 = .ok (.i2l, 1) := by decide +kernel
theorem dX8_odds_113 : decode cX8_odds 113 = .ok (.ldc2_w 240, 3) := by decide +kernel
theorem dX8_odds_116 : decode cX8_odds 116 = .ok (.iload_n 3, 1) := by decide +kernel
theorem dX8_odds_117 : decode cX8_odds 117 = .ok (.invokestatic 252, 3) := by decide +kernel
theorem dX8_odds_120 : decode cX8_odds 120 = .ok (.lreturn, 1) := by decide +kernel
theorem dX8_mean_0 : decode cX8_mean 0 = .ok (.iload_n 1, 1) := by decide +kernel
theorem dX8_mean_1 : decode cX8_mean 1 = .ok (.i2l, 1) := by decide +kernel
theorem dX8_mean_2 : decode cX8_mean 2 = .ok (.lconst 0, 1) := by decide +kernel
theorem dX8_mean_3 : decode cX8_mean 3 = .ok (.lconst 1, 1) := by decide +kernel
theorem dX8_mean_4 : decode cX8_mean 4 = .ok (.invokestatic 56, 3) := by decide +kernel
theorem dX8_mean_7 : decode cX8_mean 7 = .ok (.ifCond .ne 7, 3) := by decide +kernel
theorem dX8_mean_10 : decode cX8_mean 10 = .ok (.ldc2_w 250, 3) := by decide +kernel
theorem dX8_mean_13 : decode cX8_mean 13 = .ok (.lreturn, 1) := by decide +kernel
theorem dX8_mean_14 : decode cX8_mean 14 = .ok (.aload_n 0, 1) := by decide +kernel
theorem dX8_mean_15 : decode cX8_mean 15 = .ok (.invokevirtual 138, 3) := by decide +kernel
theorem dX8_mean_18 : decode cX8_mean 18 = .ok (.iconst 0, 1) := by decide +kernel
theorem dX8_mean_19 : decode cX8_mean 19 = .ok (.istore_n 2, 1) := by decide +kernel
theorem dX8_mean_20 : decode cX8_mean 20 = .ok (.iconst 0, 1) := by decide +kernel
theorem dX8_mean_21 : decode cX8_mean 21 = .ok (.istore_n 3, 1) := by decide +kernel
theorem dX8_mean_22 : decode cX8_mean 22 = .ok (.iload_n 3, 1) := by decide +kernel
theorem dX8_mean_23 : decode cX8_mean 23 = .ok (.aload_n 0, 1) := by decide +kernel
theorem dX8_mean_24 : decode cX8_mean 24 = .ok (.getfield 97, 3) := by decide +kernel
theorem dX8_mean_27 : decode cX8_mean 27 = .ok (.if_icmp .ge 21, 3) := by decide +kernel
theorem dX8_mean_30 : decode cX8_mean 30 = .ok (.iload_n 2, 1) := by decide +kernel
theorem dX8_mean_31 : decode cX8_mean 31 = .ok (.aload_n 0, 1) := by decide +kernel
theorem dX8_mean_32 : decode cX8_mean 32 = .ok (.getfield 21, 3) := by decide +kernel
theorem dX8_mean_35 : decode cX8_mean 35 = .ok (.iload_n 3, 1) := by decide +kernel
theorem dX8_mean_36 : decode cX8_mean 36 = .ok (.iaload, 1) := by decide +kernel
theorem dX8_mean_37 : decode cX8_mean 37 = .ok (.invokestatic 216, 3) := by decide +kernel
theorem dX8_mean_40 : decode cX8_mean 40 = .ok (.iadd, 1) := by decide +kernel
theorem dX8_mean_41 : decode cX8_mean 41 = .ok (.istore_n 2, 1) := by decide +kernel
theorem dX8_mean_42 : decode cX8_mean 42 = .ok (.iinc 3 1, 3) := by decide +kernel
theorem dX8_mean_45 : decode cX8_mean 45 = .ok (.goto (-23), 3) := by decide +kernel
theorem dX8_mean_48 : decode cX8_mean 48 = .ok (.iload_n 2, 1) := by decide +kernel
theorem dX8_mean_49 : decode cX8_mean 49 = .ok (.i2l, 1) := by decide +kernel
theorem dX8_mean_50 : decode cX8_mean 50 = .ok (.aload_n 0, 1) := by decide +kernel
theorem dX8_mean_51 : decode cX8_mean 51 = .ok (.getfield 97, 3) := by decide +kernel
theorem dX8_mean_54 : decode cX8_mean 54 = .ok (.i2l, 1) := by decide +kernel
theorem dX8_mean_55 : decode cX8_mean 55 = .ok (.iload_n 1, 1) := by decide +kernel
theorem dX8_mean_56 : decode cX8_mean 56 = .ok (.invokestatic 252, 3) := by decide +kernel
theorem dX8_mean_59 : decode cX8_mean 59 = .ok (.lreturn, 1) := by decide +kernel
theorem dX8_mostOf_0 : decode cX8_mostOf 0 = .ok (.iload_n 0, 1) := by decide +kernel
theorem dX8_mostOf_1 : decode cX8_mostOf 1 = .ok (.ifCond .ne 8, 3) := by decide +kernel
theorem dX8_mostOf_4 : decode cX8_mostOf 4 = .ok (.bipush 7, 2) := by decide +kernel
theorem dX8_mostOf_6 : decode cX8_mostOf 6 = .ok (.goto 14, 3) := by decide +kernel
theorem dX8_mostOf_9 : decode cX8_mostOf 9 = .ok (.iload_n 0, 1) := by decide +kernel
theorem dX8_mostOf_10 : decode cX8_mostOf 10 = .ok (.iconst 2, 1) := by decide +kernel
theorem dX8_mostOf_11 : decode cX8_mostOf 11 = .ok (.if_icmp .ne 8, 3) := by decide +kernel
theorem dX8_mostOf_14 : decode cX8_mostOf 14 = .ok (.bipush 47, 2) := by decide +kernel
theorem dX8_mostOf_16 : decode cX8_mostOf 16 = .ok (.goto 4, 3) := by decide +kernel
theorem dX8_mostOf_19 : decode cX8_mostOf 19 = .ok (.iconst 4, 1) := by decide +kernel
theorem dX8_mostOf_20 : decode cX8_mostOf 20 = .ok (.ireturn, 1) := by decide +kernel
theorem dX8_event_0 : decode cX8_event 0 = .ok (.iload_n 1, 1) := by decide +kernel
theorem dX8_event_1 : decode cX8_event 1 = .ok (.iconst (-1), 1) := by decide +kernel
theorem dX8_event_2 : decode cX8_event 2 = .ok (.if_icmp .ne 13, 3) := by decide +kernel
theorem dX8_event_5 : decode cX8_event 5 = .ok (.aload_n 0, 1) := by decide +kernel
theorem dX8_event_6 : decode cX8_event 6 = .ok (.getfield 11, 3) := by decide +kernel
theorem dX8_event_9 : decode cX8_event 9 = .ok (.bipush 44, 2) := by decide +kernel
theorem dX8_event_11 : decode cX8_event 11 = .ok (.iconst 0, 1) := by decide +kernel
theorem dX8_event_12 : decode cX8_event 12 = .ok (.iastore, 1) := by decide +kernel
theorem dX8_event_13 : decode cX8_event 13 = .ok (.iconst 0, 1) := by decide +kernel
theorem dX8_event_14 : decode cX8_event 14 = .ok (.ireturn, 1) := by decide +kernel
theorem dX8_event_15 : decode cX8_event 15 = .ok (.iload_n 1, 1) := by decide +kernel
theorem dX8_event_16 : decode cX8_event 16 = .ok (.i2l, 1) := by decide +kernel
theorem dX8_event_17 : decode cX8_event 17 = .ok (.lconst 0, 1) := by decide +kernel
theorem dX8_event_18 : decode cX8_event 18 = .ok (.ldc2_w 158, 3) := by decide +kernel
theorem dX8_event_21 : decode cX8_event 21 = .ok (.invokestatic 56, 3) := by decide +kernel
theorem dX8_event_24 : decode cX8_event 24 = .ok (.ifCond .ne 5, 3) := by decide +kernel
theorem dX8_event_27 : decode cX8_event 27 = .ok (.iconst (-1), 1) := by decide +kernel
theorem dX8_event_28 : decode cX8_event 28 = .ok (.ireturn, 1) := by decide +kernel
theorem dX8_event_29 : decode cX8_event 29 = .ok (.iload_n 2, 1) := by decide +kernel
theorem dX8_event_30 : decode cX8_event 30 = .ok (.i2l, 1) := by decide +kernel
theorem dX8_event_31 : decode cX8_event 31 = .ok (.lconst 0, 1) := by decide +kernel
theorem dX8_event_32 : decode cX8_event 32 = .ok (.iload_n 1, 1) := by decide +kernel
theorem dX8_event_33 : decode cX8_event 33 = .ok (.invokestatic 256, 3) := by decide +kernel
theorem dX8_event_36 : decode cX8_event 36 = .ok (.i2l, 1) := by decide +kernel
theorem dX8_event_37 : decode cX8_event 37 = .ok (.invokestatic 56, 3) := by decide +kernel
theorem dX8_event_40 : decode cX8_event 40 = .ok (.ifCond .ne 6, 3) := by decide +kernel
theorem dX8_event_43 : decode cX8_event 43 = .ok (.bipush (-2), 2) := by decide +kernel
theorem dX8_event_45 : decode cX8_event 45 = .ok (.ireturn, 1) := by decide +kernel
theorem dX8_event_46 : decode cX8_event 46 = .ok (.aload_n 0, 1) := by decide +kernel
theorem dX8_event_47 : decode cX8_event 47 = .ok (.getfield 11, 3) := by decide +kernel
theorem dX8_event_50 : decode cX8_event 50 = .ok (.bipush 44, 2) := by decide +kernel
theorem dX8_event_52 : decode cX8_event 52 = .ok (.iaload, 1) := by decide +kernel
theorem dX8_event_53 : decode cX8_event 53 = .ok (.bipush 8, 2) := by decide +kernel
theorem dX8_event_55 : decode cX8_event 55 = .ok (.if_icmp .ne 6, 3) := by decide +kernel
theorem dX8_event_58 : decode cX8_event 58 = .ok (.bipush (-4), 2) := by decide +kernel
theorem dX8_event_60 : decode cX8_event 60 = .ok (.ireturn, 1) := by decide +kernel
theorem dX8_event_61 : decode cX8_event 61 = .ok (.bipush 45, 2) := by decide +kernel
theorem dX8_event_63 : decode cX8_event 63 = .ok (.iconst 2, 1) := by decide +kernel
theorem dX8_event_64 : decode cX8_event 64 = .ok (.aload_n 0, 1) := by decide +kernel
theorem dX8_event_65 : decode cX8_event 65 = .ok (.getfield 11, 3) := by decide +kernel
theorem dX8_event_68 : decode cX8_event 68 = .ok (.bipush 44, 2) := by decide +kernel
theorem dX8_event_70 : decode cX8_event 70 = .ok (.iaload, 1) := by decide +kernel
theorem dX8_event_71 : decode cX8_event 71 = .ok (.imul, 1) := by decide +kernel
theorem dX8_event_72 : decode cX8_event 72 = .ok (.iadd, 1) := by decide +kernel
theorem dX8_event_73 : decode cX8_event 73 = .ok (.istore_n 3, 1) := by decide +kernel
theorem dX8_event_74 : decode cX8_event 74 = .ok (.aload_n 0, 1) := by decide +kernel
theorem dX8_event_75 : decode cX8_event 75 = .ok (.getfield 11, 3) := by decide +kernel
theorem dX8_event_78 : decode cX8_event 78 = .ok (.iload_n 3, 1) := by decide +kernel
theorem dX8_event_79 : decode cX8_event 79 = .ok (.iload_n 1, 1) := by decide +kernel
theorem dX8_event_80 : decode cX8_event 80 = .ok (.iastore, 1) := by decide +kernel
theorem dX8_event_81 : decode cX8_event 81 = .ok (.aload_n 0, 1) := by decide +kernel
theorem dX8_event_82 : decode cX8_event 82 = .ok (.getfield 11, 3) := by decide +kernel
theorem dX8_event_85 : decode cX8_event 85 = .ok (.iload_n 3, 1) := by decide +kernel
theorem dX8_event_86 : decode cX8_event 86 = .ok (.iconst 1, 1) := by decide +kernel
theorem dX8_event_87 : decode cX8_event 87 = .ok (.iadd, 1) := by decide +kernel
theorem dX8_event_88 : decode cX8_event 88 = .ok (.iload_n 2, 1) := by decide +kernel
theorem dX8_event_89 : decode cX8_event 89 = .ok (.iastore, 1) := by decide +kernel
theorem dX8_event_90 : decode cX8_event 90 = .ok (.aload_n 0, 1) := by decide +kernel
theorem dX8_event_91 : decode cX8_event 91 = .ok (.getfield 11, 3) := by decide +kernel
theorem dX8_event_94 : decode cX8_event 94 = .ok (.bipush 44, 2) := by decide +kernel
theorem dX8_event_96 : decode cX8_event 96 = .ok (.dup2, 1) := by decide +kernel
theorem dX8_event_97 : decode cX8_event 97 = .ok (.iaload, 1) := by decide +kernel
theorem dX8_event_98 : decode cX8_event 98 = .ok (.iconst 1, 1) := by decide +kernel
theorem dX8_event_99 : decode cX8_event 99 = .ok (.iadd, 1) := by decide +kernel
theorem dX8_event_100 : decode cX8_event 100 = .ok (.iastore, 1) := by decide +kernel
theorem dX8_event_101 : decode cX8_event 101 = .ok (.aload_n 0, 1) := by decide +kernel
theorem dX8_event_102 : decode cX8_event 102 = .ok (.getfield 11, 3) := by decide +kernel
theorem dX8_event_105 : decode cX8_event 105 = .ok (.bipush 44, 2) := by decide +kernel
theorem dX8_event_107 : decode cX8_event 107 = .ok (.iaload, 1) := by decide +kernel
theorem dX8_event_108 : decode cX8_event 108 = .ok (.ireturn, 1) := by decide +kernel
theorem dX8_goesBy_0 : decode cX8_goesBy 0 = .ok (.aload_n 0, 1) := by decide +kernel
theorem dX8_goesBy_1 : decode cX8_goesBy 1 = .ok (.iload_n 1, 1) := by decide +kernel
theorem dX8_goesBy_2 : decode cX8_goesBy 2 = .ok (.iload_n 2, 1) := by decide +kernel
theorem dX8_goesBy_3 : decode cX8_goesBy 3 = .ok (.iconst 0, 1) := by decide +kernel
theorem dX8_goesBy_4 : decode cX8_goesBy 4 = .ok (.invokevirtual 84, 3) := by decide +kernel
theorem dX8_goesBy_7 : decode cX8_goesBy 7 = .ok (.istore_n 3, 1) := by decide +kernel
theorem dX8_goesBy_8 : decode cX8_goesBy 8 = .ok (.aload_n 0, 1) := by decide +kernel
theorem dX8_goesBy_9 : decode cX8_goesBy 9 = .ok (.iload_n 1, 1) := by decide +kernel
theorem dX8_goesBy_10 : decode cX8_goesBy 10 = .ok (.iload_n 2, 1) := by decide +kernel
theorem dX8_goesBy_11 : decode cX8_goesBy 11 = .ok (.iconst 1, 1) := by decide +kernel
theorem dX8_goesBy_12 : decode cX8_goesBy 12 = .ok (.invokevirtual 84, 3) := by decide +kernel
theorem dX8_goesBy_15 : decode cX8_goesBy 15 = .ok (.istore 4, 2) := by decide +kernel
theorem dX8_goesBy_17 : decode cX8_goesBy 17 = .ok (.aload_n 0, 1) := by decide +kernel
theorem dX8_goesBy_18 : decode cX8_goesBy 18 = .ok (.iload_n 1, 1) := by decide +kernel
theorem dX8_goesBy_19 : decode cX8_goesBy 19 = .ok (.iload_n 2, 1) := by decide +kernel
theorem dX8_goesBy_20 : decode cX8_goesBy 20 = .ok (.iconst 2, 1) := by decide +kernel
theorem dX8_goesBy_21 : decode cX8_goesBy 21 = .ok (.invokevirtual 84, 3) := by decide +kernel
theorem dX8_goesBy_24 : decode cX8_goesBy 24 = .ok (.istore 5, 2) := by decide +kernel
theorem dX8_goesBy_26 : decode cX8_goesBy 26 = .ok (.aload_n 0, 1) := by decide +kernel
theorem dX8_goesBy_27 : decode cX8_goesBy 27 = .ok (.getfield 11, 3) := by decide +kernel
theorem dX8_goesBy_30 : decode cX8_goesBy 30 = .ok (.iconst 1, 1) := by decide +kernel
theorem dX8_goesBy_31 : decode cX8_goesBy 31 = .ok (.iconst 4, 1) := by decide +kernel
theorem dX8_goesBy_32 : decode cX8_goesBy 32 = .ok (.iload_n 2, 1) := by decide +kernel
theorem dX8_goesBy_33 : decode cX8_goesBy 33 = .ok (.imul, 1) := by decide +kernel
theorem dX8_goesBy_34 : decode cX8_goesBy 34 = .ok (.iadd, 1) := by decide +kernel
theorem dX8_goesBy_35 : decode cX8_goesBy 35 = .ok (.iload_n 3, 1) := by decide +kernel
theorem dX8_goesBy_36 : decode cX8_goesBy 36 = .ok (.iastore, 1) := by decide +kernel
theorem dX8_goesBy_37 : decode cX8_goesBy 37 = .ok (.aload_n 0, 1) := by decide +kernel
theorem dX8_goesBy_38 : decode cX8_goesBy 38 = .ok (.getfield 11, 3) := by decide +kernel
theorem dX8_goesBy_41 : decode cX8_goesBy 41 = .ok (.iconst 1, 1) := by decide +kernel
theorem dX8_goesBy_42 : decode cX8_goesBy 42 = .ok (.iconst 4, 1) := by decide +kernel
theorem dX8_goesBy_43 : decode cX8_goesBy 43 = .ok (.iload_n 2, 1) := by decide +kernel
theorem dX8_goesBy_44 : decode cX8_goesBy 44 = .ok (.imul, 1) := by decide +kernel
theorem dX8_goesBy_45 : decode cX8_goesBy 45 = .ok (.iadd, 1) := by decide +kernel
theorem dX8_goesBy_46 : decode cX8_goesBy 46 = .ok (.iconst 1, 1) := by decide +kernel
theorem dX8_goesBy_47 : decode cX8_goesBy 47 = .ok (.iadd, 1) := by decide +kernel
theorem dX8_goesBy_48 : decode cX8_goesBy 48 = .ok (.iload 4, 2) := by decide +kernel
theorem dX8_goesBy_50 : decode cX8_goesBy 50 = .ok (.iastore, 1) := by decide +kernel
theorem dX8_goesBy_51 : decode cX8_goesBy 51 = .ok (.aload_n 0, 1) := by decide +kernel
theorem dX8_goesBy_52 : decode cX8_goesBy 52 = .ok (.getfield 11, 3) := by decide +kernel
theorem dX8_goesBy_55 : decode cX8_goesBy 55 = .ok (.iconst 1, 1) := by decide +kernel
theorem dX8_goesBy_56 : decode cX8_goesBy 56 = .ok (.iconst 4, 1) := by decide +kernel
theorem dX8_goesBy_57 : decode cX8_goesBy 57 = .ok (.iload_n 2, 1) := by decide +kernel
theorem dX8_goesBy_58 : decode cX8_goesBy 58 = .ok (.imul, 1) := by decide +kernel
theorem dX8_goesBy_59 : decode cX8_goesBy 59 = .ok (.iadd, 1) := by decide +kernel
theorem dX8_goesBy_60 : decode cX8_goesBy 60 = .ok (.iconst 2, 1) := by decide +kernel
theorem dX8_goesBy_61 : decode cX8_goesBy 61 = .ok (.iadd, 1) := by decide +kernel
theorem dX8_goesBy_62 : decode cX8_goesBy 62 = .ok (.iload 5, 2) := by decide +kernel
theorem dX8_goesBy_64 : decode cX8_goesBy 64 = .ok (.iastore, 1) := by decide +kernel
theorem dX8_goesBy_65 : decode cX8_goesBy 65 = .ok (.return_, 1) := by decide +kernel
theorem dX8_happens_0 : decode cX8_happens 0 = .ok (.iload_n 1, 1) := by decide +kernel
theorem dX8_happens_1 : decode cX8_happens 1 = .ok (.ifCond .ne 10, 3) := by decide +kernel
theorem dX8_happens_4 : decode cX8_happens 4 = .ok (.aload_n 0, 1) := by decide +kernel
theorem dX8_happens_5 : decode cX8_happens 5 = .ok (.iload_n 2, 1) := by decide +kernel
theorem dX8_happens_6 : decode cX8_happens 6 = .ok (.invokevirtual 204, 3) := by decide +kernel
theorem dX8_happens_9 : decode cX8_happens 9 = .ok (.istore_n 3, 1) := by decide +kernel
theorem dX8_happens_10 : decode cX8_happens 10 = .ok (.return_, 1) := by decide +kernel
theorem dX8_happens_11 : decode cX8_happens 11 = .ok (.iconst 0, 1) := by decide +kernel
theorem dX8_happens_12 : decode cX8_happens 12 = .ok (.istore_n 3, 1) := by decide +kernel
theorem dX8_happens_13 : decode cX8_happens 13 = .ok (.iload_n 3, 1) := by decide +kernel
theorem dX8_happens_14 : decode cX8_happens 14 = .ok (.aload_n 0, 1) := by decide +kernel
theorem dX8_happens_15 : decode cX8_happens 15 = .ok (.getfield 11, 3) := by decide +kernel
theorem dX8_happens_18 : decode cX8_happens 18 = .ok (.iconst 0, 1) := by decide +kernel
theorem dX8_happens_19 : decode cX8_happens 19 = .ok (.iaload, 1) := by decide +kernel
theorem dX8_happens_20 : decode cX8_happens 20 = .ok (.if_icmp .ge 77, 3) := by decide +kernel
theorem dX8_happens_23 : decode cX8_happens 23 = .ok (.iconst 1, 1) := by decide +kernel
theorem dX8_happens_24 : decode cX8_happens 24 = .ok (.iconst 4, 1) := by decide +kernel
theorem dX8_happens_25 : decode cX8_happens 25 = .ok (.iload_n 3, 1) := by decide +kernel
theorem dX8_happens_26 : decode cX8_happens 26 = .ok (.imul, 1) := by decide +kernel
theorem dX8_happens_27 : decode cX8_happens 27 = .ok (.iadd, 1) := by decide +kernel
theorem dX8_happens_28 : decode cX8_happens 28 = .ok (.iconst 3, 1) := by decide +kernel
theorem dX8_happens_29 : decode cX8_happens 29 = .ok (.iadd, 1) := by decide +kernel
theorem dX8_happens_30 : decode cX8_happens 30 = .ok (.istore 4, 2) := by decide +kernel
theorem dX8_happens_32 : decode cX8_happens 32 = .ok (.iload_n 1, 1) := by decide +kernel
theorem dX8_happens_33 : decode cX8_happens 33 = .ok (.iconst 2, 1) := by decide +kernel
theorem dX8_happens_34 : decode cX8_happens 34 = .ok (.if_icmp .ne 12, 3) := by decide +kernel
theorem dX8_happens_37 : decode cX8_happens 37 = .ok (.aload_n 0, 1) := by decide +kernel
theorem dX8_happens_38 : decode cX8_happens 38 = .ok (.iload_n 2, 1) := by decide +kernel
theorem dX8_happens_39 : decode cX8_happens 39 = .ok (.iload_n 3, 1) := by decide +kernel
theorem dX8_happens_40 : decode cX8_happens 40 = .ok (.invokevirtual 259, 3) := by decide +kernel
theorem dX8_happens_43 : decode cX8_happens 43 = .ok (.goto 48, 3) := by decide +kernel
theorem dX8_happens_46 : decode cX8_happens 46 = .ok (.iload_n 1, 1) := by decide +kernel
theorem dX8_happens_47 : decode cX8_happens 47 = .ok (.iconst 1, 1) := by decide +kernel
theorem dX8_happens_48 : decode cX8_happens 48 = .ok (.if_icmp .ne 35, 3) := by decide +kernel
theorem dX8_happens_51 : decode cX8_happens 51 = .ok (.aload_n 0, 1) := by decide +kernel
theorem dX8_happens_52 : decode cX8_happens 52 = .ok (.getfield 11, 3) := by decide +kernel
theorem dX8_happens_55 : decode cX8_happens 55 = .ok (.iload 4, 2) := by decide +kernel
theorem dX8_happens_57 : decode cX8_happens 57 = .ok (.aload_n 0, 1) := by decide +kernel
theorem dX8_happens_58 : decode cX8_happens 58 = .ok (.getfield 11, 3) := by decide +kernel
theorem dX8_happens_61 : decode cX8_happens 61 = .ok (.iload 4, 2) := by decide +kernel
theorem dX8_happens_63 : decode cX8_happens 63 = .ok (.iaload, 1) := by decide +kernel
theorem dX8_happens_64 : decode cX8_happens 64 = .ok (.iload_n 2, 1) := by decide +kernel
theorem dX8_happens_65 : decode cX8_happens 65 = .ok (.if_icmp .ne 7, 3) := by decide +kernel
theorem dX8_happens_68 : decode cX8_happens 68 = .ok (.iconst 0, 1) := by decide +kernel
theorem dX8_happens_69 : decode cX8_happens 69 = .ok (.goto 10, 3) := by decide +kernel
theorem dX8_happens_72 : decode cX8_happens 72 = .ok (.aload_n 0, 1) := by decide +kernel
theorem dX8_happens_73 : decode cX8_happens 73 = .ok (.getfield 11, 3) := by decide +kernel
theorem dX8_happens_76 : decode cX8_happens 76 = .ok (.iload 4, 2) := by decide +kernel
theorem dX8_happens_78 : decode cX8_happens 78 = .ok (.iaload, 1) := by decide +kernel
theorem dX8_happens_79 : decode cX8_happens 79 = .ok (.iastore, 1) := by decide +kernel
theorem dX8_happens_80 : decode cX8_happens 80 = .ok (.goto 11, 3) := by decide +kernel
theorem dX8_happens_83 : decode cX8_happens 83 = .ok (.aload_n 0, 1) := by decide +kernel
theorem dX8_happens_84 : decode cX8_happens 84 = .ok (.getfield 11, 3) := by decide +kernel
theorem dX8_happens_87 : decode cX8_happens 87 = .ok (.iload 4, 2) := by decide +kernel
theorem dX8_happens_89 : decode cX8_happens 89 = .ok (.iload_n 2, 1) := by decide +kernel
theorem dX8_happens_90 : decode cX8_happens 90 = .ok (.iastore, 1) := by decide +kernel
theorem dX8_happens_91 : decode cX8_happens 91 = .ok (.iinc 3 1, 3) := by decide +kernel
theorem dX8_happens_94 : decode cX8_happens 94 = .ok (.goto (-81), 3) := by decide +kernel
theorem dX8_happens_97 : decode cX8_happens 97 = .ok (.return_, 1) := by decide +kernel
theorem dX8_after_0 : decode cX8_after 0 = .ok (.iload_n 1, 1) := by decide +kernel
theorem dX8_after_1 : decode cX8_after 1 = .ok (.i2l, 1) := by decide +kernel
theorem dX8_after_2 : decode cX8_after 2 = .ok (.lconst 0, 1) := by decide +kernel
theorem dX8_after_3 : decode cX8_after 3 = .ok (.ldc2_w 245, 3) := by decide +kernel
theorem dX8_after_6 : decode cX8_after 6 = .ok (.invokestatic 56, 3) := by decide +kernel
theorem dX8_after_9 : decode cX8_after 9 = .ok (.ifCond .ne 5, 3) := by decide +kernel
theorem dX8_after_12 : decode cX8_after 12 = .ok (.iconst (-1), 1) := by decide +kernel
theorem dX8_after_13 : decode cX8_after 13 = .ok (.ireturn, 1) := by decide +kernel
theorem dX8_after_14 : decode cX8_after 14 = .ok (.aload_n 0, 1) := by decide +kernel
theorem dX8_after_15 : decode cX8_after 15 = .ok (.getfield 11, 3) := by decide +kernel
theorem dX8_after_18 : decode cX8_after 18 = .ok (.aload_n 0, 1) := by decide +kernel
theorem dX8_after_19 : decode cX8_after 19 = .ok (.getfield 15, 3) := by decide +kernel
theorem dX8_after_22 : decode cX8_after 22 = .ok (.invokestatic 263, 3) := by decide +kernel
theorem dX8_after_25 : decode cX8_after 25 = .ok (.iconst 0, 1) := by decide +kernel
theorem dX8_after_26 : decode cX8_after 26 = .ok (.istore_n 2, 1) := by decide +kernel
theorem dX8_after_27 : decode cX8_after 27 = .ok (.iload_n 2, 1) := by decide +kernel
theorem dX8_after_28 : decode cX8_after 28 = .ok (.aload_n 0, 1) := by decide +kernel
theorem dX8_after_29 : decode cX8_after 29 = .ok (.getfield 11, 3) := by decide +kernel
theorem dX8_after_32 : decode cX8_after 32 = .ok (.bipush 44, 2) := by decide +kernel
theorem dX8_after_34 : decode cX8_after 34 = .ok (.iaload, 1) := by decide +kernel
theorem dX8_after_35 : decode cX8_after 35 = .ok (.if_icmp .ge 37, 3) := by decide +kernel
theorem dX8_after_38 : decode cX8_after 38 = .ok (.aload_n 0, 1) := by decide +kernel
theorem dX8_after_39 : decode cX8_after 39 = .ok (.aload_n 0, 1) := by decide +kernel
theorem dX8_after_40 : decode cX8_after 40 = .ok (.getfield 11, 3) := by decide +kernel
theorem dX8_after_43 : decode cX8_after 43 = .ok (.bipush 45, 2) := by decide +kernel
theorem dX8_after_45 : decode cX8_after 45 = .ok (.iconst 2, 1) := by decide +kernel
theorem dX8_after_46 : decode cX8_after 46 = .ok (.iload_n 2, 1) := by decide +kernel
theorem dX8_after_47 : decode cX8_after 47 = .ok (.imul, 1) := by decide +kernel
theorem dX8_after_48 : decode cX8_after 48 = .ok (.iadd, 1) := by decide +kernel
theorem dX8_after_49 : decode cX8_after 49 = .ok (.iaload, 1) := by decide +kernel
theorem dX8_after_50 : decode cX8_after 50 = .ok (.aload_n 0, 1) := by decide +kernel
theorem dX8_after_51 : decode cX8_after 51 = .ok (.getfield 11, 3) := by decide +kernel
theorem dX8_after_54 : decode cX8_after 54 = .ok (.bipush 45, 2) := by decide +kernel
theorem dX8_after_56 : decode cX8_after 56 = .ok (.iconst 2, 1) := by decide +kernel
theorem dX8_after_57 : decode cX8_after 57 = .ok (.iload_n 2, 1) := by decide +kernel
theorem dX8_after_58 : decode cX8_after 58 = .ok (.imul, 1) := by decide +kernel
theorem dX8_after_59 : decode cX8_after 59 = .ok (.iadd, 1) := by decide +kernel
theorem dX8_after_60 : decode cX8_after 60 = .ok (.iconst 1, 1) := by decide +kernel
theorem dX8_after_61 : decode cX8_after 61 = .ok (.iadd, 1) := by decide +kernel
theorem dX8_after_62 : decode cX8_after 62 = .ok (.iaload, 1) := by decide +kernel
theorem dX8_after_63 : decode cX8_after 63 = .ok (.invokevirtual 267, 3) := by decide +kernel
theorem dX8_after_66 : decode cX8_after 66 = .ok (.iinc 2 1, 3) := by decide +kernel
theorem dX8_after_69 : decode cX8_after 69 = .ok (.goto (-42), 3) := by decide +kernel
theorem dX8_after_72 : decode cX8_after 72 = .ok (.aload_n 0, 1) := by decide +kernel
theorem dX8_after_73 : decode cX8_after 73 = .ok (.invokevirtual 138, 3) := by decide +kernel
theorem dX8_after_76 : decode cX8_after 76 = .ok (.iload_n 1, 1) := by decide +kernel
theorem dX8_after_77 : decode cX8_after 77 = .ok (.ifCond .ne 10, 3) := by decide +kernel
theorem dX8_after_80 : decode cX8_after 80 = .ok (.aload_n 0, 1) := by decide +kernel
theorem dX8_after_81 : decode cX8_after 81 = .ok (.getfield 97, 3) := by decide +kernel
theorem dX8_after_84 : decode cX8_after 84 = .ok (.goto 19, 3) := by decide +kernel
theorem dX8_after_87 : decode cX8_after 87 = .ok (.iload_n 1, 1) := by decide +kernel
theorem dX8_after_88 : decode cX8_after 88 = .ok (.iconst 1, 1) := by decide +kernel
theorem dX8_after_89 : decode cX8_after 89 = .ok (.if_icmp .ne 10, 3) := by decide +kernel
theorem dX8_after_92 : decode cX8_after 92 = .ok (.aload_n 0, 1) := by decide +kernel
theorem dX8_after_93 : decode cX8_after 93 = .ok (.invokevirtual 222, 3) := by decide +kernel
theorem dX8_after_96 : decode cX8_after 96 = .ok (.goto 7, 3) := by decide +kernel
theorem dX8_after_99 : decode cX8_after 99 = .ok (.aload_n 0, 1) := by decide +kernel
theorem dX8_after_100 : decode cX8_after 100 = .ok (.invokevirtual 225, 3) := by decide +kernel
theorem dX8_after_103 : decode cX8_after 103 = .ok (.istore_n 2, 1) := by decide +kernel
theorem dX8_after_104 : decode cX8_after 104 = .ok (.aload_n 0, 1) := by decide +kernel
theorem dX8_after_105 : decode cX8_after 105 = .ok (.getfield 15, 3) := by decide +kernel
theorem dX8_after_108 : decode cX8_after 108 = .ok (.aload_n 0, 1) := by decide +kernel
theorem dX8_after_109 : decode cX8_after 109 = .ok (.getfield 11, 3) := by decide +kernel
theorem dX8_after_112 : decode cX8_after 112 = .ok (.invokestatic 263, 3) := by decide +kernel
theorem dX8_after_115 : decode cX8_after 115 = .ok (.iload_n 2, 1) := by decide +kernel
theorem dX8_after_116 : decode cX8_after 116 = .ok (.ireturn, 1) := by decide +kernel
theorem dX8_book_0 : decode cX8_book 0 = .ok (.iload_n 1, 1) := by decide +kernel
theorem dX8_book_1 : decode cX8_book 1 = .ok (.iconst (-1), 1) := by decide +kernel
theorem dX8_book_2 : decode cX8_book 2 = .ok (.if_icmp .ne 13, 3) := by decide +kernel
theorem dX8_book_5 : decode cX8_book 5 = .ok (.aload_n 0, 1) := by decide +kernel
theorem dX8_book_6 : decode cX8_book 6 = .ok (.getfield 11, 3) := by decide +kernel
theorem dX8_book_9 : decode cX8_book 9 = .ok (.bipush 61, 2) := by decide +kernel
theorem dX8_book_11 : decode cX8_book 11 = .ok (.iconst 0, 1) := by decide +kernel
theorem dX8_book_12 : decode cX8_book 12 = .ok (.iastore, 1) := by decide +kernel
theorem dX8_book_13 : decode cX8_book 13 = .ok (.iconst 0, 1) := by decide +kernel
theorem dX8_book_14 : decode cX8_book 14 = .ok (.ireturn, 1) := by decide +kernel
theorem dX8_book_15 : decode cX8_book 15 = .ok (.iload_n 1, 1) := by decide +kernel
theorem dX8_book_16 : decode cX8_book 16 = .ok (.invokestatic 213, 3) := by decide +kernel
theorem dX8_book_19 : decode cX8_book 19 = .ok (.ifCond .ne 5, 3) := by decide +kernel
theorem dX8_book_22 : decode cX8_book 22 = .ok (.iconst (-1), 1) := by decide +kernel
theorem dX8_book_23 : decode cX8_book 23 = .ok (.ireturn, 1) := by decide +kernel
theorem dX8_book_24 : decode cX8_book 24 = .ok (.iload_n 2, 1) := by decide +kernel
theorem dX8_book_25 : decode cX8_book 25 = .ok (.i2l, 1) := by decide +kernel
theorem dX8_book_26 : decode cX8_book 26 = .ok (.lconst 1, 1) := by decide +kernel
theorem dX8_book_27 : decode cX8_book 27 = .ok (.ldc2_w 270, 3) := by decide +kernel
theorem dX8_book_30 : decode cX8_book 30 = .ok (.invokestatic 56, 3) := by decide +kernel
theorem dX8_book_33 : decode cX8_book 33 = .ok (.ifCond .ne 6, 3) := by decide +kernel
theorem dX8_book_36 : decode cX8_book 36 = .ok (.bipush (-2), 2) := by decide +kernel
theorem dX8_book_38 : decode cX8_book 38 = .ok (.ireturn, 1) := by decide +kernel
theorem dX8_book_39 : decode cX8_book 39 = .ok (.aload_n 0, 1) := by decide +kernel
theorem dX8_book_40 : decode cX8_book 40 = .ok (.getfield 11, 3) := by decide +kernel
theorem dX8_book_43 : decode cX8_book 43 = .ok (.bipush 61, 2) := by decide +kernel
theorem dX8_book_45 : decode cX8_book 45 = .ok (.iaload, 1) := by decide +kernel
theorem dX8_book_46 : decode cX8_book 46 = .ok (.bipush 8, 2) := by decide +kernel
theorem dX8_book_48 : decode cX8_book 48 = .ok (.if_icmp .ne 6, 3) := by decide +kernel
theorem dX8_book_51 : decode cX8_book 51 = .ok (.bipush (-4), 2) := by decide +kernel
theorem dX8_book_53 : decode cX8_book 53 = .ok (.ireturn, 1) := by decide +kernel
theorem dX8_book_54 : decode cX8_book 54 = .ok (.bipush 62, 2) := by decide +kernel
theorem dX8_book_56 : decode cX8_book 56 = .ok (.iconst 2, 1) := by decide +kernel
theorem dX8_book_57 : decode cX8_book 57 = .ok (.aload_n 0, 1) := by decide +kernel
theorem dX8_book_58 : decode cX8_book 58 = .ok (.getfield 11, 3) := by decide +kernel
theorem dX8_book_61 : decode cX8_book 61 = .ok (.bipush 61, 2) := by decide +kernel
theorem dX8_book_63 : decode cX8_book 63 = .ok (.iaload, 1) := by decide +kernel
theorem dX8_book_64 : decode cX8_book 64 = .ok (.imul, 1) := by decide +kernel
theorem dX8_book_65 : decode cX8_book 65 = .ok (.iadd, 1) := by decide +kernel
theorem dX8_book_66 : decode cX8_book 66 = .ok (.istore_n 3, 1) := by decide +kernel
theorem dX8_book_67 : decode cX8_book 67 = .ok (.aload_n 0, 1) := by decide +kernel
theorem dX8_book_68 : decode cX8_book 68 = .ok (.getfield 11, 3) := by decide +kernel
theorem dX8_book_71 : decode cX8_book 71 = .ok (.iload_n 3, 1) := by decide +kernel
theorem dX8_book_72 : decode cX8_book 72 = .ok (.iload_n 1, 1) := by decide +kernel
theorem dX8_book_73 : decode cX8_book 73 = .ok (.iastore, 1) := by decide +kernel
theorem dX8_book_74 : decode cX8_book 74 = .ok (.aload_n 0, 1) := by decide +kernel
theorem dX8_book_75 : decode cX8_book 75 = .ok (.getfield 11, 3) := by decide +kernel
theorem dX8_book_78 : decode cX8_book 78 = .ok (.iload_n 3, 1) := by decide +kernel
theorem dX8_book_79 : decode cX8_book 79 = .ok (.iconst 1, 1) := by decide +kernel
theorem dX8_book_80 : decode cX8_book 80 = .ok (.iadd, 1) := by decide +kernel
theorem dX8_book_81 : decode cX8_book 81 = .ok (.iload_n 2, 1) := by decide +kernel
theorem dX8_book_82 : decode cX8_book 82 = .ok (.iastore, 1) := by decide +kernel
theorem dX8_book_83 : decode cX8_book 83 = .ok (.aload_n 0, 1) := by decide +kernel
theorem dX8_book_84 : decode cX8_book 84 = .ok (.getfield 11, 3) := by decide +kernel
theorem dX8_book_87 : decode cX8_book 87 = .ok (.bipush 61, 2) := by decide +kernel
theorem dX8_book_89 : decode cX8_book 89 = .ok (.dup2, 1) := by decide +kernel
theorem dX8_book_90 : decode cX8_book 90 = .ok (.iaload, 1) := by decide +kernel
theorem dX8_book_91 : decode cX8_book 91 = .ok (.iconst 1, 1) := by decide +kernel
theorem dX8_book_92 : decode cX8_book 92 = .ok (.iadd, 1) := by decide +kernel
theorem dX8_book_93 : decode cX8_book 93 = .ok (.iastore, 1) := by decide +kernel
theorem dX8_book_94 : decode cX8_book 94 = .ok (.aload_n 0, 1) := by decide +kernel
theorem dX8_book_95 : decode cX8_book 95 = .ok (.getfield 11, 3) := by decide +kernel
theorem dX8_book_98 : decode cX8_book 98 = .ok (.bipush 61, 2) := by decide +kernel
theorem dX8_book_100 : decode cX8_book 100 = .ok (.iaload, 1) := by decide +kernel
theorem dX8_book_101 : decode cX8_book 101 = .ok (.ireturn, 1) := by decide +kernel
theorem dX8_looked_0 : decode cX8_looked 0 = .ok (.iconst 0, 1) := by decide +kernel
theorem dX8_looked_1 : decode cX8_looked 1 = .ok (.istore_n 1, 1) := by decide +kernel
theorem dX8_looked_2 : decode cX8_looked 2 = .ok (.iload_n 1, 1) := by decide +kernel
theorem dX8_looked_3 : decode cX8_looked 3 = .ok (.aload_n 0, 1) := by decide +kernel
theorem dX8_looked_4 : decode cX8_looked 4 = .ok (.getfield 11, 3) := by decide +kernel
theorem dX8_looked_7 : decode cX8_looked 7 = .ok (.bipush 61, 2) := by decide +kernel
theorem dX8_looked_9 : decode cX8_looked 9 = .ok (.iaload, 1) := by decide +kernel
theorem dX8_looked_10 : decode cX8_looked 10 = .ok (.if_icmp .ge 51, 3) := by decide +kernel
theorem dX8_looked_13 : decode cX8_looked 13 = .ok (.aload_n 0, 1) := by decide +kernel
theorem dX8_looked_14 : decode cX8_looked 14 = .ok (.getfield 11, 3) := by decide +kernel
theorem dX8_looked_17 : decode cX8_looked 17 = .ok (.bipush 62, 2) := by decide +kernel
theorem dX8_looked_19 : decode cX8_looked 19 = .ok (.iconst 2, 1) := by decide +kernel
theorem dX8_looked_20 : decode cX8_looked 20 = .ok (.iload_n 1, 1) := by decide +kernel
theorem dX8_looked_21 : decode cX8_looked 21 = .ok (.imul, 1) := by decide +kernel
theorem dX8_looked_22 : decode cX8_looked 22 = .ok (.iadd, 1) := by decide +kernel
theorem dX8_looked_23 : decode cX8_looked 23 = .ok (.iaload, 1) := by decide +kernel
theorem dX8_looked_24 : decode cX8_looked 24 = .ok (.istore_n 2, 1) := by decide +kernel
theorem dX8_looked_25 : decode cX8_looked 25 = .ok (.aload_n 0, 1) := by decide +kernel
theorem dX8_looked_26 : decode cX8_looked 26 = .ok (.iload_n 2, 1) := by decide +kernel
theorem dX8_looked_27 : decode cX8_looked 27 = .ok (.invokevirtual 101, 3) := by decide +kernel
theorem dX8_looked_30 : decode cX8_looked 30 = .ok (.ifCond .gt 23, 3) := by decide +kernel
theorem dX8_looked_33 : decode cX8_looked 33 = .ok (.iload_n 2, 1) := by decide +kernel
theorem dX8_looked_34 : decode cX8_looked 34 = .ok (.invokestatic 216, 3) := by decide +kernel
theorem dX8_looked_37 : decode cX8_looked 37 = .ok (.aload_n 0, 1) := by decide +kernel
theorem dX8_looked_38 : decode cX8_looked 38 = .ok (.getfield 11, 3) := by decide +kernel
theorem dX8_looked_41 : decode cX8_looked 41 = .ok (.bipush 62, 2) := by decide +kernel
theorem dX8_looked_43 : decode cX8_looked 43 = .ok (.iconst 2, 1) := by decide +kernel
theorem dX8_looked_44 : decode cX8_looked 44 = .ok (.iload_n 1, 1) := by decide +kernel
theorem dX8_looked_45 : decode cX8_looked 45 = .ok (.imul, 1) := by decide +kernel
theorem dX8_looked_46 : decode cX8_looked 46 = .ok (.iadd, 1) := by decide +kernel
theorem dX8_looked_47 : decode cX8_looked 47 = .ok (.iconst 1, 1) := by decide +kernel
theorem dX8_looked_48 : decode cX8_looked 48 = .ok (.iadd, 1) := by decide +kernel
theorem dX8_looked_49 : decode cX8_looked 49 = .ok (.iaload, 1) := by decide +kernel
theorem dX8_looked_50 : decode cX8_looked 50 = .ok (.if_icmp .eq 5, 3) := by decide +kernel
theorem dX8_looked_53 : decode cX8_looked 53 = .ok (.iload_n 1, 1) := by decide +kernel
theorem dX8_looked_54 : decode cX8_looked 54 = .ok (.ireturn, 1) := by decide +kernel
theorem dX8_looked_55 : decode cX8_looked 55 = .ok (.iinc 1 1, 3) := by decide +kernel
theorem dX8_looked_58 : decode cX8_looked 58 = .ok (.goto (-56), 3) := by decide +kernel
theorem dX8_looked_61 : decode cX8_looked 61 = .ok (.bipush (-5), 2) := by decide +kernel
theorem dX8_looked_63 : decode cX8_looked 63 = .ok (.ireturn, 1) := by decide +kernel
theorem dX8_judge_0 : decode cX8_judge 0 = .ok (.iload_n 1, 1) := by decide +kernel
theorem dX8_judge_1 : decode cX8_judge 1 = .ok (.invokestatic 272, 3) := by decide +kernel
theorem dX8_judge_4 : decode cX8_judge 4 = .ok (.ifCond .ne 5, 3) := by decide +kernel
theorem dX8_judge_7 : decode cX8_judge 7 = .ok (.iconst (-1), 1) := by decide +kernel
theorem dX8_judge_8 : decode cX8_judge 8 = .ok (.ireturn, 1) := by decide +kernel
theorem dX8_judge_9 : decode cX8_judge 9 = .ok (.aload_n 0, 1) := by decide +kernel
theorem dX8_judge_10 : decode cX8_judge 10 = .ok (.getfield 46, 3) := by decide +kernel
theorem dX8_judge_13 : decode cX8_judge 13 = .ok (.iload_n 1, 1) := by decide +kernel
theorem dX8_judge_14 : decode cX8_judge 14 = .ok (.iaload, 1) := by decide +kernel
theorem dX8_judge_15 : decode cX8_judge 15 = .ok (.iconst 1, 1) := by decide +kernel
theorem dX8_judge_16 : decode cX8_judge 16 = .ok (.if_icmp .lt 6, 3) := by decide +kernel
theorem dX8_judge_19 : decode cX8_judge 19 = .ok (.bipush (-12), 2) := by decide +kernel
theorem dX8_judge_21 : decode cX8_judge 21 = .ok (.ireturn, 1) := by decide +kernel
theorem dX8_judge_22 : decode cX8_judge 22 = .ok (.aload_n 0, 1) := by decide +kernel
theorem dX8_judge_23 : decode cX8_judge 23 = .ok (.invokevirtual 138, 3) := by decide +kernel
theorem dX8_judge_26 : decode cX8_judge 26 = .ok (.iconst 0, 1) := by decide +kernel
theorem dX8_judge_27 : decode cX8_judge 27 = .ok (.istore_n 3, 1) := by decide +kernel
theorem dX8_judge_28 : decode cX8_judge 28 = .ok (.iload_n 3, 1) := by decide +kernel
theorem dX8_judge_29 : decode cX8_judge 29 = .ok (.aload_n 0, 1) := by decide +kernel
theorem dX8_judge_30 : decode cX8_judge 30 = .ok (.getfield 97, 3) := by decide +kernel
theorem dX8_judge_33 : decode cX8_judge 33 = .ok (.if_icmp .ge 60, 3) := by decide +kernel
theorem dX8_judge_36 : decode cX8_judge 36 = .ok (.iload_n 2, 1) := by decide +kernel
theorem dX8_judge_37 : decode cX8_judge 37 = .ok (.ifCond .lt 19, 3) := by decide +kernel
theorem dX8_judge_40 : decode cX8_judge 40 = .ok (.iload_n 2, 1) := by decide +kernel
theorem dX8_judge_41 : decode cX8_judge 41 = .ok (.i2l, 1) := by decide +kernel
theorem dX8_judge_42 : decode cX8_judge 42 = .ok (.iload_n 3, 1) := by decide +kernel
theorem dX8_judge_43 : decode cX8_judge 43 = .ok (.i2l, 1) := by decide +kernel
theorem dX8_judge_44 : decode cX8_judge 44 = .ok (.ladd, 1) := by decide +kernel
theorem dX8_judge_45 : decode cX8_judge 45 = .ok (.aload_n 0, 1) := by decide +kernel
theorem dX8_judge_46 : decode cX8_judge 46 = .ok (.getfield 49, 3) := by decide +kernel
theorem dX8_judge_49 : decode cX8_judge 49 = .ok (.iload_n 1, 1) := by decide +kernel
theorem dX8_judge_50 : decode cX8_judge 50 = .ok (.iaload, 1) := by decide +kernel
theorem dX8_judge_51 : decode cX8_judge 51 = .ok (.i2l, 1) := by decide +kernel
theorem dX8_judge_52 : decode cX8_judge 52 = .ok (.lcmp, 1) := by decide +kernel
theorem dX8_judge_53 : decode cX8_judge 53 = .ok (.ifCond .lt 8, 3) := by decide +kernel
theorem dX8_judge_56 : decode cX8_judge 56 = .ok (.bipush 100, 2) := by decide +kernel
theorem dX8_judge_58 : decode cX8_judge 58 = .ok (.iload_n 3, 1) := by decide +kernel
theorem dX8_judge_59 : decode cX8_judge 59 = .ok (.iadd, 1) := by decide +kernel
theorem dX8_judge_60 : decode cX8_judge 60 = .ok (.ireturn, 1) := by decide +kernel
theorem dX8_judge_61 : decode cX8_judge 61 = .ok (.aload_n 0, 1) := by decide +kernel
theorem dX8_judge_62 : decode cX8_judge 62 = .ok (.getfield 52, 3) := by decide +kernel
theorem dX8_judge_65 : decode cX8_judge 65 = .ok (.bipush 60, 2) := by decide +kernel
theorem dX8_judge_67 : decode cX8_judge 67 = .ok (.iload_n 1, 1) := by decide +kernel
theorem dX8_judge_68 : decode cX8_judge 68 = .ok (.imul, 1) := by decide +kernel
theorem dX8_judge_69 : decode cX8_judge 69 = .ok (.iload_n 2, 1) := by decide +kernel
theorem dX8_judge_70 : decode cX8_judge 70 = .ok (.iadd, 1) := by decide +kernel
theorem dX8_judge_71 : decode cX8_judge 71 = .ok (.iload_n 3, 1) := by decide +kernel
theorem dX8_judge_72 : decode cX8_judge 72 = .ok (.iadd, 1) := by decide +kernel
theorem dX8_judge_73 : decode cX8_judge 73 = .ok (.laload, 1) := by decide +kernel
theorem dX8_judge_74 : decode cX8_judge 74 = .ok (.aload_n 0, 1) := by decide +kernel
theorem dX8_judge_75 : decode cX8_judge 75 = .ok (.getfield 21, 3) := by decide +kernel
theorem dX8_judge_78 : decode cX8_judge 78 = .ok (.iload_n 3, 1) := by decide +kernel
theorem dX8_judge_79 : decode cX8_judge 79 = .ok (.iaload, 1) := by decide +kernel
theorem dX8_judge_80 : decode cX8_judge 80 = .ok (.i2l, 1) := by decide +kernel
theorem dX8_judge_81 : decode cX8_judge 81 = .ok (.lcmp, 1) := by decide +kernel
theorem dX8_judge_82 : decode cX8_judge 82 = .ok (.ifCond .eq 5, 3) := by decide +kernel
theorem dX8_judge_85 : decode cX8_judge 85 = .ok (.iload_n 3, 1) := by decide +kernel
theorem dX8_judge_86 : decode cX8_judge 86 = .ok (.ireturn, 1) := by decide +kernel
theorem dX8_judge_87 : decode cX8_judge 87 = .ok (.iinc 3 1, 3) := by decide +kernel
theorem dX8_judge_90 : decode cX8_judge 90 = .ok (.goto (-62), 3) := by decide +kernel
theorem dX8_judge_93 : decode cX8_judge 93 = .ok (.bipush (-5), 2) := by decide +kernel
theorem dX8_judge_95 : decode cX8_judge 95 = .ok (.ireturn, 1) := by decide +kernel
theorem dX8_image_0 : decode cX8_image 0 = .ok (.aload_n 0, 1) := by decide +kernel
theorem dX8_image_1 : decode cX8_image 1 = .ok (.iconst 1, 1) := by decide +kernel
theorem dX8_image_2 : decode cX8_image 2 = .ok (.putfield 275, 3) := by decide +kernel
theorem dX8_image_5 : decode cX8_image 5 = .ok (.aload_n 0, 1) := by decide +kernel
theorem dX8_image_6 : decode cX8_image 6 = .ok (.getfield 11, 3) := by decide +kernel
theorem dX8_image_9 : decode cX8_image 9 = .ok (.aload_n 0, 1) := by decide +kernel
theorem dX8_image_10 : decode cX8_image 10 = .ok (.getfield 18, 3) := by decide +kernel
theorem dX8_image_13 : decode cX8_image 13 = .ok (.invokestatic 263, 3) := by decide +kernel
theorem dX8_image_16 : decode cX8_image 16 = .ok (.aload_n 0, 1) := by decide +kernel
theorem dX8_image_17 : decode cX8_image 17 = .ok (.getfield 11, 3) := by decide +kernel
theorem dX8_image_20 : decode cX8_image 20 = .ok (.iconst 0, 1) := by decide +kernel
theorem dX8_image_21 : decode cX8_image 21 = .ok (.iaload, 1) := by decide +kernel
theorem dX8_image_22 : decode cX8_image 22 = .ok (.ireturn, 1) := by decide +kernel
theorem dX8_undo_0 : decode cX8_undo 0 = .ok (.aload_n 0, 1) := by decide +kernel
theorem dX8_undo_1 : decode cX8_undo 1 = .ok (.getfield 275, 3) := by decide +kernel
theorem dX8_undo_4 : decode cX8_undo 4 = .ok (.ifCond .ne 6, 3) := by decide +kernel
theorem dX8_undo_7 : decode cX8_undo 7 = .ok (.bipush (-3), 2) := by decide +kernel
theorem dX8_undo_9 : decode cX8_undo 9 = .ok (.ireturn, 1) := by decide +kernel
theorem dX8_undo_10 : decode cX8_undo 10 = .ok (.aload_n 0, 1) := by decide +kernel
theorem dX8_undo_11 : decode cX8_undo 11 = .ok (.getfield 18, 3) := by decide +kernel
theorem dX8_undo_14 : decode cX8_undo 14 = .ok (.aload_n 0, 1) := by decide +kernel
theorem dX8_undo_15 : decode cX8_undo 15 = .ok (.getfield 11, 3) := by decide +kernel
theorem dX8_undo_18 : decode cX8_undo 18 = .ok (.invokestatic 263, 3) := by decide +kernel
theorem dX8_undo_21 : decode cX8_undo 21 = .ok (.aload_n 0, 1) := by decide +kernel
theorem dX8_undo_22 : decode cX8_undo 22 = .ok (.getfield 11, 3) := by decide +kernel
theorem dX8_undo_25 : decode cX8_undo 25 = .ok (.iconst 0, 1) := by decide +kernel
theorem dX8_undo_26 : decode cX8_undo 26 = .ok (.iaload, 1) := by decide +kernel
theorem dX8_undo_27 : decode cX8_undo 27 = .ok (.ireturn, 1) := by decide +kernel
theorem dX8_count_0 : decode cX8_count 0 = .ok (.iload_n 1, 1) := by decide +kernel
theorem dX8_count_1 : decode cX8_count 1 = .ok (.tableswitch 60 0 3 #[31, 39, 47, 55], 31) := by decide +kernel
theorem dX8_count_32 : decode cX8_count 32 = .ok (.aload_n 0, 1) := by decide +kernel
theorem dX8_count_33 : decode cX8_count 33 = .ok (.getfield 11, 3) := by decide +kernel
theorem dX8_count_36 : decode cX8_count 36 = .ok (.bipush 33, 2) := by decide +kernel
theorem dX8_count_38 : decode cX8_count 38 = .ok (.iaload, 1) := by decide +kernel
theorem dX8_count_39 : decode cX8_count 39 = .ok (.ireturn, 1) := by decide +kernel
theorem dX8_count_40 : decode cX8_count 40 = .ok (.aload_n 0, 1) := by decide +kernel
theorem dX8_count_41 : decode cX8_count 41 = .ok (.getfield 11, 3) := by decide +kernel
theorem dX8_count_44 : decode cX8_count 44 = .ok (.bipush 44, 2) := by decide +kernel
theorem dX8_count_46 : decode cX8_count 46 = .ok (.iaload, 1) := by decide +kernel
theorem dX8_count_47 : decode cX8_count 47 = .ok (.ireturn, 1) := by decide +kernel
theorem dX8_count_48 : decode cX8_count 48 = .ok (.aload_n 0, 1) := by decide +kernel
theorem dX8_count_49 : decode cX8_count 49 = .ok (.getfield 11, 3) := by decide +kernel
theorem dX8_count_52 : decode cX8_count 52 = .ok (.bipush 61, 2) := by decide +kernel
theorem dX8_count_54 : decode cX8_count 54 = .ok (.iaload, 1) := by decide +kernel
theorem dX8_count_55 : decode cX8_count 55 = .ok (.ireturn, 1) := by decide +kernel
theorem dX8_count_56 : decode cX8_count 56 = .ok (.aload_n 0, 1) := by decide +kernel
theorem dX8_count_57 : decode cX8_count 57 = .ok (.getfield 171, 3) := by decide +kernel
theorem dX8_count_60 : decode cX8_count 60 = .ok (.ireturn, 1) := by decide +kernel
theorem dX8_count_61 : decode cX8_count 61 = .ok (.bipush (-2), 2) := by decide +kernel
theorem dX8_count_63 : decode cX8_count 63 = .ok (.ireturn, 1) := by decide +kernel
theorem dX8_isTape_0 : decode cX8_isTape 0 = .ok (.iload_n 0, 1) := by decide +kernel
theorem dX8_isTape_1 : decode cX8_isTape 1 = .ok (.i2l, 1) := by decide +kernel
theorem dX8_isTape_2 : decode cX8_isTape 2 = .ok (.lconst 0, 1) := by decide +kernel
theorem dX8_isTape_3 : decode cX8_isTape 3 = .ok (.ldc2_w 240, 3) := by decide +kernel
theorem dX8_isTape_6 : decode cX8_isTape 6 = .ok (.invokestatic 56, 3) := by decide +kernel
theorem dX8_isTape_9 : decode cX8_isTape 9 = .ok (.ireturn, 1) := by decide +kernel
theorem dX8_tape_0 : decode cX8_tape 0 = .ok (.iload_n 1, 1) := by decide +kernel
theorem dX8_tape_1 : decode cX8_tape 1 = .ok (.invokestatic 272, 3) := by decide +kernel
theorem dX8_tape_4 : decode cX8_tape 4 = .ok (.ifCond .ne 5, 3) := by decide +kernel
theorem dX8_tape_7 : decode cX8_tape 7 = .ok (.iconst (-1), 1) := by decide +kernel
theorem dX8_tape_8 : decode cX8_tape 8 = .ok (.ireturn, 1) := by decide +kernel
theorem dX8_tape_9 : decode cX8_tape 9 = .ok (.iload_n 2, 1) := by decide +kernel
theorem dX8_tape_10 : decode cX8_tape 10 = .ok (.i2l, 1) := by decide +kernel
theorem dX8_tape_11 : decode cX8_tape 11 = .ok (.ldc2_w 278, 3) := by decide +kernel
theorem dX8_tape_14 : decode cX8_tape 14 = .ok (.ldc2_w 160, 3) := by decide +kernel
theorem dX8_tape_17 : decode cX8_tape 17 = .ok (.invokestatic 56, 3) := by decide +kernel
theorem dX8_tape_20 : decode cX8_tape 20 = .ok (.ifCond .eq 13, 3) := by decide +kernel
theorem dX8_tape_23 : decode cX8_tape 23 = .ok (.iload_n 2, 1) := by decide +kernel
theorem dX8_tape_24 : decode cX8_tape 24 = .ok (.ifCond .lt 12, 3) := by decide +kernel
theorem dX8_tape_27 : decode cX8_tape 27 = .ok (.iload_n 3, 1) := by decide +kernel
theorem dX8_tape_28 : decode cX8_tape 28 = .ok (.bipush 60, 2) := by decide +kernel
theorem dX8_tape_30 : decode cX8_tape 30 = .ok (.if_icmp .le 6, 3) := by decide +kernel
theorem dX8_tape_33 : decode cX8_tape 33 = .ok (.bipush (-2), 2) := by decide +kernel
theorem dX8_tape_35 : decode cX8_tape 35 = .ok (.ireturn, 1) := by decide +kernel
theorem dX8_tape_36 : decode cX8_tape 36 = .ok (.iload_n 2, 1) := by decide +kernel
theorem dX8_tape_37 : decode cX8_tape 37 = .ok (.ifCond .lt 10, 3) := by decide +kernel
theorem dX8_tape_40 : decode cX8_tape 40 = .ok (.iload_n 3, 1) := by decide +kernel
theorem dX8_tape_41 : decode cX8_tape 41 = .ok (.ifCond .ge 6, 3) := by decide +kernel
theorem dX8_tape_44 : decode cX8_tape 44 = .ok (.bipush (-14), 2) := by decide +kernel
theorem dX8_tape_46 : decode cX8_tape 46 = .ok (.ireturn, 1) := by decide +kernel
theorem dX8_tape_47 : decode cX8_tape 47 = .ok (.aload_n 0, 1) := by decide +kernel
theorem dX8_tape_48 : decode cX8_tape 48 = .ok (.getfield 46, 3) := by decide +kernel
theorem dX8_tape_51 : decode cX8_tape 51 = .ok (.iload_n 1, 1) := by decide +kernel
theorem dX8_tape_52 : decode cX8_tape 52 = .ok (.iload_n 2, 1) := by decide +kernel
theorem dX8_tape_53 : decode cX8_tape 53 = .ok (.iastore, 1) := by decide +kernel
theorem dX8_tape_54 : decode cX8_tape 54 = .ok (.aload_n 0, 1) := by decide +kernel
theorem dX8_tape_55 : decode cX8_tape 55 = .ok (.getfield 49, 3) := by decide +kernel
theorem dX8_tape_58 : decode cX8_tape 58 = .ok (.iload_n 1, 1) := by decide +kernel
theorem dX8_tape_59 : decode cX8_tape 59 = .ok (.iload_n 2, 1) := by decide +kernel
theorem dX8_tape_60 : decode cX8_tape 60 = .ok (.ifCond .ge 7, 3) := by decide +kernel
theorem dX8_tape_63 : decode cX8_tape 63 = .ok (.iconst 0, 1) := by decide +kernel
theorem dX8_tape_64 : decode cX8_tape 64 = .ok (.goto 4, 3) := by decide +kernel
theorem dX8_tape_67 : decode cX8_tape 67 = .ok (.iload_n 3, 1) := by decide +kernel
theorem dX8_tape_68 : decode cX8_tape 68 = .ok (.iastore, 1) := by decide +kernel
theorem dX8_tape_69 : decode cX8_tape 69 = .ok (.iconst 0, 1) := by decide +kernel
theorem dX8_tape_70 : decode cX8_tape 70 = .ok (.istore 4, 2) := by decide +kernel
theorem dX8_tape_72 : decode cX8_tape 72 = .ok (.iload 4, 2) := by decide +kernel
theorem dX8_tape_74 : decode cX8_tape 74 = .ok (.bipush 60, 2) := by decide +kernel
theorem dX8_tape_76 : decode cX8_tape 76 = .ok (.if_icmp .ge 22, 3) := by decide +kernel
theorem dX8_tape_79 : decode cX8_tape 79 = .ok (.aload_n 0, 1) := by decide +kernel
theorem dX8_tape_80 : decode cX8_tape 80 = .ok (.getfield 52, 3) := by decide +kernel
theorem dX8_tape_83 : decode cX8_tape 83 = .ok (.bipush 60, 2) := by decide +kernel
theorem dX8_tape_85 : decode cX8_tape 85 = .ok (.iload_n 1, 1) := by decide +kernel
theorem dX8_tape_86 : decode cX8_tape 86 = .ok (.imul, 1) := by decide +kernel
theorem dX8_tape_87 : decode cX8_tape 87 = .ok (.iload 4, 2) := by decide +kernel
theorem dX8_tape_89 : decode cX8_tape 89 = .ok (.iadd, 1) := by decide +kernel
theorem dX8_tape_90 : decode cX8_tape 90 = .ok (.lconst 0, 1) := by decide +kernel
theorem dX8_tape_91 : decode cX8_tape 91 = .ok (.lastore, 1) := by decide +kernel
theorem dX8_tape_92 : decode cX8_tape 92 = .ok (.iinc 4 1, 3) := by decide +kernel
theorem dX8_tape_95 : decode cX8_tape 95 = .ok (.goto (-23), 3) := by decide +kernel
theorem dX8_tape_98 : decode cX8_tape 98 = .ok (.iconst 1, 1) := by decide +kernel
theorem dX8_tape_99 : decode cX8_tape 99 = .ok (.ireturn, 1) := by decide +kernel
theorem dX8_narrowed_0 : decode cX8_narrowed 0 = .ok (.iload_n 0, 1) := by decide +kernel
theorem dX8_narrowed_1 : decode cX8_narrowed 1 = .ok (.ifCond .ne 10, 3) := by decide +kernel
theorem dX8_narrowed_4 : decode cX8_narrowed 4 = .ok (.lload_n 1, 1) := by decide +kernel
theorem dX8_narrowed_5 : decode cX8_narrowed 5 = .ok (.l2i, 1) := by decide +kernel
theorem dX8_narrowed_6 : decode cX8_narrowed 6 = .ok (.i2b, 1) := by decide +kernel
theorem dX8_narrowed_7 : decode cX8_narrowed 7 = .ok (.i2l, 1) := by decide +kernel
theorem dX8_narrowed_8 : decode cX8_narrowed 8 = .ok (.goto 46, 3) := by decide +kernel
theorem dX8_narrowed_11 : decode cX8_narrowed 11 = .ok (.iload_n 0, 1) := by decide +kernel
theorem dX8_narrowed_12 : decode cX8_narrowed 12 = .ok (.iconst 1, 1) := by decide +kernel
theorem dX8_narrowed_13 : decode cX8_narrowed 13 = .ok (.if_icmp .ne 10, 3) := by decide +kernel
theorem dX8_narrowed_16 : decode cX8_narrowed 16 = .ok (.lload_n 1, 1) := by decide +kernel
theorem dX8_narrowed_17 : decode cX8_narrowed 17 = .ok (.l2i, 1) := by decide +kernel
theorem dX8_narrowed_18 : decode cX8_narrowed 18 = .ok (.i2s, 1) := by decide +kernel
theorem dX8_narrowed_19 : decode cX8_narrowed 19 = .ok (.i2l, 1) := by decide +kernel
theorem dX8_narrowed_20 : decode cX8_narrowed 20 = .ok (.goto 34, 3) := by decide +kernel
theorem dX8_narrowed_23 : decode cX8_narrowed 23 = .ok (.iload_n 0, 1) := by decide +kernel
theorem dX8_narrowed_24 : decode cX8_narrowed 24 = .ok (.iconst 2, 1) := by decide +kernel
theorem dX8_narrowed_25 : decode cX8_narrowed 25 = .ok (.if_icmp .ne 9, 3) := by decide +kernel
theorem dX8_narrowed_28 : decode cX8_narrowed 28 = .ok (.lload_n 1, 1) := by decide +kernel
theorem dX8_narrowed_29 : decode cX8_narrowed 29 = .ok (.l2i, 1) := by decide +kernel
theorem dX8_narrowed_30 : decode cX8_narrowed 30 = .ok (.i2l, 1) := by decide +kernel
theorem dX8_narrowed_31 : decode cX8_narrowed 31 = .ok (.goto 23, 3) := by decide +kernel
theorem dX8_narrowed_34 : decode cX8_narrowed 34 = .ok (.iload_n 0, 1) := by decide +kernel
theorem dX8_narrowed_35 : decode cX8_narrowed 35 = .ok (.iconst 3, 1) := by decide +kernel
theorem dX8_narrowed_36 : decode cX8_narrowed 36 = .ok (.if_icmp .ne 7, 3) := by decide +kernel
theorem dX8_narrowed_39 : decode cX8_narrowed 39 = .ok (.lload_n 1, 1) := by decide +kernel
theorem dX8_narrowed_40 : decode cX8_narrowed 40 = .ok (.goto 14, 3) := by decide +kernel
theorem dX8_narrowed_43 : decode cX8_narrowed 43 = .ok (.lload_n 1, 1) := by decide +kernel
theorem dX8_narrowed_44 : decode cX8_narrowed 44 = .ok (.lconst 0, 1) := by decide +kernel
theorem dX8_narrowed_45 : decode cX8_narrowed 45 = .ok (.lcmp, 1) := by decide +kernel
theorem dX8_narrowed_46 : decode cX8_narrowed 46 = .ok (.ifCond .eq 7, 3) := by decide +kernel
theorem dX8_narrowed_49 : decode cX8_narrowed 49 = .ok (.lconst 1, 1) := by decide +kernel
theorem dX8_narrowed_50 : decode cX8_narrowed 50 = .ok (.goto 4, 3) := by decide +kernel
theorem dX8_narrowed_53 : decode cX8_narrowed 53 = .ok (.lconst 0, 1) := by decide +kernel
theorem dX8_narrowed_54 : decode cX8_narrowed 54 = .ok (.lreturn, 1) := by decide +kernel
theorem dX8_item_0 : decode cX8_item 0 = .ok (.iload_n 1, 1) := by decide +kernel
theorem dX8_item_1 : decode cX8_item 1 = .ok (.invokestatic 272, 3) := by decide +kernel
theorem dX8_item_4 : decode cX8_item 4 = .ok (.ifCond .ne 5, 3) := by decide +kernel
theorem dX8_item_7 : decode cX8_item 7 = .ok (.iconst (-1), 1) := by decide +kernel
theorem dX8_item_8 : decode cX8_item 8 = .ok (.ireturn, 1) := by decide +kernel
theorem dX8_item_9 : decode cX8_item 9 = .ok (.aload_n 0, 1) := by decide +kernel
theorem dX8_item_10 : decode cX8_item 10 = .ok (.getfield 46, 3) := by decide +kernel
theorem dX8_item_13 : decode cX8_item 13 = .ok (.iload_n 1, 1) := by decide +kernel
theorem dX8_item_14 : decode cX8_item 14 = .ok (.iaload, 1) := by decide +kernel
theorem dX8_item_15 : decode cX8_item 15 = .ok (.ifCond .ge 6, 3) := by decide +kernel
theorem dX8_item_18 : decode cX8_item 18 = .ok (.bipush (-11), 2) := by decide +kernel
theorem dX8_item_20 : decode cX8_item 20 = .ok (.ireturn, 1) := by decide +kernel
theorem dX8_item_21 : decode cX8_item 21 = .ok (.iload_n 2, 1) := by decide +kernel
theorem dX8_item_22 : decode cX8_item 22 = .ok (.i2l, 1) := by decide +kernel
theorem dX8_item_23 : decode cX8_item 23 = .ok (.lconst 0, 1) := by decide +kernel
theorem dX8_item_24 : decode cX8_item 24 = .ok (.aload_n 0, 1) := by decide +kernel
theorem dX8_item_25 : decode cX8_item 25 = .ok (.getfield 49, 3) := by decide +kernel
theorem dX8_item_28 : decode cX8_item 28 = .ok (.iload_n 1, 1) := by decide +kernel
theorem dX8_item_29 : decode cX8_item 29 = .ok (.iaload, 1) := by decide +kernel
theorem dX8_item_30 : decode cX8_item 30 = .ok (.iconst 1, 1) := by decide +kernel
theorem dX8_item_31 : decode cX8_item 31 = .ok (.isub, 1) := by decide +kernel
theorem dX8_item_32 : decode cX8_item 32 = .ok (.i2l, 1) := by decide +kernel
theorem dX8_item_33 : decode cX8_item 33 = .ok (.invokestatic 56, 3) := by decide +kernel
theorem dX8_item_36 : decode cX8_item 36 = .ok (.ifCond .ne 6, 3) := by decide +kernel
theorem dX8_item_39 : decode cX8_item 39 = .ok (.bipush (-13), 2) := by decide +kernel
theorem dX8_item_41 : decode cX8_item 41 = .ok (.ireturn, 1) := by decide +kernel
theorem dX8_item_42 : decode cX8_item 42 = .ok (.aload_n 0, 1) := by decide +kernel
theorem dX8_item_43 : decode cX8_item 43 = .ok (.getfield 52, 3) := by decide +kernel
theorem dX8_item_46 : decode cX8_item 46 = .ok (.bipush 60, 2) := by decide +kernel
theorem dX8_item_48 : decode cX8_item 48 = .ok (.iload_n 1, 1) := by decide +kernel
theorem dX8_item_49 : decode cX8_item 49 = .ok (.imul, 1) := by decide +kernel
theorem dX8_item_50 : decode cX8_item 50 = .ok (.iload_n 2, 1) := by decide +kernel
theorem dX8_item_51 : decode cX8_item 51 = .ok (.iadd, 1) := by decide +kernel
theorem dX8_item_52 : decode cX8_item 52 = .ok (.aload_n 0, 1) := by decide +kernel
theorem dX8_item_53 : decode cX8_item 53 = .ok (.getfield 46, 3) := by decide +kernel
theorem dX8_item_56 : decode cX8_item 56 = .ok (.iload_n 1, 1) := by decide +kernel
theorem dX8_item_57 : decode cX8_item 57 = .ok (.iaload, 1) := by decide +kernel
theorem dX8_item_58 : decode cX8_item 58 = .ok (.lload_n 3, 1) := by decide +kernel
theorem dX8_item_59 : decode cX8_item 59 = .ok (.invokestatic 280, 3) := by decide +kernel
theorem dX8_item_62 : decode cX8_item 62 = .ok (.lastore, 1) := by decide +kernel
theorem dX8_item_63 : decode cX8_item 63 = .ok (.iconst 1, 1) := by decide +kernel
theorem dX8_item_64 : decode cX8_item 64 = .ok (.ireturn, 1) := by decide +kernel
theorem dX8_peek_0 : decode cX8_peek 0 = .ok (.iload_n 1, 1) := by decide +kernel
theorem dX8_peek_1 : decode cX8_peek 1 = .ok (.invokestatic 272, 3) := by decide +kernel
theorem dX8_peek_4 : decode cX8_peek 4 = .ok (.ifCond .eq 35, 3) := by decide +kernel
theorem dX8_peek_7 : decode cX8_peek 7 = .ok (.iload_n 2, 1) := by decide +kernel
theorem dX8_peek_8 : decode cX8_peek 8 = .ok (.i2l, 1) := by decide +kernel
theorem dX8_peek_9 : decode cX8_peek 9 = .ok (.lconst 0, 1) := by decide +kernel
theorem dX8_peek_10 : decode cX8_peek 10 = .ok (.aload_n 0, 1) := by decide +kernel
theorem dX8_peek_11 : decode cX8_peek 11 = .ok (.getfield 49, 3) := by decide +kernel
theorem dX8_peek_14 : decode cX8_peek 14 = .ok (.iload_n 1, 1) := by decide +kernel
theorem dX8_peek_15 : decode cX8_peek 15 = .ok (.iaload, 1) := by decide +kernel
theorem dX8_peek_16 : decode cX8_peek 16 = .ok (.iconst 1, 1) := by decide +kernel
theorem dX8_peek_17 : decode cX8_peek 17 = .ok (.isub, 1) := by decide +kernel
theorem dX8_peek_18 : decode cX8_peek 18 = .ok (.i2l, 1) := by decide +kernel
theorem dX8_peek_19 : decode cX8_peek 19 = .ok (.invokestatic 56, 3) := by decide +kernel
theorem dX8_peek_22 : decode cX8_peek 22 = .ok (.ifCond .eq 17, 3) := by decide +kernel
theorem dX8_peek_25 : decode cX8_peek 25 = .ok (.aload_n 0, 1) := by decide +kernel
theorem dX8_peek_26 : decode cX8_peek 26 = .ok (.getfield 52, 3) := by decide +kernel
theorem dX8_peek_29 : decode cX8_peek 29 = .ok (.bipush 60, 2) := by decide +kernel
theorem dX8_peek_31 : decode cX8_peek 31 = .ok (.iload_n 1, 1) := by decide +kernel
theorem dX8_peek_32 : decode cX8_peek 32 = .ok (.imul, 1) := by decide +kernel
theorem dX8_peek_33 : decode cX8_peek 33 = .ok (.iload_n 2, 1) := by decide +kernel
theorem dX8_peek_34 : decode cX8_peek 34 = .ok (.iadd, 1) := by decide +kernel
theorem dX8_peek_35 : decode cX8_peek 35 = .ok (.laload, 1) := by decide +kernel
theorem dX8_peek_36 : decode cX8_peek 36 = .ok (.goto 6, 3) := by decide +kernel
theorem dX8_peek_39 : decode cX8_peek 39 = .ok (.ldc2_w 250, 3) := by decide +kernel
theorem dX8_peek_42 : decode cX8_peek 42 = .ok (.lreturn, 1) := by decide +kernel
theorem dX8_shift_0 : decode cX8_shift 0 = .ok (.iload_n 1, 1) := by decide +kernel
theorem dX8_shift_1 : decode cX8_shift 1 = .ok (.invokestatic 272, 3) := by decide +kernel
theorem dX8_shift_4 : decode cX8_shift 4 = .ok (.ifCond .eq 10, 3) := by decide +kernel
theorem dX8_shift_7 : decode cX8_shift 7 = .ok (.iload_n 3, 1) := by decide +kernel
theorem dX8_shift_8 : decode cX8_shift 8 = .ok (.invokestatic 272, 3) := by decide +kernel
theorem dX8_shift_11 : decode cX8_shift 11 = .ok (.ifCond .ne 5, 3) := by decide +kernel
theorem dX8_shift_14 : decode cX8_shift 14 = .ok (.iconst (-1), 1) := by decide +kernel
theorem dX8_shift_15 : decode cX8_shift 15 = .ok (.ireturn, 1) := by decide +kernel
theorem dX8_shift_16 : decode cX8_shift 16 = .ok (.aload_n 0, 1) := by decide +kernel
theorem dX8_shift_17 : decode cX8_shift 17 = .ok (.getfield 46, 3) := by decide +kernel
theorem dX8_shift_20 : decode cX8_shift 20 = .ok (.iload_n 1, 1) := by decide +kernel
theorem dX8_shift_21 : decode cX8_shift 21 = .ok (.iaload, 1) := by decide +kernel
theorem dX8_shift_22 : decode cX8_shift 22 = .ok (.ifCond .lt 12, 3) := by decide +kernel
theorem dX8_shift_25 : decode cX8_shift 25 = .ok (.aload_n 0, 1) := by decide +kernel
theorem dX8_shift_26 : decode cX8_shift 26 = .ok (.getfield 46, 3) := by decide +kernel
theorem dX8_shift_29 : decode cX8_shift 29 = .ok (.iload_n 3, 1) := by decide +kernel
theorem dX8_shift_30 : decode cX8_shift 30 = .ok (.iaload, 1) := by decide +kernel
theorem dX8_shift_31 : decode cX8_shift 31 = .ok (.ifCond .ge 6, 3) := by decide +kernel
theorem dX8_shift_34 : decode cX8_shift 34 = .ok (.bipush (-11), 2) := by decide +kernel
theorem dX8_shift_36 : decode cX8_shift 36 = .ok (.ireturn, 1) := by decide +kernel
theorem dX8_shift_37 : decode cX8_shift 37 = .ok (.aload_n 0, 1) := by decide +kernel
theorem dX8_shift_38 : decode cX8_shift 38 = .ok (.getfield 46, 3) := by decide +kernel
theorem dX8_shift_41 : decode cX8_shift 41 = .ok (.iload_n 1, 1) := by decide +kernel
theorem dX8_shift_42 : decode cX8_shift 42 = .ok (.iaload, 1) := by decide +kernel
theorem dX8_shift_43 : decode cX8_shift 43 = .ok (.aload_n 0, 1) := by decide +kernel
theorem dX8_shift_44 : decode cX8_shift 44 = .ok (.getfield 46, 3) := by decide +kernel
theorem dX8_shift_47 : decode cX8_shift 47 = .ok (.iload_n 3, 1) := by decide +kernel
theorem dX8_shift_48 : decode cX8_shift 48 = .ok (.iaload, 1) := by decide +kernel
theorem dX8_shift_49 : decode cX8_shift 49 = .ok (.if_icmp .eq 6, 3) := by decide +kernel
theorem dX8_shift_52 : decode cX8_shift 52 = .ok (.bipush (-12), 2) := by decide +kernel
theorem dX8_shift_54 : decode cX8_shift 54 = .ok (.ireturn, 1) := by decide +kernel
theorem dX8_shift_55 : decode cX8_shift 55 = .ok (.iload 5, 2) := by decide +kernel
theorem dX8_shift_57 : decode cX8_shift 57 = .ok (.ifCond .lt 39, 3) := by decide +kernel
theorem dX8_shift_60 : decode cX8_shift 60 = .ok (.iload_n 2, 1) := by decide +kernel
theorem dX8_shift_61 : decode cX8_shift 61 = .ok (.ifCond .lt 35, 3) := by decide +kernel
theorem dX8_shift_64 : decode cX8_shift 64 = .ok (.iload 4, 2) := by decide +kernel
theorem dX8_shift_66 : decode cX8_shift 66 = .ok (.ifCond .lt 30, 3) := by decide +kernel
theorem dX8_shift_69 : decode cX8_shift 69 = .ok (.iload_n 2, 1) := by decide +kernel
theorem dX8_shift_70 : decode cX8_shift 70 = .ok (.aload_n 0, 1) := by decide +kernel
theorem dX8_shift_71 : decode cX8_shift 71 = .ok (.getfield 49, 3) := by decide +kernel
theorem dX8_shift_74 : decode cX8_shift 74 = .ok (.iload_n 1, 1) := by decide +kernel
theorem dX8_shift_75 : decode cX8_shift 75 = .ok (.iaload, 1) := by decide +kernel
theorem dX8_shift_76 : decode cX8_shift 76 = .ok (.iload 5, 2) := by decide +kernel
theorem dX8_shift_78 : decode cX8_shift 78 = .ok (.isub, 1) := by decide +kernel
theorem dX8_shift_79 : decode cX8_shift 79 = .ok (.if_icmp .gt 17, 3) := by decide +kernel
theorem dX8_shift_82 : decode cX8_shift 82 = .ok (.iload 4, 2) := by decide +kernel
theorem dX8_shift_84 : decode cX8_shift 84 = .ok (.aload_n 0, 1) := by decide +kernel
theorem dX8_shift_85 : decode cX8_shift 85 = .ok (.getfield 49, 3) := by decide +kernel
theorem dX8_shift_88 : decode cX8_shift 88 = .ok (.iload_n 3, 1) := by decide +kernel
theorem dX8_shift_89 : decode cX8_shift 89 = .ok (.iaload, 1) := by decide +kernel
theorem dX8_shift_90 : decode cX8_shift 90 = .ok (.iload 5, 2) := by decide +kernel
theorem dX8_shift_92 : decode cX8_shift 92 = .ok (.isub, 1) := by decide +kernel
theorem dX8_shift_93 : decode cX8_shift 93 = .ok (.if_icmp .le 6, 3) := by decide +kernel
theorem dX8_shift_96 : decode cX8_shift 96 = .ok (.bipush (-13), 2) := by decide +kernel
theorem dX8_shift_98 : decode cX8_shift 98 = .ok (.ireturn, 1) := by decide +kernel
theorem dX8_shift_99 : decode cX8_shift 99 = .ok (.iconst 0, 1) := by decide +kernel
theorem dX8_shift_100 : decode cX8_shift 100 = .ok (.istore 6, 2) := by decide +kernel
theorem dX8_shift_102 : decode cX8_shift 102 = .ok (.iload 6, 2) := by decide +kernel
theorem dX8_shift_104 : decode cX8_shift 104 = .ok (.iload 5, 2) := by decide +kernel
theorem dX8_shift_106 : decode cX8_shift 106 = .ok (.if_icmp .ge 58, 3) := by decide +kernel
theorem dX8_shift_109 : decode cX8_shift 109 = .ok (.iload_n 2, 1) := by decide +kernel
theorem dX8_shift_110 : decode cX8_shift 110 = .ok (.iload 4, 2) := by decide +kernel
theorem dX8_shift_112 : decode cX8_shift 112 = .ok (.if_icmp .ge 13, 3) := by decide +kernel
theorem dX8_shift_115 : decode cX8_shift 115 = .ok (.iload 5, 2) := by decide +kernel
theorem dX8_shift_117 : decode cX8_shift 117 = .ok (.iconst 1, 1) := by decide +kernel
theorem dX8_shift_118 : decode cX8_shift 118 = .ok (.isub, 1) := by decide +kernel
theorem dX8_shift_119 : decode cX8_shift 119 = .ok (.iload 6, 2) := by decide +kernel
theorem dX8_shift_121 : decode cX8_shift 121 = .ok (.isub, 1) := by decide +kernel
theorem dX8_shift_122 : decode cX8_shift 122 = .ok (.goto 5, 3) := by decide +kernel
theorem dX8_shift_125 : decode cX8_shift 125 = .ok (.iload 6, 2) := by decide +kernel
theorem dX8_shift_127 : decode cX8_shift 127 = .ok (.istore 7, 2) := by decide +kernel
theorem dX8_shift_129 : decode cX8_shift 129 = .ok (.aload_n 0, 1) := by decide +kernel
theorem dX8_shift_130 : decode cX8_shift 130 = .ok (.getfield 52, 3) := by decide +kernel
theorem dX8_shift_133 : decode cX8_shift 133 = .ok (.bipush 60, 2) := by decide +kernel
theorem dX8_shift_135 : decode cX8_shift 135 = .ok (.iload_n 3, 1) := by decide +kernel
theorem dX8_shift_136 : decode cX8_shift 136 = .ok (.imul, 1) := by decide +kernel
theorem dX8_shift_137 : decode cX8_shift 137 = .ok (.iload 4, 2) := by decide +kernel
theorem dX8_shift_139 : decode cX8_shift 139 = .ok (.iadd, 1) := by decide +kernel
theorem dX8_shift_140 : decode cX8_shift 140 = .ok (.iload 7, 2) := by decide +kernel
theorem dX8_shift_142 : decode cX8_shift 142 = .ok (.iadd, 1) := by decide +kernel
theorem dX8_shift_143 : decode cX8_shift 143 = .ok (.aload_n 0, 1) := by decide +kernel
theorem dX8_shift_144 : decode cX8_shift 144 = .ok (.getfield 52, 3) := by decide +kernel
theorem dX8_shift_147 : decode cX8_shift 147 = .ok (.bipush 60, 2) := by decide +kernel
theorem dX8_shift_149 : decode cX8_shift 149 = .ok (.iload_n 1, 1) := by decide +kernel
theorem dX8_shift_150 : decode cX8_shift 150 = .ok (.imul, 1) := by decide +kernel
theorem dX8_shift_151 : decode cX8_shift 151 = .ok (.iload_n 2, 1) := by decide +kernel
theorem dX8_shift_152 : decode cX8_shift 152 = .ok (.iadd, 1) := by decide +kernel
theorem dX8_shift_153 : decode cX8_shift 153 = .ok (.iload 7, 2) := by decide +kernel
theorem dX8_shift_155 : decode cX8_shift 155 = .ok (.iadd, 1) := by decide +kernel
theorem dX8_shift_156 : decode cX8_shift 156 = .ok (.laload, 1) := by decide +kernel
theorem dX8_shift_157 : decode cX8_shift 157 = .ok (.lastore, 1) := by decide +kernel
theorem dX8_shift_158 : decode cX8_shift 158 = .ok (.iinc 6 1, 3) := by decide +kernel
theorem dX8_shift_161 : decode cX8_shift 161 = .ok (.goto (-59), 3) := by decide +kernel
theorem dX8_shift_164 : decode cX8_shift 164 = .ok (.iload 5, 2) := by decide +kernel
theorem dX8_shift_166 : decode cX8_shift 166 = .ok (.ireturn, 1) := by decide +kernel
end
section
theorem dX1_isMove_0 : decode cX1_isMove 0 = .ok (.iload_n 0, 1) := by decide +kernel
theorem dX1_isMove_1 : decode cX1_isMove 1 = .ok (.ifCond .lt 13, 3) := by decide +kernel
theorem dX1_isMove_4 : decode cX1_isMove 4 = .ok (.iload_n 0, 1) := by decide +kernel
theorem dX1_isMove_5 : decode cX1_isMove 5 = .ok (.bipush 48, 2) := by decide +kernel
theorem dX1_isMove_7 : decode cX1_isMove 7 = .ok (.if_icmp .ge 7, 3) := by decide +kernel
theorem dX1_isMove_10 : decode cX1_isMove 10 = .ok (.iconst 1, 1) := by decide +kernel
theorem dX1_isMove_11 : decode cX1_isMove 11 = .ok (.goto 4, 3) := by decide +kernel
theorem dX1_isMove_14 : decode cX1_isMove 14 = .ok (.iconst 0, 1) := by decide +kernel
theorem dX1_isMove_15 : decode cX1_isMove 15 = .ok (.ireturn, 1) := by decide +kernel
theorem dX1_axisAt_0 : decode cX1_axisAt 0 = .ok (.getstatic 9, 3) := by decide +kernel
theorem dX1_axisAt_3 : decode cX1_axisAt 3 = .ok (.iconst 3, 1) := by decide +kernel
theorem dX1_axisAt_4 : decode cX1_axisAt 4 = .ok (.iload_n 0, 1) := by decide +kernel
theorem dX1_axisAt_5 : decode cX1_axisAt 5 = .ok (.bipush 8, 2) := by decide +kernel
theorem dX1_axisAt_7 : decode cX1_axisAt 7 = .ok (.idiv, 1) := by decide +kernel
theorem dX1_axisAt_8 : decode cX1_axisAt 8 = .ok (.imul, 1) := by decide +kernel
theorem dX1_axisAt_9 : decode cX1_axisAt 9 = .ok (.iload_n 1, 1) := by decide +kernel
theorem dX1_axisAt_10 : decode cX1_axisAt 10 = .ok (.iadd, 1) := by decide +kernel
theorem dX1_axisAt_11 : decode cX1_axisAt 11 = .ok (.iaload, 1) := by decide +kernel
theorem dX1_axisAt_12 : decode cX1_axisAt 12 = .ok (.ireturn, 1) := by decide +kernel
theorem dX1_signBit_0 : decode cX1_signBit 0 = .ok (.iload_n 0, 1) := by decide +kernel
theorem dX1_signBit_1 : decode cX1_signBit 1 = .ok (.iload_n 1, 1) := by decide +kernel
theorem dX1_signBit_2 : decode cX1_signBit 2 = .ok (.ishr, 1) := by decide +kernel
theorem dX1_signBit_3 : decode cX1_signBit 3 = .ok (.iconst 1, 1) := by decide +kernel
theorem dX1_signBit_4 : decode cX1_signBit 4 = .ok (.iand, 1) := by decide +kernel
theorem dX1_signBit_5 : decode cX1_signBit 5 = .ok (.ireturn, 1) := by decide +kernel
theorem dX1_multiply_0 : decode cX1_multiply 0 = .ok (.iconst 0, 1) := by decide +kernel
theorem dX1_multiply_1 : decode cX1_multiply 1 = .ok (.istore_n 2, 1) := by decide +kernel
theorem dX1_multiply_2 : decode cX1_multiply 2 = .ok (.iconst 0, 1) := by decide +kernel
theorem dX1_multiply_3 : decode cX1_multiply 3 = .ok (.istore_n 3, 1) := by decide +kernel
theorem dX1_multiply_4 : decode cX1_multiply 4 = .ok (.iload_n 3, 1) := by decide +kernel
theorem dX1_multiply_5 : decode cX1_multiply 5 = .ok (.iconst 3, 1) := by decide +kernel
theorem dX1_multiply_6 : decode cX1_multiply 6 = .ok (.if_icmp .ge 29, 3) := by decide +kernel
theorem dX1_multiply_9 : decode cX1_multiply 9 = .ok (.iload_n 2, 1) := by decide +kernel
theorem dX1_multiply_10 : decode cX1_multiply 10 = .ok (.iload_n 0, 1) := by decide +kernel
theorem dX1_multiply_11 : decode cX1_multiply 11 = .ok (.iload_n 3, 1) := by decide +kernel
theorem dX1_multiply_12 : decode cX1_multiply 12 = .ok (.invokestatic 13, 3) := by decide +kernel
theorem dX1_multiply_15 : decode cX1_multiply 15 = .ok (.iload_n 1, 1) := by decide +kernel
theorem dX1_multiply_16 : decode cX1_multiply 16 = .ok (.iload_n 0, 1) := by decide +kernel
theorem dX1_multiply_17 : decode cX1_multiply 17 = .ok (.iload_n 3, 1) := by decide +kernel
theorem dX1_multiply_18 : decode cX1_multiply 18 = .ok (.invokestatic 17, 3) := by decide +kernel
theorem dX1_multiply_21 : decode cX1_multiply 21 = .ok (.invokestatic 13, 3) := by decide +kernel
theorem dX1_multiply_24 : decode cX1_multiply 24 = .ok (.ixor, 1) := by decide +kernel
theorem dX1_multiply_25 : decode cX1_multiply 25 = .ok (.iload_n 3, 1) := by decide +kernel
theorem dX1_multiply_26 : decode cX1_multiply 26 = .ok (.ishl, 1) := by decide +kernel
theorem dX1_multiply_27 : decode cX1_multiply 27 = .ok (.ior, 1) := by decide +kernel
theorem dX1_multiply_28 : decode cX1_multiply 28 = .ok (.istore_n 2, 1) := by decide +kernel
theorem dX1_multiply_29 : decode cX1_multiply 29 = .ok (.iinc 3 1, 3) := by decide +kernel
theorem dX1_multiply_32 : decode cX1_multiply 32 = .ok (.goto (-28), 3) := by decide +kernel
theorem dX1_multiply_35 : decode cX1_multiply 35 = .ok (.iload_n 1, 1) := by decide +kernel
theorem dX1_multiply_36 : decode cX1_multiply 36 = .ok (.iload_n 0, 1) := by decide +kernel
theorem dX1_multiply_37 : decode cX1_multiply 37 = .ok (.iconst 0, 1) := by decide +kernel
theorem dX1_multiply_38 : decode cX1_multiply 38 = .ok (.invokestatic 17, 3) := by decide +kernel
theorem dX1_multiply_41 : decode cX1_multiply 41 = .ok (.invokestatic 17, 3) := by decide +kernel
theorem dX1_multiply_44 : decode cX1_multiply 44 = .ok (.istore_n 3, 1) := by decide +kernel
theorem dX1_multiply_45 : decode cX1_multiply 45 = .ok (.iload_n 1, 1) := by decide +kernel
theorem dX1_multiply_46 : decode cX1_multiply 46 = .ok (.iload_n 0, 1) := by decide +kernel
theorem dX1_multiply_47 : decode cX1_multiply 47 = .ok (.iconst 1, 1) := by decide +kernel
theorem dX1_multiply_48 : decode cX1_multiply 48 = .ok (.invokestatic 17, 3) := by decide +kernel
theorem dX1_multiply_51 : decode cX1_multiply 51 = .ok (.invokestatic 17, 3) := by decide +kernel
theorem dX1_multiply_54 : decode cX1_multiply 54 = .ok (.istore 4, 2) := by decide +kernel
theorem dX1_multiply_56 : decode cX1_multiply 56 = .ok (.iload_n 1, 1) := by decide +kernel
theorem dX1_multiply_57 : decode cX1_multiply 57 = .ok (.iload_n 0, 1) := by decide +kernel
theorem dX1_multiply_58 : decode cX1_multiply 58 = .ok (.iconst 2, 1) := by decide +kernel
theorem dX1_multiply_59 : decode cX1_multiply 59 = .ok (.invokestatic 17, 3) := by decide +kernel
theorem dX1_multiply_62 : decode cX1_multiply 62 = .ok (.invokestatic 17, 3) := by decide +kernel
theorem dX1_multiply_65 : decode cX1_multiply 65 = .ok (.istore 5, 2) := by decide +kernel
theorem dX1_multiply_67 : decode cX1_multiply 67 = .ok (.iconst 2, 1) := by decide +kernel
theorem dX1_multiply_68 : decode cX1_multiply 68 = .ok (.iload_n 3, 1) := by decide +kernel
theorem dX1_multiply_69 : decode cX1_multiply 69 = .ok (.imul, 1) := by decide +kernel
theorem dX1_multiply_70 : decode cX1_multiply 70 = .ok (.iload 4, 2) := by decide +kernel
theorem dX1_multiply_72 : decode cX1_multiply 72 = .ok (.iload 5, 2) := by decide +kernel
theorem dX1_multiply_74 : decode cX1_multiply 74 = .ok (.if_icmp .le 7, 3) := by decide +kernel
theorem dX1_multiply_77 : decode cX1_multiply 77 = .ok (.iconst 1, 1) := by decide +kernel
theorem dX1_multiply_78 : decode cX1_multiply 78 = .ok (.goto 4, 3) := by decide +kernel
theorem dX1_multiply_81 : decode cX1_multiply 81 = .ok (.iconst 0, 1) := by decide +kernel
theorem dX1_multiply_82 : decode cX1_multiply 82 = .ok (.iadd, 1) := by decide +kernel
theorem dX1_multiply_83 : decode cX1_multiply 83 = .ok (.istore 6, 2) := by decide +kernel
theorem dX1_multiply_85 : decode cX1_multiply 85 = .ok (.bipush 8, 2) := by decide +kernel
theorem dX1_multiply_87 : decode cX1_multiply 87 = .ok (.iload 6, 2) := by decide +kernel
theorem dX1_multiply_89 : decode cX1_multiply 89 = .ok (.imul, 1) := by decide +kernel
theorem dX1_multiply_90 : decode cX1_multiply 90 = .ok (.iload_n 2, 1) := by decide +kernel
theorem dX1_multiply_91 : decode cX1_multiply 91 = .ok (.iadd, 1) := by decide +kernel
theorem dX1_multiply_92 : decode cX1_multiply 92 = .ok (.ireturn, 1) := by decide +kernel
theorem dX1_invert_0 : decode cX1_invert 0 = .ok (.iconst 0, 1) := by decide +kernel
theorem dX1_invert_1 : decode cX1_invert 1 = .ok (.istore_n 1, 1) := by decide +kernel
theorem dX1_invert_2 : decode cX1_invert 2 = .ok (.iconst 0, 1) := by decide +kernel
theorem dX1_invert_3 : decode cX1_invert 3 = .ok (.istore_n 2, 1) := by decide +kernel
theorem dX1_invert_4 : decode cX1_invert 4 = .ok (.iload_n 2, 1) := by decide +kernel
theorem dX1_invert_5 : decode cX1_invert 5 = .ok (.iconst 3, 1) := by decide +kernel
theorem dX1_invert_6 : decode cX1_invert 6 = .ok (.if_icmp .ge 23, 3) := by decide +kernel
theorem dX1_invert_9 : decode cX1_invert 9 = .ok (.iload_n 1, 1) := by decide +kernel
theorem dX1_invert_10 : decode cX1_invert 10 = .ok (.iload_n 0, 1) := by decide +kernel
theorem dX1_invert_11 : decode cX1_invert 11 = .ok (.iload_n 2, 1) := by decide +kernel
theorem dX1_invert_12 : decode cX1_invert 12 = .ok (.invokestatic 13, 3) := by decide +kernel
theorem dX1_invert_15 : decode cX1_invert 15 = .ok (.iload_n 0, 1) := by decide +kernel
theorem dX1_invert_16 : decode cX1_invert 16 = .ok (.iload_n 2, 1) := by decide +kernel
theorem dX1_invert_17 : decode cX1_invert 17 = .ok (.invokestatic 17, 3) := by decide +kernel
theorem dX1_invert_20 : decode cX1_invert 20 = .ok (.ishl, 1) := by decide +kernel
theorem dX1_invert_21 : decode cX1_invert 21 = .ok (.ior, 1) := by decide +kernel
theorem dX1_invert_22 : decode cX1_invert 22 = .ok (.istore_n 1, 1) := by decide +kernel
theorem dX1_invert_23 : decode cX1_invert 23 = .ok (.iinc 2 1, 3) := by decide +kernel
theorem dX1_invert_26 : decode cX1_invert 26 = .ok (.goto (-22), 3) := by decide +kernel
theorem dX1_invert_29 : decode cX1_invert 29 = .ok (.bipush 8, 2) := by decide +kernel
theorem dX1_invert_31 : decode cX1_invert 31 = .ok (.getstatic 20, 3) := by decide +kernel
theorem dX1_invert_34 : decode cX1_invert 34 = .ok (.iload_n 0, 1) := by decide +kernel
theorem dX1_invert_35 : decode cX1_invert 35 = .ok (.bipush 8, 2) := by decide +kernel
theorem dX1_invert_37 : decode cX1_invert 37 = .ok (.idiv, 1) := by decide +kernel
theorem dX1_invert_38 : decode cX1_invert 38 = .ok (.iaload, 1) := by decide +kernel
theorem dX1_invert_39 : decode cX1_invert 39 = .ok (.imul, 1) := by decide +kernel
theorem dX1_invert_40 : decode cX1_invert 40 = .ok (.iload_n 1, 1) := by decide +kernel
theorem dX1_invert_41 : decode cX1_invert 41 = .ok (.iadd, 1) := by decide +kernel
theorem dX1_invert_42 : decode cX1_invert 42 = .ok (.ireturn, 1) := by decide +kernel
theorem dX1_orderOf_0 : decode cX1_orderOf 0 = .ok (.iconst 1, 1) := by decide +kernel
theorem dX1_orderOf_1 : decode cX1_orderOf 1 = .ok (.istore_n 1, 1) := by decide +kernel
theorem dX1_orderOf_2 : decode cX1_orderOf 2 = .ok (.iload_n 0, 1) := by decide +kernel
theorem dX1_orderOf_3 : decode cX1_orderOf 3 = .ok (.istore_n 2, 1) := by decide +kernel
theorem dX1_orderOf_4 : decode cX1_orderOf 4 = .ok (.iload_n 2, 1) := by decide +kernel
theorem dX1_orderOf_5 : decode cX1_orderOf 5 = .ok (.ifCond .eq 21, 3) := by decide +kernel
theorem dX1_orderOf_8 : decode cX1_orderOf 8 = .ok (.iload_n 1, 1) := by decide +kernel
theorem dX1_orderOf_9 : decode cX1_orderOf 9 = .ok (.bipush 6, 2) := by decide +kernel
theorem dX1_orderOf_11 : decode cX1_orderOf 11 = .ok (.if_icmp .ge 15, 3) := by decide +kernel
theorem dX1_orderOf_14 : decode cX1_orderOf 14 = .ok (.iload_n 0, 1) := by decide +kernel
theorem dX1_orderOf_15 : decode cX1_orderOf 15 = .ok (.iload_n 2, 1) := by decide +kernel
theorem dX1_orderOf_16 : decode cX1_orderOf 16 = .ok (.invokestatic 23, 3) := by decide +kernel
theorem dX1_orderOf_19 : decode cX1_orderOf 19 = .ok (.istore_n 2, 1) := by decide +kernel
theorem dX1_orderOf_20 : decode cX1_orderOf 20 = .ok (.iinc 1 1, 3) := by decide +kernel
theorem dX1_orderOf_23 : decode cX1_orderOf 23 = .ok (.goto (-19), 3) := by decide +kernel
theorem dX1_orderOf_26 : decode cX1_orderOf 26 = .ok (.iload_n 1, 1) := by decide +kernel
theorem dX1_orderOf_27 : decode cX1_orderOf 27 = .ok (.ireturn, 1) := by decide +kernel
theorem dX1_traceOf_0 : decode cX1_traceOf 0 = .ok (.iconst 0, 1) := by decide +kernel
theorem dX1_traceOf_1 : decode cX1_traceOf 1 = .ok (.istore_n 1, 1) := by decide +kernel
theorem dX1_traceOf_2 : decode cX1_traceOf 2 = .ok (.iconst 0, 1) := by decide +kernel
theorem dX1_traceOf_3 : decode cX1_traceOf 3 = .ok (.istore_n 2, 1) := by decide +kernel
theorem dX1_traceOf_4 : decode cX1_traceOf 4 = .ok (.iload_n 2, 1) := by decide +kernel
theorem dX1_traceOf_5 : decode cX1_traceOf 5 = .ok (.iconst 3, 1) := by decide +kernel
theorem dX1_traceOf_6 : decode cX1_traceOf 6 = .ok (.if_icmp .ge 30, 3) := by decide +kernel
theorem dX1_traceOf_9 : decode cX1_traceOf 9 = .ok (.iload_n 0, 1) := by decide +kernel
theorem dX1_traceOf_10 : decode cX1_traceOf 10 = .ok (.iload_n 2, 1) := by decide +kernel
theorem dX1_traceOf_11 : decode cX1_traceOf 11 = .ok (.invokestatic 17, 3) := by decide +kernel
theorem dX1_traceOf_14 : decode cX1_traceOf 14 = .ok (.iload_n 2, 1) := by decide +kernel
theorem dX1_traceOf_15 : decode cX1_traceOf 15 = .ok (.if_icmp .ne 15, 3) := by decide +kernel
theorem dX1_traceOf_18 : decode cX1_traceOf 18 = .ok (.iload_n 1, 1) := by decide +kernel
theorem dX1_traceOf_19 : decode cX1_traceOf 19 = .ok (.iconst 1, 1) := by decide +kernel
theorem dX1_traceOf_20 : decode cX1_traceOf 20 = .ok (.iconst 2, 1) := by decide +kernel
theorem dX1_traceOf_21 : decode cX1_traceOf 21 = .ok (.iload_n 0, 1) := by decide +kernel
theorem dX1_traceOf_22 : decode cX1_traceOf 22 = .ok (.iload_n 2, 1) := by decide +kernel
theorem dX1_traceOf_23 : decode cX1_traceOf 23 = .ok (.invokestatic 13, 3) := by decide +kernel
theorem dX1_traceOf_26 : decode cX1_traceOf 26 = .ok (.imul, 1) := by decide +kernel
theorem dX1_traceOf_27 : decode cX1_traceOf 27 = .ok (.isub, 1) := by decide +kernel
theorem dX1_traceOf_28 : decode cX1_traceOf 28 = .ok (.iadd, 1) := by decide +kernel
theorem dX1_traceOf_29 : decode cX1_traceOf 29 = .ok (.istore_n 1, 1) := by decide +kernel
theorem dX1_traceOf_30 : decode cX1_traceOf 30 = .ok (.iinc 2 1, 3) := by decide +kernel
theorem dX1_traceOf_33 : decode cX1_traceOf 33 = .ok (.goto (-29), 3) := by decide +kernel
theorem dX1_traceOf_36 : decode cX1_traceOf 36 = .ok (.iload_n 1, 1) := by decide +kernel
theorem dX1_traceOf_37 : decode cX1_traceOf 37 = .ok (.ireturn, 1) := by decide +kernel
theorem dX1_turnOf_0 : decode cX1_turnOf 0 = .ok (.getstatic 26, 3) := by decide +kernel
theorem dX1_turnOf_3 : decode cX1_turnOf 3 = .ok (.iload_n 0, 1) := by decide +kernel
theorem dX1_turnOf_4 : decode cX1_turnOf 4 = .ok (.bipush 8, 2) := by decide +kernel
theorem dX1_turnOf_6 : decode cX1_turnOf 6 = .ok (.idiv, 1) := by decide +kernel
theorem dX1_turnOf_7 : decode cX1_turnOf 7 = .ok (.iaload, 1) := by decide +kernel
theorem dX1_turnOf_8 : decode cX1_turnOf 8 = .ok (.istore_n 1, 1) := by decide +kernel
theorem dX1_turnOf_9 : decode cX1_turnOf 9 = .ok (.iload_n 0, 1) := by decide +kernel
theorem dX1_turnOf_10 : decode cX1_turnOf 10 = .ok (.bipush 8, 2) := by decide +kernel
theorem dX1_turnOf_12 : decode cX1_turnOf 12 = .ok (.irem, 1) := by decide +kernel
theorem dX1_turnOf_13 : decode cX1_turnOf 13 = .ok (.invokestatic 29, 3) := by decide +kernel
theorem dX1_turnOf_16 : decode cX1_turnOf 16 = .ok (.iconst 2, 1) := by decide +kernel
theorem dX1_turnOf_17 : decode cX1_turnOf 17 = .ok (.irem, 1) := by decide +kernel
theorem dX1_turnOf_18 : decode cX1_turnOf 18 = .ok (.ifCond .ne 7, 3) := by decide +kernel
theorem dX1_turnOf_21 : decode cX1_turnOf 21 = .ok (.iload_n 1, 1) := by decide +kernel
theorem dX1_turnOf_22 : decode cX1_turnOf 22 = .ok (.goto 5, 3) := by decide +kernel
theorem dX1_turnOf_25 : decode cX1_turnOf 25 = .ok (.iload_n 1, 1) := by decide +kernel
theorem dX1_turnOf_26 : decode cX1_turnOf 26 = .ok (.ineg, 1) := by decide +kernel
theorem dX1_turnOf_27 : decode cX1_turnOf 27 = .ok (.ireturn, 1) := by decide +kernel
theorem dX2_init_0 : decode cX2_init 0 = .ok (.aload_n 0, 1) := by decide +kernel
theorem dX2_init_1 : decode cX2_init 1 = .ok (.invokespecial 1, 3) := by decide +kernel
theorem dX2_init_4 : decode cX2_init 4 = .ok (.aload_n 0, 1) := by decide +kernel
theorem dX2_init_5 : decode cX2_init 5 = .ok (.iconst 0, 1) := by decide +kernel
theorem dX2_init_6 : decode cX2_init 6 = .ok (.putfield 7, 3) := by decide +kernel
theorem dX2_init_9 : decode cX2_init 9 = .ok (.aload_n 0, 1) := by decide +kernel
theorem dX2_init_10 : decode cX2_init 10 = .ok (.iload_n 1, 1) := by decide +kernel
theorem dX2_init_11 : decode cX2_init 11 = .ok (.newarray .int, 2) := by decide +kernel
theorem dX2_init_13 : decode cX2_init 13 = .ok (.putfield 13, 3) := by decide +kernel
theorem dX2_init_16 : decode cX2_init 16 = .ok (.aload_n 0, 1) := by decide +kernel
theorem dX2_init_17 : decode cX2_init 17 = .ok (.iload_n 1, 1) := by decide +kernel
theorem dX2_init_18 : decode cX2_init 18 = .ok (.newarray .int, 2) := by decide +kernel
theorem dX2_init_20 : decode cX2_init 20 = .ok (.putfield 17, 3) := by decide +kernel
theorem dX2_init_23 : decode cX2_init 23 = .ok (.return_, 1) := by decide +kernel
theorem dX2_isFull_0 : decode cX2_isFull 0 = .ok (.aload_n 0, 1) := by decide +kernel
theorem dX2_isFull_1 : decode cX2_isFull 1 = .ok (.getfield 7, 3) := by decide +kernel
theorem dX2_isFull_4 : decode cX2_isFull 4 = .ok (.aload_n 0, 1) := by decide +kernel
theorem dX2_isFull_5 : decode cX2_isFull 5 = .ok (.getfield 13, 3) := by decide +kernel
theorem dX2_isFull_8 : decode cX2_isFull 8 = .ok (.arraylength, 1) := by decide +kernel
theorem dX2_isFull_9 : decode cX2_isFull 9 = .ok (.if_icmp .ne 7, 3) := by decide +kernel
theorem dX2_isFull_12 : decode cX2_isFull 12 = .ok (.iconst 1, 1) := by decide +kernel
theorem dX2_isFull_13 : decode cX2_isFull 13 = .ok (.goto 4, 3) := by decide +kernel
theorem dX2_isFull_16 : decode cX2_isFull 16 = .ok (.iconst 0, 1) := by decide +kernel
theorem dX2_isFull_17 : decode cX2_isFull 17 = .ok (.ireturn, 1) := by decide +kernel
theorem dX2_add_0 : decode cX2_add 0 = .ok (.aload_n 0, 1) := by decide +kernel
theorem dX2_add_1 : decode cX2_add 1 = .ok (.getfield 13, 3) := by decide +kernel
theorem dX2_add_4 : decode cX2_add 4 = .ok (.aload_n 0, 1) := by decide +kernel
theorem dX2_add_5 : decode cX2_add 5 = .ok (.getfield 7, 3) := by decide +kernel
theorem dX2_add_8 : decode cX2_add 8 = .ok (.iload_n 1, 1) := by decide +kernel
theorem dX2_add_9 : decode cX2_add 9 = .ok (.iastore, 1) := by decide +kernel
theorem dX2_add_10 : decode cX2_add 10 = .ok (.aload_n 0, 1) := by decide +kernel
theorem dX2_add_11 : decode cX2_add 11 = .ok (.getfield 17, 3) := by decide +kernel
theorem dX2_add_14 : decode cX2_add 14 = .ok (.aload_n 0, 1) := by decide +kernel
theorem dX2_add_15 : decode cX2_add 15 = .ok (.getfield 7, 3) := by decide +kernel
theorem dX2_add_18 : decode cX2_add 18 = .ok (.iload_n 2, 1) := by decide +kernel
theorem dX2_add_19 : decode cX2_add 19 = .ok (.iastore, 1) := by decide +kernel
theorem dX2_add_20 : decode cX2_add 20 = .ok (.aload_n 0, 1) := by decide +kernel
theorem dX2_add_21 : decode cX2_add 21 = .ok (.dup, 1) := by decide +kernel
theorem dX2_add_22 : decode cX2_add 22 = .ok (.getfield 7, 3) := by decide +kernel
theorem dX2_add_25 : decode cX2_add 25 = .ok (.iconst 1, 1) := by decide +kernel
theorem dX2_add_26 : decode cX2_add 26 = .ok (.iadd, 1) := by decide +kernel
theorem dX2_add_27 : decode cX2_add 27 = .ok (.putfield 7, 3) := by decide +kernel
theorem dX2_add_30 : decode cX2_add 30 = .ok (.aload_n 0, 1) := by decide +kernel
theorem dX2_add_31 : decode cX2_add 31 = .ok (.getfield 7, 3) := by decide +kernel
theorem dX2_add_34 : decode cX2_add 34 = .ok (.ireturn, 1) := by decide +kernel
theorem dX2_empty_0 : decode cX2_empty 0 = .ok (.aload_n 0, 1) := by decide +kernel
theorem dX2_empty_1 : decode cX2_empty 1 = .ok (.iconst 0, 1) := by decide +kernel
theorem dX2_empty_2 : decode cX2_empty 2 = .ok (.putfield 7, 3) := by decide +kernel
theorem dX2_empty_5 : decode cX2_empty 5 = .ok (.iconst 0, 1) := by decide +kernel
theorem dX2_empty_6 : decode cX2_empty 6 = .ok (.ireturn, 1) := by decide +kernel
theorem dX2_become_0 : decode cX2_become 0 = .ok (.aload_n 1, 1) := by decide +kernel
theorem dX2_become_1 : decode cX2_become 1 = .ok (.getfield 13, 3) := by decide +kernel
theorem dX2_become_4 : decode cX2_become 4 = .ok (.iconst 0, 1) := by decide +kernel
theorem dX2_become_5 : decode cX2_become 5 = .ok (.aload_n 0, 1) := by decide +kernel
theorem dX2_become_6 : decode cX2_become 6 = .ok (.getfield 13, 3) := by decide +kernel
theorem dX2_become_9 : decode cX2_become 9 = .ok (.iconst 0, 1) := by decide +kernel
theorem dX2_become_10 : decode cX2_become 10 = .ok (.aload_n 1, 1) := by decide +kernel
theorem dX2_become_11 : decode cX2_become 11 = .ok (.getfield 7, 3) := by decide +kernel
theorem dX2_become_14 : decode cX2_become 14 = .ok (.invokestatic 20, 3) := by decide +kernel
theorem dX2_become_17 : decode cX2_become 17 = .ok (.aload_n 1, 1) := by decide +kernel
theorem dX2_become_18 : decode cX2_become 18 = .ok (.getfield 17, 3) := by decide +kernel
theorem dX2_become_21 : decode cX2_become 21 = .ok (.iconst 0, 1) := by decide +kernel
theorem dX2_become_22 : decode cX2_become 22 = .ok (.aload_n 0, 1) := by decide +kernel
theorem dX2_become_23 : decode cX2_become 23 = .ok (.getfield 17, 3) := by decide +kernel
theorem dX2_become_26 : decode cX2_become 26 = .ok (.iconst 0, 1) := by decide +kernel
theorem dX2_become_27 : decode cX2_become 27 = .ok (.aload_n 1, 1) := by decide +kernel
theorem dX2_become_28 : decode cX2_become 28 = .ok (.getfield 7, 3) := by decide +kernel
theorem dX2_become_31 : decode cX2_become 31 = .ok (.invokestatic 20, 3) := by decide +kernel
theorem dX2_become_34 : decode cX2_become 34 = .ok (.aload_n 0, 1) := by decide +kernel
theorem dX2_become_35 : decode cX2_become 35 = .ok (.aload_n 1, 1) := by decide +kernel
theorem dX2_become_36 : decode cX2_become 36 = .ok (.getfield 7, 3) := by decide +kernel
theorem dX2_become_39 : decode cX2_become 39 = .ok (.putfield 7, 3) := by decide +kernel
theorem dX2_become_42 : decode cX2_become 42 = .ok (.return_, 1) := by decide +kernel
theorem dX3_init_0 : decode cX3_init 0 = .ok (.aload_n 0, 1) := by decide +kernel
theorem dX3_init_1 : decode cX3_init 1 = .ok (.invokespecial 1, 3) := by decide +kernel
theorem dX3_init_4 : decode cX3_init 4 = .ok (.aload_n 0, 1) := by decide +kernel
theorem dX3_init_5 : decode cX3_init 5 = .ok (.new 7, 3) := by decide +kernel
theorem dX3_init_8 : decode cX3_init 8 = .ok (.dup, 1) := by decide +kernel
theorem dX3_init_9 : decode cX3_init 9 = .ok (.invokespecial 9, 3) := by decide +kernel
theorem dX3_init_12 : decode cX3_init 12 = .ok (.putfield 10, 3) := by decide +kernel
theorem dX3_init_15 : decode cX3_init 15 = .ok (.aload_n 0, 1) := by decide +kernel
theorem dX3_init_16 : decode cX3_init 16 = .ok (.new 16, 3) := by decide +kernel
theorem dX3_init_19 : decode cX3_init 19 = .ok (.dup, 1) := by decide +kernel
theorem dX3_init_20 : decode cX3_init 20 = .ok (.iconst 5, 1) := by decide +kernel
theorem dX3_init_21 : decode cX3_init 21 = .ok (.invokespecial 18, 3) := by decide +kernel
theorem dX3_init_24 : decode cX3_init 24 = .ok (.putfield 21, 3) := by decide +kernel
theorem dX3_init_27 : decode cX3_init 27 = .ok (.aload_n 0, 1) := by decide +kernel
theorem dX3_init_28 : decode cX3_init 28 = .ok (.new 16, 3) := by decide +kernel
theorem dX3_init_31 : decode cX3_init 31 = .ok (.dup, 1) := by decide +kernel
theorem dX3_init_32 : decode cX3_init 32 = .ok (.bipush 8, 2) := by decide +kernel
theorem dX3_init_34 : decode cX3_init 34 = .ok (.invokespecial 18, 3) := by decide +kernel
theorem dX3_init_37 : decode cX3_init 37 = .ok (.putfield 25, 3) := by decide +kernel
theorem dX3_init_40 : decode cX3_init 40 = .ok (.aload_n 0, 1) := by decide +kernel
theorem dX3_init_41 : decode cX3_init 41 = .ok (.new 16, 3) := by decide +kernel
theorem dX3_init_44 : decode cX3_init 44 = .ok (.dup, 1) := by decide +kernel
theorem dX3_init_45 : decode cX3_init 45 = .ok (.bipush 8, 2) := by decide +kernel
theorem dX3_init_47 : decode cX3_init 47 = .ok (.invokespecial 18, 3) := by decide +kernel
theorem dX3_init_50 : decode cX3_init 50 = .ok (.putfield 28, 3) := by decide +kernel
theorem dX3_init_53 : decode cX3_init 53 = .ok (.return_, 1) := by decide +kernel
theorem dX3_become_0 : decode cX3_become 0 = .ok (.aload_n 0, 1) := by decide +kernel
theorem dX3_become_1 : decode cX3_become 1 = .ok (.getfield 10, 3) := by decide +kernel
theorem dX3_become_4 : decode cX3_become 4 = .ok (.aload_n 1, 1) := by decide +kernel
theorem dX3_become_5 : decode cX3_become 5 = .ok (.getfield 10, 3) := by decide +kernel
theorem dX3_become_8 : decode cX3_become 8 = .ok (.invokevirtual 31, 3) := by decide +kernel
theorem dX3_become_11 : decode cX3_become 11 = .ok (.aload_n 0, 1) := by decide +kernel
theorem dX3_become_12 : decode cX3_become 12 = .ok (.getfield 21, 3) := by decide +kernel
theorem dX3_become_15 : decode cX3_become 15 = .ok (.aload_n 1, 1) := by decide +kernel
theorem dX3_become_16 : decode cX3_become 16 = .ok (.getfield 21, 3) := by decide +kernel
theorem dX3_become_19 : decode cX3_become 19 = .ok (.invokevirtual 35, 3) := by decide +kernel
theorem dX3_become_22 : decode cX3_become 22 = .ok (.aload_n 0, 1) := by decide +kernel
theorem dX3_become_23 : decode cX3_become 23 = .ok (.getfield 25, 3) := by decide +kernel
theorem dX3_become_26 : decode cX3_become 26 = .ok (.aload_n 1, 1) := by decide +kernel
theorem dX3_become_27 : decode cX3_become 27 = .ok (.getfield 25, 3) := by decide +kernel
theorem dX3_become_30 : decode cX3_become 30 = .ok (.invokevirtual 35, 3) := by decide +kernel
theorem dX3_become_33 : decode cX3_become 33 = .ok (.aload_n 0, 1) := by decide +kernel
theorem dX3_become_34 : decode cX3_become 34 = .ok (.getfield 28, 3) := by decide +kernel
theorem dX3_become_37 : decode cX3_become 37 = .ok (.aload_n 1, 1) := by decide +kernel
theorem dX3_become_38 : decode cX3_become 38 = .ok (.getfield 28, 3) := by decide +kernel
theorem dX3_become_41 : decode cX3_become 41 = .ok (.invokevirtual 35, 3) := by decide +kernel
theorem dX3_become_44 : decode cX3_become 44 = .ok (.return_, 1) := by decide +kernel
theorem dX5_init_0 : decode cX5_init 0 = .ok (.aload_n 0, 1) := by decide +kernel
theorem dX5_init_1 : decode cX5_init 1 = .ok (.invokespecial 1, 3) := by decide +kernel
theorem dX5_init_4 : decode cX5_init 4 = .ok (.aload_n 0, 1) := by decide +kernel
theorem dX5_init_5 : decode cX5_init 5 = .ok (.bipush 60, 2) := by decide +kernel
theorem dX5_init_7 : decode cX5_init 7 = .ok (.newarray .long, 2) := by decide +kernel
theorem dX5_init_9 : decode cX5_init 9 = .ok (.putfield 9, 3) := by decide +kernel
theorem dX5_init_12 : decode cX5_init 12 = .ok (.aload_n 0, 1) := by decide +kernel
theorem dX5_init_13 : decode cX5_init 13 = .ok (.iconst (-1), 1) := by decide +kernel
theorem dX5_init_14 : decode cX5_init 14 = .ok (.putfield 13, 3) := by decide +kernel
theorem dX5_init_17 : decode cX5_init 17 = .ok (.aload_n 0, 1) := by decide +kernel
theorem dX5_init_18 : decode cX5_init 18 = .ok (.iconst 0, 1) := by decide +kernel
theorem dX5_init_19 : decode cX5_init 19 = .ok (.putfield 17, 3) := by decide +kernel
theorem dX5_init_22 : decode cX5_init 22 = .ok (.return_, 1) := by decide +kernel
theorem dX5_become_0 : decode cX5_become 0 = .ok (.aload_n 0, 1) := by decide +kernel
theorem dX5_become_1 : decode cX5_become 1 = .ok (.iload_n 1, 1) := by decide +kernel
theorem dX5_become_2 : decode cX5_become 2 = .ok (.putfield 13, 3) := by decide +kernel
theorem dX5_become_5 : decode cX5_become 5 = .ok (.aload_n 0, 1) := by decide +kernel
theorem dX5_become_6 : decode cX5_become 6 = .ok (.iload_n 2, 1) := by decide +kernel
theorem dX5_become_7 : decode cX5_become 7 = .ok (.putfield 17, 3) := by decide +kernel
theorem dX5_become_10 : decode cX5_become 10 = .ok (.iconst 0, 1) := by decide +kernel
theorem dX5_become_11 : decode cX5_become 11 = .ok (.istore_n 3, 1) := by decide +kernel
theorem dX5_become_12 : decode cX5_become 12 = .ok (.iload_n 3, 1) := by decide +kernel
theorem dX5_become_13 : decode cX5_become 13 = .ok (.bipush 60, 2) := by decide +kernel
theorem dX5_become_15 : decode cX5_become 15 = .ok (.if_icmp .ge 16, 3) := by decide +kernel
theorem dX5_become_18 : decode cX5_become 18 = .ok (.aload_n 0, 1) := by decide +kernel
theorem dX5_become_19 : decode cX5_become 19 = .ok (.getfield 9, 3) := by decide +kernel
theorem dX5_become_22 : decode cX5_become 22 = .ok (.iload_n 3, 1) := by decide +kernel
theorem dX5_become_23 : decode cX5_become 23 = .ok (.lconst 0, 1) := by decide +kernel
theorem dX5_become_24 : decode cX5_become 24 = .ok (.lastore, 1) := by decide +kernel
theorem dX5_become_25 : decode cX5_become 25 = .ok (.iinc 3 1, 3) := by decide +kernel
theorem dX5_become_28 : decode cX5_become 28 = .ok (.goto (-16), 3) := by decide +kernel
theorem dX5_become_31 : decode cX5_become 31 = .ok (.return_, 1) := by decide +kernel
theorem dX5_hasPlace_0 : decode cX5_hasPlace 0 = .ok (.iload_n 1, 1) := by decide +kernel
theorem dX5_hasPlace_1 : decode cX5_hasPlace 1 = .ok (.ifCond .lt 15, 3) := by decide +kernel
theorem dX5_hasPlace_4 : decode cX5_hasPlace 4 = .ok (.iload_n 1, 1) := by decide +kernel
theorem dX5_hasPlace_5 : decode cX5_hasPlace 5 = .ok (.aload_n 0, 1) := by decide +kernel
theorem dX5_hasPlace_6 : decode cX5_hasPlace 6 = .ok (.getfield 17, 3) := by decide +kernel
theorem dX5_hasPlace_9 : decode cX5_hasPlace 9 = .ok (.if_icmp .ge 7, 3) := by decide +kernel
theorem dX5_hasPlace_12 : decode cX5_hasPlace 12 = .ok (.iconst 1, 1) := by decide +kernel
theorem dX5_hasPlace_13 : decode cX5_hasPlace 13 = .ok (.goto 4, 3) := by decide +kernel
theorem dX5_hasPlace_16 : decode cX5_hasPlace 16 = .ok (.iconst 0, 1) := by decide +kernel
theorem dX5_hasPlace_17 : decode cX5_hasPlace 17 = .ok (.ireturn, 1) := by decide +kernel
theorem dX5_hasRun_0 : decode cX5_hasRun 0 = .ok (.iload_n 2, 1) := by decide +kernel
theorem dX5_hasRun_1 : decode cX5_hasRun 1 = .ok (.ifCond .lt 29, 3) := by decide +kernel
theorem dX5_hasRun_4 : decode cX5_hasRun 4 = .ok (.iload_n 2, 1) := by decide +kernel
theorem dX5_hasRun_5 : decode cX5_hasRun 5 = .ok (.aload_n 0, 1) := by decide +kernel
theorem dX5_hasRun_6 : decode cX5_hasRun 6 = .ok (.getfield 17, 3) := by decide +kernel
theorem dX5_hasRun_9 : decode cX5_hasRun 9 = .ok (.if_icmp .gt 21, 3) := by decide +kernel
theorem dX5_hasRun_12 : decode cX5_hasRun 12 = .ok (.iload_n 1, 1) := by decide +kernel
theorem dX5_hasRun_13 : decode cX5_hasRun 13 = .ok (.ifCond .lt 17, 3) := by decide +kernel
theorem dX5_hasRun_16 : decode cX5_hasRun 16 = .ok (.iload_n 1, 1) := by decide +kernel
theorem dX5_hasRun_17 : decode cX5_hasRun 17 = .ok (.aload_n 0, 1) := by decide +kernel
theorem dX5_hasRun_18 : decode cX5_hasRun 18 = .ok (.getfield 17, 3) := by decide +kernel
theorem dX5_hasRun_21 : decode cX5_hasRun 21 = .ok (.iload_n 2, 1) := by decide +kernel
theorem dX5_hasRun_22 : decode cX5_hasRun 22 = .ok (.isub, 1) := by decide +kernel
theorem dX5_hasRun_23 : decode cX5_hasRun 23 = .ok (.if_icmp .gt 7, 3) := by decide +kernel
theorem dX5_hasRun_26 : decode cX5_hasRun 26 = .ok (.iconst 1, 1) := by decide +kernel
theorem dX5_hasRun_27 : decode cX5_hasRun 27 = .ok (.goto 4, 3) := by decide +kernel
theorem dX5_hasRun_30 : decode cX5_hasRun 30 = .ok (.iconst 0, 1) := by decide +kernel
theorem dX5_hasRun_31 : decode cX5_hasRun 31 = .ok (.ireturn, 1) := by decide +kernel
theorem dX5_asItem_0 : decode cX5_asItem 0 = .ok (.aload_n 0, 1) := by decide +kernel
theorem dX5_asItem_1 : decode cX5_asItem 1 = .ok (.getfield 13, 3) := by decide +kernel
theorem dX5_asItem_4 : decode cX5_asItem 4 = .ok (.tableswitch 48 0 3 #[32, 37, 42, 46], 32) := by decide +kernel
theorem dX5_asItem_36 : decode cX5_asItem 36 = .ok (.lload_n 1, 1) := by decide +kernel
theorem dX5_asItem_37 : decode cX5_asItem 37 = .ok (.l2i, 1) := by decide +kernel
theorem dX5_asItem_38 : decode cX5_asItem 38 = .ok (.i2b, 1) := by decide +kernel
theorem dX5_asItem_39 : decode cX5_asItem 39 = .ok (.i2l, 1) := by decide +kernel
theorem dX5_asItem_40 : decode cX5_asItem 40 = .ok (.lreturn, 1) := by decide +kernel
theorem dX5_asItem_41 : decode cX5_asItem 41 = .ok (.lload_n 1, 1) := by decide +kernel
theorem dX5_asItem_42 : decode cX5_asItem 42 = .ok (.l2i, 1) := by decide +kernel
theorem dX5_asItem_43 : decode cX5_asItem 43 = .ok (.i2s, 1) := by decide +kernel
theorem dX5_asItem_44 : decode cX5_asItem 44 = .ok (.i2l, 1) := by decide +kernel
theorem dX5_asItem_45 : decode cX5_asItem 45 = .ok (.lreturn, 1) := by decide +kernel
theorem dX5_asItem_46 : decode cX5_asItem 46 = .ok (.lload_n 1, 1) := by decide +kernel
theorem dX5_asItem_47 : decode cX5_asItem 47 = .ok (.l2i, 1) := by decide +kernel
theorem dX5_asItem_48 : decode cX5_asItem 48 = .ok (.i2l, 1) := by decide +kernel
theorem dX5_asItem_49 : decode cX5_asItem 49 = .ok (.lreturn, 1) := by decide +kernel
theorem dX5_asItem_50 : decode cX5_asItem 50 = .ok (.lload_n 1, 1) := by decide +kernel
theorem dX5_asItem_51 : decode cX5_asItem 51 = .ok (.lreturn, 1) := by decide +kernel
theorem dX5_asItem_52 : decode cX5_asItem 52 = .ok (.lload_n 1, 1) := by decide +kernel
theorem dX5_asItem_53 : decode cX5_asItem 53 = .ok (.lconst 0, 1) := by decide +kernel
theorem dX5_asItem_54 : decode cX5_asItem 54 = .ok (.lcmp, 1) := by decide +kernel
theorem dX5_asItem_55 : decode cX5_asItem 55 = .ok (.ifCond .eq 7, 3) := by decide +kernel
theorem dX5_asItem_58 : decode cX5_asItem 58 = .ok (.lconst 1, 1) := by decide +kernel
theorem dX5_asItem_59 : decode cX5_asItem 59 = .ok (.goto 4, 3) := by decide +kernel
theorem dX5_asItem_62 : decode cX5_asItem 62 = .ok (.lconst 0, 1) := by decide +kernel
theorem dX5_asItem_63 : decode cX5_asItem 63 = .ok (.lreturn, 1) := by decide +kernel
theorem dX6_init_0 : decode cX6_init 0 = .ok (.aload_n 0, 1) := by decide +kernel
theorem dX6_init_1 : decode cX6_init 1 = .ok (.invokespecial 1, 3) := by decide +kernel
theorem dX6_init_4 : decode cX6_init 4 = .ok (.aload_n 0, 1) := by decide +kernel
theorem dX6_init_5 : decode cX6_init 5 = .ok (.bipush 100, 2) := by decide +kernel
theorem dX6_init_7 : decode cX6_init 7 = .ok (.newarray .byte, 2) := by decide +kernel
theorem dX6_init_9 : decode cX6_init 9 = .ok (.putfield 9, 3) := by decide +kernel
theorem dX6_init_12 : decode cX6_init 12 = .ok (.aload_n 0, 1) := by decide +kernel
theorem dX6_init_13 : decode cX6_init 13 = .ok (.iconst 0, 1) := by decide +kernel
theorem dX6_init_14 : decode cX6_init 14 = .ok (.putfield 13, 3) := by decide +kernel
theorem dX6_init_17 : decode cX6_init 17 = .ok (.aload_n 0, 1) := by decide +kernel
theorem dX6_init_18 : decode cX6_init 18 = .ok (.iconst 0, 1) := by decide +kernel
theorem dX6_init_19 : decode cX6_init 19 = .ok (.putfield 17, 3) := by decide +kernel
theorem dX6_init_22 : decode cX6_init 22 = .ok (.aload_n 0, 1) := by decide +kernel
theorem dX6_init_23 : decode cX6_init 23 = .ok (.bipush 60, 2) := by decide +kernel
theorem dX6_init_25 : decode cX6_init 25 = .ok (.newarray .int, 2) := by decide +kernel
theorem dX6_init_27 : decode cX6_init 27 = .ok (.putfield 20, 3) := by decide +kernel
theorem dX6_init_30 : decode cX6_init 30 = .ok (.aload_n 0, 1) := by decide +kernel
theorem dX6_init_31 : decode cX6_init 31 = .ok (.iconst 0, 1) := by decide +kernel
theorem dX6_init_32 : decode cX6_init 32 = .ok (.putfield 24, 3) := by decide +kernel
theorem dX6_init_35 : decode cX6_init 35 = .ok (.return_, 1) := by decide +kernel
theorem dX6_add_0 : decode cX6_add 0 = .ok (.aload_n 0, 1) := by decide +kernel
theorem dX6_add_1 : decode cX6_add 1 = .ok (.getfield 9, 3) := by decide +kernel
theorem dX6_add_4 : decode cX6_add 4 = .ok (.aload_n 0, 1) := by decide +kernel
theorem dX6_add_5 : decode cX6_add 5 = .ok (.getfield 13, 3) := by decide +kernel
theorem dX6_add_8 : decode cX6_add 8 = .ok (.iload_n 1, 1) := by decide +kernel
theorem dX6_add_9 : decode cX6_add 9 = .ok (.i2b, 1) := by decide +kernel
theorem dX6_add_10 : decode cX6_add 10 = .ok (.bastore, 1) := by decide +kernel
theorem dX6_add_11 : decode cX6_add 11 = .ok (.aload_n 0, 1) := by decide +kernel
theorem dX6_add_12 : decode cX6_add 12 = .ok (.dup, 1) := by decide +kernel
theorem dX6_add_13 : decode cX6_add 13 = .ok (.getfield 13, 3) := by decide +kernel
theorem dX6_add_16 : decode cX6_add 16 = .ok (.iconst 1, 1) := by decide +kernel
theorem dX6_add_17 : decode cX6_add 17 = .ok (.iadd, 1) := by decide +kernel
theorem dX6_add_18 : decode cX6_add 18 = .ok (.putfield 13, 3) := by decide +kernel
theorem dX6_add_21 : decode cX6_add 21 = .ok (.aload_n 0, 1) := by decide +kernel
theorem dX6_add_22 : decode cX6_add 22 = .ok (.getfield 13, 3) := by decide +kernel
theorem dX6_add_25 : decode cX6_add 25 = .ok (.ireturn, 1) := by decide +kernel
theorem dX6_part_0 : decode cX6_part 0 = .ok (.aload_n 0, 1) := by decide +kernel
theorem dX6_part_1 : decode cX6_part 1 = .ok (.getfield 20, 3) := by decide +kernel
theorem dX6_part_4 : decode cX6_part 4 = .ok (.iconst 5, 1) := by decide +kernel
theorem dX6_part_5 : decode cX6_part 5 = .ok (.iload_n 1, 1) := by decide +kernel
theorem dX6_part_6 : decode cX6_part 6 = .ok (.imul, 1) := by decide +kernel
theorem dX6_part_7 : decode cX6_part 7 = .ok (.iload_n 2, 1) := by decide +kernel
theorem dX6_part_8 : decode cX6_part 8 = .ok (.iadd, 1) := by decide +kernel
theorem dX6_part_9 : decode cX6_part 9 = .ok (.iaload, 1) := by decide +kernel
theorem dX6_part_10 : decode cX6_part 10 = .ok (.ireturn, 1) := by decide +kernel
theorem dX6_parse_0 : decode cX6_parse 0 = .ok (.aload_n 0, 1) := by decide +kernel
theorem dX6_parse_1 : decode cX6_parse 1 = .ok (.iconst 0, 1) := by decide +kernel
theorem dX6_parse_2 : decode cX6_parse 2 = .ok (.putfield 17, 3) := by decide +kernel
theorem dX6_parse_5 : decode cX6_parse 5 = .ok (.aload_n 0, 1) := by decide +kernel
theorem dX6_parse_6 : decode cX6_parse 6 = .ok (.iconst 0, 1) := by decide +kernel
theorem dX6_parse_7 : decode cX6_parse 7 = .ok (.putfield 24, 3) := by decide +kernel
theorem dX6_parse_10 : decode cX6_parse 10 = .ok (.iconst 0, 1) := by decide +kernel
theorem dX6_parse_11 : decode cX6_parse 11 = .ok (.istore_n 1, 1) := by decide +kernel
theorem dX6_parse_12 : decode cX6_parse 12 = .ok (.iload_n 1, 1) := by decide +kernel
theorem dX6_parse_13 : decode cX6_parse 13 = .ok (.bipush 12, 2) := by decide +kernel
theorem dX6_parse_15 : decode cX6_parse 15 = .ok (.if_icmp .ge 65, 3) := by decide +kernel
theorem dX6_parse_18 : decode cX6_parse 18 = .ok (.iload_n 1, 1) := by decide +kernel
theorem dX6_parse_19 : decode cX6_parse 19 = .ok (.ifCond .le 17, 3) := by decide +kernel
theorem dX6_parse_22 : decode cX6_parse 22 = .ok (.aload_n 0, 1) := by decide +kernel
theorem dX6_parse_23 : decode cX6_parse 23 = .ok (.bipush 59, 2) := by decide +kernel
theorem dX6_parse_25 : decode cX6_parse 25 = .ok (.invokevirtual 27, 3) := by decide +kernel
theorem dX6_parse_28 : decode cX6_parse 28 = .ok (.ifCond .ne 8, 3) := by decide +kernel
theorem dX6_parse_31 : decode cX6_parse 31 = .ok (.aload_n 0, 1) := by decide +kernel
theorem dX6_parse_32 : decode cX6_parse 32 = .ok (.getfield 17, 3) := by decide +kernel
theorem dX6_parse_35 : decode cX6_parse 35 = .ok (.ireturn, 1) := by decide +kernel
theorem dX6_parse_36 : decode cX6_parse 36 = .ok (.aload_n 0, 1) := by decide +kernel
theorem dX6_parse_37 : decode cX6_parse 37 = .ok (.iconst 5, 1) := by decide +kernel
theorem dX6_parse_38 : decode cX6_parse 38 = .ok (.iload_n 1, 1) := by decide +kernel
theorem dX6_parse_39 : decode cX6_parse 39 = .ok (.imul, 1) := by decide +kernel
theorem dX6_parse_40 : decode cX6_parse 40 = .ok (.invokevirtual 31, 3) := by decide +kernel
theorem dX6_parse_43 : decode cX6_parse 43 = .ok (.ifCond .ne 8, 3) := by decide +kernel
theorem dX6_parse_46 : decode cX6_parse 46 = .ok (.aload_n 0, 1) := by decide +kernel
theorem dX6_parse_47 : decode cX6_parse 47 = .ok (.getfield 17, 3) := by decide +kernel
theorem dX6_parse_50 : decode cX6_parse 50 = .ok (.ireturn, 1) := by decide +kernel
theorem dX6_parse_51 : decode cX6_parse 51 = .ok (.aload_n 0, 1) := by decide +kernel
theorem dX6_parse_52 : decode cX6_parse 52 = .ok (.dup, 1) := by decide +kernel
theorem dX6_parse_53 : decode cX6_parse 53 = .ok (.getfield 24, 3) := by decide +kernel
theorem dX6_parse_56 : decode cX6_parse 56 = .ok (.iconst 1, 1) := by decide +kernel
theorem dX6_parse_57 : decode cX6_parse 57 = .ok (.iadd, 1) := by decide +kernel
theorem dX6_parse_58 : decode cX6_parse 58 = .ok (.putfield 24, 3) := by decide +kernel
theorem dX6_parse_61 : decode cX6_parse 61 = .ok (.aload_n 0, 1) := by decide +kernel
theorem dX6_parse_62 : decode cX6_parse 62 = .ok (.getfield 17, 3) := by decide +kernel
theorem dX6_parse_65 : decode cX6_parse 65 = .ok (.aload_n 0, 1) := by decide +kernel
theorem dX6_parse_66 : decode cX6_parse 66 = .ok (.getfield 13, 3) := by decide +kernel
theorem dX6_parse_69 : decode cX6_parse 69 = .ok (.if_icmp .ne 5, 3) := by decide +kernel
theorem dX6_parse_72 : decode cX6_parse 72 = .ok (.iconst (-1), 1) := by decide +kernel
theorem dX6_parse_73 : decode cX6_parse 73 = .ok (.ireturn, 1) := by decide +kernel
theorem dX6_parse_74 : decode cX6_parse 74 = .ok (.iinc 1 1, 3) := by decide +kernel
theorem dX6_parse_77 : decode cX6_parse 77 = .ok (.goto (-65), 3) := by decide +kernel
theorem dX6_parse_80 : decode cX6_parse 80 = .ok (.aload_n 0, 1) := by decide +kernel
theorem dX6_parse_81 : decode cX6_parse 81 = .ok (.getfield 17, 3) := by decide +kernel
theorem dX6_parse_84 : decode cX6_parse 84 = .ok (.ireturn, 1) := by decide +kernel
theorem dX6_takeClause_0 : decode cX6_takeClause 0 = .ok (.aload_n 0, 1) := by decide +kernel
theorem dX6_takeClause_1 : decode cX6_takeClause 1 = .ok (.bipush 112, 2) := by decide +kernel
theorem dX6_takeClause_3 : decode cX6_takeClause 3 = .ok (.invokevirtual 27, 3) := by decide +kernel
theorem dX6_takeClause_6 : decode cX6_takeClause 6 = .ok (.ifCond .eq 57, 3) := by decide +kernel
theorem dX6_takeClause_9 : decode cX6_takeClause 9 = .ok (.aload_n 0, 1) := by decide +kernel
theorem dX6_takeClause_10 : decode cX6_takeClause 10 = .ok (.getfield 20, 3) := by decide +kernel
theorem dX6_takeClause_13 : decode cX6_takeClause 13 = .ok (.iload_n 1, 1) := by decide +kernel
theorem dX6_takeClause_14 : decode cX6_takeClause 14 = .ok (.bipush 112, 2) := by decide +kernel
theorem dX6_takeClause_16 : decode cX6_takeClause 16 = .ok (.iastore, 1) := by decide +kernel
theorem dX6_takeClause_17 : decode cX6_takeClause 17 = .ok (.aload_n 0, 1) := by decide +kernel
theorem dX6_takeClause_18 : decode cX6_takeClause 18 = .ok (.iload_n 1, 1) := by decide +kernel
theorem dX6_takeClause_19 : decode cX6_takeClause 19 = .ok (.iconst 1, 1) := by decide +kernel
theorem dX6_takeClause_20 : decode cX6_takeClause 20 = .ok (.iadd, 1) := by decide +kernel
theorem dX6_takeClause_21 : decode cX6_takeClause 21 = .ok (.invokevirtual 35, 3) := by decide +kernel
theorem dX6_takeClause_24 : decode cX6_takeClause 24 = .ok (.ifCond .eq 37, 3) := by decide +kernel
theorem dX6_takeClause_27 : decode cX6_takeClause 27 = .ok (.aload_n 0, 1) := by decide +kernel
theorem dX6_takeClause_28 : decode cX6_takeClause 28 = .ok (.iload_n 1, 1) := by decide +kernel
theorem dX6_takeClause_29 : decode cX6_takeClause 29 = .ok (.iconst 2, 1) := by decide +kernel
theorem dX6_takeClause_30 : decode cX6_takeClause 30 = .ok (.iadd, 1) := by decide +kernel
theorem dX6_takeClause_31 : decode cX6_takeClause 31 = .ok (.invokevirtual 35, 3) := by decide +kernel
theorem dX6_takeClause_34 : decode cX6_takeClause 34 = .ok (.ifCond .eq 27, 3) := by decide +kernel
theorem dX6_takeClause_37 : decode cX6_takeClause 37 = .ok (.aload_n 0, 1) := by decide +kernel
theorem dX6_takeClause_38 : decode cX6_takeClause 38 = .ok (.iload_n 1, 1) := by decide +kernel
theorem dX6_takeClause_39 : decode cX6_takeClause 39 = .ok (.iconst 3, 1) := by decide +kernel
theorem dX6_takeClause_40 : decode cX6_takeClause 40 = .ok (.iadd, 1) := by decide +kernel
theorem dX6_takeClause_41 : decode cX6_takeClause 41 = .ok (.invokevirtual 35, 3) := by decide +kernel
theorem dX6_takeClause_44 : decode cX6_takeClause 44 = .ok (.ifCond .eq 17, 3) := by decide +kernel
theorem dX6_takeClause_47 : decode cX6_takeClause 47 = .ok (.aload_n 0, 1) := by decide +kernel
theorem dX6_takeClause_48 : decode cX6_takeClause 48 = .ok (.iload_n 1, 1) := by decide +kernel
theorem dX6_takeClause_49 : decode cX6_takeClause 49 = .ok (.iconst 4, 1) := by decide +kernel
theorem dX6_takeClause_50 : decode cX6_takeClause 50 = .ok (.iadd, 1) := by decide +kernel
theorem dX6_takeClause_51 : decode cX6_takeClause 51 = .ok (.invokevirtual 38, 3) := by decide +kernel
theorem dX6_takeClause_54 : decode cX6_takeClause 54 = .ok (.ifCond .eq 7, 3) := by decide +kernel
theorem dX6_takeClause_57 : decode cX6_takeClause 57 = .ok (.iconst 1, 1) := by decide +kernel
theorem dX6_takeClause_58 : decode cX6_takeClause 58 = .ok (.goto 4, 3) := by decide +kernel
theorem dX6_takeClause_61 : decode cX6_takeClause 61 = .ok (.iconst 0, 1) := by decide +kernel
theorem dX6_takeClause_62 : decode cX6_takeClause 62 = .ok (.ireturn, 1) := by decide +kernel
theorem dX6_takeClause_63 : decode cX6_takeClause 63 = .ok (.aload_n 0, 1) := by decide +kernel
theorem dX6_takeClause_64 : decode cX6_takeClause 64 = .ok (.bipush 109, 2) := by decide +kernel
theorem dX6_takeClause_66 : decode cX6_takeClause 66 = .ok (.invokevirtual 27, 3) := by decide +kernel
theorem dX6_takeClause_69 : decode cX6_takeClause 69 = .ok (.ifCond .eq 37, 3) := by decide +kernel
theorem dX6_takeClause_72 : decode cX6_takeClause 72 = .ok (.aload_n 0, 1) := by decide +kernel
theorem dX6_takeClause_73 : decode cX6_takeClause 73 = .ok (.getfield 20, 3) := by decide +kernel
theorem dX6_takeClause_76 : decode cX6_takeClause 76 = .ok (.iload_n 1, 1) := by decide +kernel
theorem dX6_takeClause_77 : decode cX6_takeClause 77 = .ok (.bipush 109, 2) := by decide +kernel
theorem dX6_takeClause_79 : decode cX6_takeClause 79 = .ok (.iastore, 1) := by decide +kernel
theorem dX6_takeClause_80 : decode cX6_takeClause 80 = .ok (.aload_n 0, 1) := by decide +kernel
theorem dX6_takeClause_81 : decode cX6_takeClause 81 = .ok (.iload_n 1, 1) := by decide +kernel
theorem dX6_takeClause_82 : decode cX6_takeClause 82 = .ok (.iconst 1, 1) := by decide +kernel
theorem dX6_takeClause_83 : decode cX6_takeClause 83 = .ok (.iadd, 1) := by decide +kernel
theorem dX6_takeClause_84 : decode cX6_takeClause 84 = .ok (.invokevirtual 38, 3) := by decide +kernel
theorem dX6_takeClause_87 : decode cX6_takeClause 87 = .ok (.ifCond .eq 17, 3) := by decide +kernel
theorem dX6_takeClause_90 : decode cX6_takeClause 90 = .ok (.aload_n 0, 1) := by decide +kernel
theorem dX6_takeClause_91 : decode cX6_takeClause 91 = .ok (.iload_n 1, 1) := by decide +kernel
theorem dX6_takeClause_92 : decode cX6_takeClause 92 = .ok (.iconst 2, 1) := by decide +kernel
theorem dX6_takeClause_93 : decode cX6_takeClause 93 = .ok (.iadd, 1) := by decide +kernel
theorem dX6_takeClause_94 : decode cX6_takeClause 94 = .ok (.invokevirtual 38, 3) := by decide +kernel
theorem dX6_takeClause_97 : decode cX6_takeClause 97 = .ok (.ifCond .eq 7, 3) := by decide +kernel
theorem dX6_takeClause_100 : decode cX6_takeClause 100 = .ok (.iconst 1, 1) := by decide +kernel
theorem dX6_takeClause_101 : decode cX6_takeClause 101 = .ok (.goto 4, 3) := by decide +kernel
theorem dX6_takeClause_104 : decode cX6_takeClause 104 = .ok (.iconst 0, 1) := by decide +kernel
theorem dX6_takeClause_105 : decode cX6_takeClause 105 = .ok (.ireturn, 1) := by decide +kernel
theorem dX6_takeClause_106 : decode cX6_takeClause 106 = .ok (.aload_n 0, 1) := by decide +kernel
theorem dX6_takeClause_107 : decode cX6_takeClause 107 = .ok (.getfield 20, 3) := by decide +kernel
theorem dX6_takeClause_110 : decode cX6_takeClause 110 = .ok (.iload_n 1, 1) := by decide +kernel
theorem dX6_takeClause_111 : decode cX6_takeClause 111 = .ok (.bipush 100, 2) := by decide +kernel
theorem dX6_takeClause_113 : decode cX6_takeClause 113 = .ok (.iastore, 1) := by decide +kernel
theorem dX6_takeClause_114 : decode cX6_takeClause 114 = .ok (.aload_n 0, 1) := by decide +kernel
theorem dX6_takeClause_115 : decode cX6_takeClause 115 = .ok (.bipush 100, 2) := by decide +kernel
theorem dX6_takeClause_117 : decode cX6_takeClause 117 = .ok (.invokevirtual 27, 3) := by decide +kernel
theorem dX6_takeClause_120 : decode cX6_takeClause 120 = .ok (.ifCond .eq 17, 3) := by decide +kernel
theorem dX6_takeClause_123 : decode cX6_takeClause 123 = .ok (.aload_n 0, 1) := by decide +kernel
theorem dX6_takeClause_124 : decode cX6_takeClause 124 = .ok (.iload_n 1, 1) := by decide +kernel
theorem dX6_takeClause_125 : decode cX6_takeClause 125 = .ok (.iconst 1, 1) := by decide +kernel
theorem dX6_takeClause_126 : decode cX6_takeClause 126 = .ok (.iadd, 1) := by decide +kernel
theorem dX6_takeClause_127 : decode cX6_takeClause 127 = .ok (.invokevirtual 38, 3) := by decide +kernel
theorem dX6_takeClause_130 : decode cX6_takeClause 130 = .ok (.ifCond .eq 7, 3) := by decide +kernel
theorem dX6_takeClause_133 : decode cX6_takeClause 133 = .ok (.iconst 1, 1) := by decide +kernel
theorem dX6_takeClause_134 : decode cX6_takeClause 134 = .ok (.goto 4, 3) := by decide +kernel
theorem dX6_takeClause_137 : decode cX6_takeClause 137 = .ok (.iconst 0, 1) := by decide +kernel
theorem dX6_takeClause_138 : decode cX6_takeClause 138 = .ok (.ireturn, 1) := by decide +kernel
theorem dX6_takeAxis_0 : decode cX6_takeAxis 0 = .ok (.aload_n 0, 1) := by decide +kernel
theorem dX6_takeAxis_1 : decode cX6_takeAxis 1 = .ok (.bipush 45, 2) := by decide +kernel
theorem dX6_takeAxis_3 : decode cX6_takeAxis 3 = .ok (.invokevirtual 27, 3) := by decide +kernel
theorem dX6_takeAxis_6 : decode cX6_takeAxis 6 = .ok (.istore_n 2, 1) := by decide +kernel
theorem dX6_takeAxis_7 : decode cX6_takeAxis 7 = .ok (.aload_n 0, 1) := by decide +kernel
theorem dX6_takeAxis_8 : decode cX6_takeAxis 8 = .ok (.iload_n 1, 1) := by decide +kernel
theorem dX6_takeAxis_9 : decode cX6_takeAxis 9 = .ok (.invokevirtual 38, 3) := by decide +kernel
theorem dX6_takeAxis_12 : decode cX6_takeAxis 12 = .ok (.ifCond .ne 5, 3) := by decide +kernel
theorem dX6_takeAxis_15 : decode cX6_takeAxis 15 = .ok (.iconst 0, 1) := by decide +kernel
theorem dX6_takeAxis_16 : decode cX6_takeAxis 16 = .ok (.ireturn, 1) := by decide +kernel
theorem dX6_takeAxis_17 : decode cX6_takeAxis 17 = .ok (.iload_n 2, 1) := by decide +kernel
theorem dX6_takeAxis_18 : decode cX6_takeAxis 18 = .ok (.ifCond .eq 16, 3) := by decide +kernel
theorem dX6_takeAxis_21 : decode cX6_takeAxis 21 = .ok (.aload_n 0, 1) := by decide +kernel
theorem dX6_takeAxis_22 : decode cX6_takeAxis 22 = .ok (.getfield 20, 3) := by decide +kernel
theorem dX6_takeAxis_25 : decode cX6_takeAxis 25 = .ok (.iload_n 1, 1) := by decide +kernel
theorem dX6_takeAxis_26 : decode cX6_takeAxis 26 = .ok (.aload_n 0, 1) := by decide +kernel
theorem dX6_takeAxis_27 : decode cX6_takeAxis 27 = .ok (.getfield 20, 3) := by decide +kernel
theorem dX6_takeAxis_30 : decode cX6_takeAxis 30 = .ok (.iload_n 1, 1) := by decide +kernel
theorem dX6_takeAxis_31 : decode cX6_takeAxis 31 = .ok (.iaload, 1) := by decide +kernel
theorem dX6_takeAxis_32 : decode cX6_takeAxis 32 = .ok (.ineg, 1) := by decide +kernel
theorem dX6_takeAxis_33 : decode cX6_takeAxis 33 = .ok (.iastore, 1) := by decide +kernel
theorem dX6_takeAxis_34 : decode cX6_takeAxis 34 = .ok (.aload_n 0, 1) := by decide +kernel
theorem dX6_takeAxis_35 : decode cX6_takeAxis 35 = .ok (.bipush 44, 2) := by decide +kernel
theorem dX6_takeAxis_37 : decode cX6_takeAxis 37 = .ok (.invokevirtual 27, 3) := by decide +kernel
theorem dX6_takeAxis_40 : decode cX6_takeAxis 40 = .ok (.ireturn, 1) := by decide +kernel
theorem dX6_takeDigit_0 : decode cX6_takeDigit 0 = .ok (.aload_n 0, 1) := by decide +kernel
theorem dX6_takeDigit_1 : decode cX6_takeDigit 1 = .ok (.getfield 17, 3) := by decide +kernel
theorem dX6_takeDigit_4 : decode cX6_takeDigit 4 = .ok (.aload_n 0, 1) := by decide +kernel
theorem dX6_takeDigit_5 : decode cX6_takeDigit 5 = .ok (.getfield 13, 3) := by decide +kernel
theorem dX6_takeDigit_8 : decode cX6_takeDigit 8 = .ok (.if_icmp .ge 31, 3) := by decide +kernel
theorem dX6_takeDigit_11 : decode cX6_takeDigit 11 = .ok (.aload_n 0, 1) := by decide +kernel
theorem dX6_takeDigit_12 : decode cX6_takeDigit 12 = .ok (.getfield 9, 3) := by decide +kernel
theorem dX6_takeDigit_15 : decode cX6_takeDigit 15 = .ok (.aload_n 0, 1) := by decide +kernel
theorem dX6_takeDigit_16 : decode cX6_takeDigit 16 = .ok (.getfield 17, 3) := by decide +kernel
theorem dX6_takeDigit_19 : decode cX6_takeDigit 19 = .ok (.baload, 1) := by decide +kernel
theorem dX6_takeDigit_20 : decode cX6_takeDigit 20 = .ok (.bipush 48, 2) := by decide +kernel
theorem dX6_takeDigit_22 : decode cX6_takeDigit 22 = .ok (.if_icmp .lt 17, 3) := by decide +kernel
theorem dX6_takeDigit_25 : decode cX6_takeDigit 25 = .ok (.aload_n 0, 1) := by decide +kernel
theorem dX6_takeDigit_26 : decode cX6_takeDigit 26 = .ok (.getfield 9, 3) := by decide +kernel
theorem dX6_takeDigit_29 : decode cX6_takeDigit 29 = .ok (.aload_n 0, 1) := by decide +kernel
theorem dX6_takeDigit_30 : decode cX6_takeDigit 30 = .ok (.getfield 17, 3) := by decide +kernel
theorem dX6_takeDigit_33 : decode cX6_takeDigit 33 = .ok (.baload, 1) := by decide +kernel
theorem dX6_takeDigit_34 : decode cX6_takeDigit 34 = .ok (.bipush 57, 2) := by decide +kernel
theorem dX6_takeDigit_36 : decode cX6_takeDigit 36 = .ok (.if_icmp .le 5, 3) := by decide +kernel
theorem dX6_takeDigit_39 : decode cX6_takeDigit 39 = .ok (.iconst 0, 1) := by decide +kernel
theorem dX6_takeDigit_40 : decode cX6_takeDigit 40 = .ok (.ireturn, 1) := by decide +kernel
theorem dX6_takeDigit_41 : decode cX6_takeDigit 41 = .ok (.aload_n 0, 1) := by decide +kernel
theorem dX6_takeDigit_42 : decode cX6_takeDigit 42 = .ok (.getfield 20, 3) := by decide +kernel
theorem dX6_takeDigit_45 : decode cX6_takeDigit 45 = .ok (.iload_n 1, 1) := by decide +kernel
theorem dX6_takeDigit_46 : decode cX6_takeDigit 46 = .ok (.aload_n 0, 1) := by decide +kernel
theorem dX6_takeDigit_47 : decode cX6_takeDigit 47 = .ok (.getfield 9, 3) := by decide +kernel
theorem dX6_takeDigit_50 : decode cX6_takeDigit 50 = .ok (.aload_n 0, 1) := by decide +kernel
theorem dX6_takeDigit_51 : decode cX6_takeDigit 51 = .ok (.getfield 17, 3) := by decide +kernel
theorem dX6_takeDigit_54 : decode cX6_takeDigit 54 = .ok (.baload, 1) := by decide +kernel
theorem dX6_takeDigit_55 : decode cX6_takeDigit 55 = .ok (.bipush 48, 2) := by decide +kernel
theorem dX6_takeDigit_57 : decode cX6_takeDigit 57 = .ok (.isub, 1) := by decide +kernel
theorem dX6_takeDigit_58 : decode cX6_takeDigit 58 = .ok (.iastore, 1) := by decide +kernel
theorem dX6_takeDigit_59 : decode cX6_takeDigit 59 = .ok (.aload_n 0, 1) := by decide +kernel
theorem dX6_takeDigit_60 : decode cX6_takeDigit 60 = .ok (.dup, 1) := by decide +kernel
theorem dX6_takeDigit_61 : decode cX6_takeDigit 61 = .ok (.getfield 17, 3) := by decide +kernel
theorem dX6_takeDigit_64 : decode cX6_takeDigit 64 = .ok (.iconst 1, 1) := by decide +kernel
theorem dX6_takeDigit_65 : decode cX6_takeDigit 65 = .ok (.iadd, 1) := by decide +kernel
theorem dX6_takeDigit_66 : decode cX6_takeDigit 66 = .ok (.putfield 17, 3) := by decide +kernel
theorem dX6_takeDigit_69 : decode cX6_takeDigit 69 = .ok (.iconst 1, 1) := by decide +kernel
theorem dX6_takeDigit_70 : decode cX6_takeDigit 70 = .ok (.ireturn, 1) := by decide +kernel
theorem dX6_takeSign_0 : decode cX6_takeSign 0 = .ok (.aload_n 0, 1) := by decide +kernel
theorem dX6_takeSign_1 : decode cX6_takeSign 1 = .ok (.getfield 17, 3) := by decide +kernel
theorem dX6_takeSign_4 : decode cX6_takeSign 4 = .ok (.aload_n 0, 1) := by decide +kernel
theorem dX6_takeSign_5 : decode cX6_takeSign 5 = .ok (.getfield 13, 3) := by decide +kernel
theorem dX6_takeSign_8 : decode cX6_takeSign 8 = .ok (.if_icmp .ge 16, 3) := by decide +kernel
theorem dX6_takeSign_11 : decode cX6_takeSign 11 = .ok (.aload_n 0, 1) := by decide +kernel
theorem dX6_takeSign_12 : decode cX6_takeSign 12 = .ok (.getfield 9, 3) := by decide +kernel
theorem dX6_takeSign_15 : decode cX6_takeSign 15 = .ok (.aload_n 0, 1) := by decide +kernel
theorem dX6_takeSign_16 : decode cX6_takeSign 16 = .ok (.getfield 17, 3) := by decide +kernel
theorem dX6_takeSign_19 : decode cX6_takeSign 19 = .ok (.baload, 1) := by decide +kernel
theorem dX6_takeSign_20 : decode cX6_takeSign 20 = .ok (.iload_n 1, 1) := by decide +kernel
theorem dX6_takeSign_21 : decode cX6_takeSign 21 = .ok (.if_icmp .eq 5, 3) := by decide +kernel
theorem dX6_takeSign_24 : decode cX6_takeSign 24 = .ok (.iconst 0, 1) := by decide +kernel
theorem dX6_takeSign_25 : decode cX6_takeSign 25 = .ok (.ireturn, 1) := by decide +kernel
theorem dX6_takeSign_26 : decode cX6_takeSign 26 = .ok (.aload_n 0, 1) := by decide +kernel
theorem dX6_takeSign_27 : decode cX6_takeSign 27 = .ok (.dup, 1) := by decide +kernel
theorem dX6_takeSign_28 : decode cX6_takeSign 28 = .ok (.getfield 17, 3) := by decide +kernel
theorem dX6_takeSign_31 : decode cX6_takeSign 31 = .ok (.iconst 1, 1) := by decide +kernel
theorem dX6_takeSign_32 : decode cX6_takeSign 32 = .ok (.iadd, 1) := by decide +kernel
theorem dX6_takeSign_33 : decode cX6_takeSign 33 = .ok (.putfield 17, 3) := by decide +kernel
theorem dX6_takeSign_36 : decode cX6_takeSign 36 = .ok (.iconst 1, 1) := by decide +kernel
theorem dX6_takeSign_37 : decode cX6_takeSign 37 = .ok (.ireturn, 1) := by decide +kernel
theorem dJ0_charAt_5068e_0 : decode cJ0_charAt_5068e 0 = .ok (.aload_n 0, 1) := by decide +kernel
theorem dJ0_charAt_5068e_1 : decode cJ0_charAt_5068e 1 = .ok (.invokevirtual 492, 3) := by decide +kernel
theorem dJ0_charAt_5068e_4 : decode cJ0_charAt_5068e 4 = .ok (.ifCond .eq 12, 3) := by decide +kernel
theorem dJ0_charAt_5068e_7 : decode cJ0_charAt_5068e 7 = .ok (.aload_n 0, 1) := by decide +kernel
theorem dJ0_charAt_5068e_8 : decode cJ0_charAt_5068e 8 = .ok (.getfield 9, 3) := by decide +kernel
theorem dJ0_charAt_5068e_11 : decode cJ0_charAt_5068e 11 = .ok (.iload_n 1, 1) := by decide +kernel
theorem dJ0_charAt_5068e_12 : decode cJ0_charAt_5068e 12 = .ok (.invokestatic 495, 3) := by decide +kernel
theorem dJ0_charAt_5068e_15 : decode cJ0_charAt_5068e 15 = .ok (.ireturn, 1) := by decide +kernel
theorem dJ0_charAt_5068e_16 : decode cJ0_charAt_5068e 16 = .ok (.aload_n 0, 1) := by decide +kernel
theorem dJ0_charAt_5068e_17 : decode cJ0_charAt_5068e 17 = .ok (.getfield 9, 3) := by decide +kernel
theorem dJ0_charAt_5068e_20 : decode cJ0_charAt_5068e 20 = .ok (.iload_n 1, 1) := by decide +kernel
theorem dJ0_charAt_5068e_21 : decode cJ0_charAt_5068e 21 = .ok (.invokestatic 498, 3) := by decide +kernel
theorem dJ0_charAt_5068e_24 : decode cJ0_charAt_5068e 24 = .ok (.ireturn, 1) := by decide +kernel
theorem dJ0_isLatin1_aae02_0 : decode cJ0_isLatin1_aae02 0 = .ok (.getstatic 38, 3) := by decide +kernel
theorem dJ0_isLatin1_aae02_3 : decode cJ0_isLatin1_aae02 3 = .ok (.ifCond .eq 14, 3) := by decide +kernel
theorem dJ0_isLatin1_aae02_6 : decode cJ0_isLatin1_aae02 6 = .ok (.aload_n 0, 1) := by decide +kernel
theorem dJ0_isLatin1_aae02_7 : decode cJ0_isLatin1_aae02 7 = .ok (.getfield 15, 3) := by decide +kernel
theorem dJ0_isLatin1_aae02_10 : decode cJ0_isLatin1_aae02 10 = .ok (.ifCond .ne 7, 3) := by decide +kernel
theorem dJ0_isLatin1_aae02_13 : decode cJ0_isLatin1_aae02 13 = .ok (.iconst 1, 1) := by decide +kernel
theorem dJ0_isLatin1_aae02_14 : decode cJ0_isLatin1_aae02 14 = .ok (.goto 4, 3) := by decide +kernel
theorem dJ0_isLatin1_aae02_17 : decode cJ0_isLatin1_aae02 17 = .ok (.iconst 0, 1) := by decide +kernel
theorem dJ0_isLatin1_aae02_18 : decode cJ0_isLatin1_aae02 18 = .ok (.ireturn, 1) := by decide +kernel
theorem dJ0_checkIndex_df160_0 : decode cJ0_checkIndex_df160 0 = .ok (.iload_n 0, 1) := by decide +kernel
theorem dJ0_checkIndex_df160_1 : decode cJ0_checkIndex_df160 1 = .ok (.iload_n 1, 1) := by decide +kernel
theorem dJ0_checkIndex_df160_2 : decode cJ0_checkIndex_df160 2 = .ok (.getstatic 1053, 3) := by decide +kernel
theorem dJ0_checkIndex_df160_5 : decode cJ0_checkIndex_df160 5 = .ok (.invokestatic 1059, 3) := by decide +kernel
theorem dJ0_checkIndex_df160_8 : decode cJ0_checkIndex_df160 8 = .ok (.pop, 1) := by decide +kernel
theorem dJ0_checkIndex_df160_9 : decode cJ0_checkIndex_df160 9 = .ok (.return_, 1) := by decide +kernel
theorem dJ1_charAt_3b067_0 : decode cJ1_charAt_3b067 0 = .ok (.iload_n 1, 1) := by decide +kernel
theorem dJ1_charAt_3b067_1 : decode cJ1_charAt_3b067 1 = .ok (.aload_n 0, 1) := by decide +kernel
theorem dJ1_charAt_3b067_2 : decode cJ1_charAt_3b067 2 = .ok (.arraylength, 1) := by decide +kernel
theorem dJ1_charAt_3b067_3 : decode cJ1_charAt_3b067 3 = .ok (.invokestatic 9, 3) := by decide +kernel
theorem dJ1_charAt_3b067_6 : decode cJ1_charAt_3b067 6 = .ok (.aload_n 0, 1) := by decide +kernel
theorem dJ1_charAt_3b067_7 : decode cJ1_charAt_3b067 7 = .ok (.iload_n 1, 1) := by decide +kernel
theorem dJ1_charAt_3b067_8 : decode cJ1_charAt_3b067 8 = .ok (.baload, 1) := by decide +kernel
theorem dJ1_charAt_3b067_9 : decode cJ1_charAt_3b067 9 = .ok (.sipush 255, 3) := by decide +kernel
theorem dJ1_charAt_3b067_12 : decode cJ1_charAt_3b067 12 = .ok (.iand, 1) := by decide +kernel
theorem dJ1_charAt_3b067_13 : decode cJ1_charAt_3b067 13 = .ok (.i2c, 1) := by decide +kernel
theorem dJ1_charAt_3b067_14 : decode cJ1_charAt_3b067 14 = .ok (.ireturn, 1) := by decide +kernel
theorem dJ6_bitCount_0f7a4_0 : decode cJ6_bitCount_0f7a4 0 = .ok (.iload_n 0, 1) := by decide +kernel
theorem dJ6_bitCount_0f7a4_1 : decode cJ6_bitCount_0f7a4 1 = .ok (.iload_n 0, 1) := by decide +kernel
theorem dJ6_bitCount_0f7a4_2 : decode cJ6_bitCount_0f7a4 2 = .ok (.iconst 1, 1) := by decide +kernel
theorem dJ6_bitCount_0f7a4_3 : decode cJ6_bitCount_0f7a4 3 = .ok (.iushr, 1) := by decide +kernel
theorem dJ6_bitCount_0f7a4_4 : decode cJ6_bitCount_0f7a4 4 = .ok (.ldc_w 265, 3) := by decide +kernel
theorem dJ6_bitCount_0f7a4_7 : decode cJ6_bitCount_0f7a4 7 = .ok (.iand, 1) := by decide +kernel
theorem dJ6_bitCount_0f7a4_8 : decode cJ6_bitCount_0f7a4 8 = .ok (.isub, 1) := by decide +kernel
theorem dJ6_bitCount_0f7a4_9 : decode cJ6_bitCount_0f7a4 9 = .ok (.istore_n 0, 1) := by decide +kernel
theorem dJ6_bitCount_0f7a4_10 : decode cJ6_bitCount_0f7a4 10 = .ok (.iload_n 0, 1) := by decide +kernel
theorem dJ6_bitCount_0f7a4_11 : decode cJ6_bitCount_0f7a4 11 = .ok (.ldc_w 266, 3) := by decide +kernel
theorem dJ6_bitCount_0f7a4_14 : decode cJ6_bitCount_0f7a4 14 = .ok (.iand, 1) := by decide +kernel
theorem dJ6_bitCount_0f7a4_15 : decode cJ6_bitCount_0f7a4 15 = .ok (.iload_n 0, 1) := by decide +kernel
theorem dJ6_bitCount_0f7a4_16 : decode cJ6_bitCount_0f7a4 16 = .ok (.iconst 2, 1) := by decide +kernel
theorem dJ6_bitCount_0f7a4_17 : decode cJ6_bitCount_0f7a4 17 = .ok (.iushr, 1) := by decide +kernel
theorem dJ6_bitCount_0f7a4_18 : decode cJ6_bitCount_0f7a4 18 = .ok (.ldc_w 266, 3) := by decide +kernel
theorem dJ6_bitCount_0f7a4_21 : decode cJ6_bitCount_0f7a4 21 = .ok (.iand, 1) := by decide +kernel
theorem dJ6_bitCount_0f7a4_22 : decode cJ6_bitCount_0f7a4 22 = .ok (.iadd, 1) := by decide +kernel
theorem dJ6_bitCount_0f7a4_23 : decode cJ6_bitCount_0f7a4 23 = .ok (.istore_n 0, 1) := by decide +kernel
theorem dJ6_bitCount_0f7a4_24 : decode cJ6_bitCount_0f7a4 24 = .ok (.iload_n 0, 1) := by decide +kernel
theorem dJ6_bitCount_0f7a4_25 : decode cJ6_bitCount_0f7a4 25 = .ok (.iload_n 0, 1) := by decide +kernel
theorem dJ6_bitCount_0f7a4_26 : decode cJ6_bitCount_0f7a4 26 = .ok (.iconst 4, 1) := by decide +kernel
theorem dJ6_bitCount_0f7a4_27 : decode cJ6_bitCount_0f7a4 27 = .ok (.iushr, 1) := by decide +kernel
theorem dJ6_bitCount_0f7a4_28 : decode cJ6_bitCount_0f7a4 28 = .ok (.iadd, 1) := by decide +kernel
theorem dJ6_bitCount_0f7a4_29 : decode cJ6_bitCount_0f7a4 29 = .ok (.ldc_w 267, 3) := by decide +kernel
theorem dJ6_bitCount_0f7a4_32 : decode cJ6_bitCount_0f7a4 32 = .ok (.iand, 1) := by decide +kernel
theorem dJ6_bitCount_0f7a4_33 : decode cJ6_bitCount_0f7a4 33 = .ok (.istore_n 0, 1) := by decide +kernel
theorem dJ6_bitCount_0f7a4_34 : decode cJ6_bitCount_0f7a4 34 = .ok (.iload_n 0, 1) := by decide +kernel
theorem dJ6_bitCount_0f7a4_35 : decode cJ6_bitCount_0f7a4 35 = .ok (.iload_n 0, 1) := by decide +kernel
theorem dJ6_bitCount_0f7a4_36 : decode cJ6_bitCount_0f7a4 36 = .ok (.bipush 8, 2) := by decide +kernel
theorem dJ6_bitCount_0f7a4_38 : decode cJ6_bitCount_0f7a4 38 = .ok (.iushr, 1) := by decide +kernel
theorem dJ6_bitCount_0f7a4_39 : decode cJ6_bitCount_0f7a4 39 = .ok (.iadd, 1) := by decide +kernel
theorem dJ6_bitCount_0f7a4_40 : decode cJ6_bitCount_0f7a4 40 = .ok (.istore_n 0, 1) := by decide +kernel
theorem dJ6_bitCount_0f7a4_41 : decode cJ6_bitCount_0f7a4 41 = .ok (.iload_n 0, 1) := by decide +kernel
theorem dJ6_bitCount_0f7a4_42 : decode cJ6_bitCount_0f7a4 42 = .ok (.iload_n 0, 1) := by decide +kernel
theorem dJ6_bitCount_0f7a4_43 : decode cJ6_bitCount_0f7a4 43 = .ok (.bipush 16, 2) := by decide +kernel
theorem dJ6_bitCount_0f7a4_45 : decode cJ6_bitCount_0f7a4 45 = .ok (.iushr, 1) := by decide +kernel
theorem dJ6_bitCount_0f7a4_46 : decode cJ6_bitCount_0f7a4 46 = .ok (.iadd, 1) := by decide +kernel
theorem dJ6_bitCount_0f7a4_47 : decode cJ6_bitCount_0f7a4 47 = .ok (.istore_n 0, 1) := by decide +kernel
theorem dJ6_bitCount_0f7a4_48 : decode cJ6_bitCount_0f7a4 48 = .ok (.iload_n 0, 1) := by decide +kernel
theorem dJ6_bitCount_0f7a4_49 : decode cJ6_bitCount_0f7a4 49 = .ok (.bipush 63, 2) := by decide +kernel
theorem dJ6_bitCount_0f7a4_51 : decode cJ6_bitCount_0f7a4 51 = .ok (.iand, 1) := by decide +kernel
theorem dJ6_bitCount_0f7a4_52 : decode cJ6_bitCount_0f7a4 52 = .ok (.ireturn, 1) := by decide +kernel
theorem dJ9_max_7cf53_0 : decode cJ9_max_7cf53 0 = .ok (.iload_n 0, 1) := by decide +kernel
theorem dJ9_max_7cf53_1 : decode cJ9_max_7cf53 1 = .ok (.iload_n 1, 1) := by decide +kernel
theorem dJ9_max_7cf53_2 : decode cJ9_max_7cf53 2 = .ok (.if_icmp .lt 7, 3) := by decide +kernel
theorem dJ9_max_7cf53_5 : decode cJ9_max_7cf53 5 = .ok (.iload_n 0, 1) := by decide +kernel
theorem dJ9_max_7cf53_6 : decode cJ9_max_7cf53 6 = .ok (.goto 4, 3) := by decide +kernel
theorem dJ9_max_7cf53_9 : decode cJ9_max_7cf53 9 = .ok (.iload_n 1, 1) := by decide +kernel
theorem dJ9_max_7cf53_10 : decode cJ9_max_7cf53 10 = .ok (.ireturn, 1) := by decide +kernel
theorem dJ9_min_7cf53_0 : decode cJ9_min_7cf53 0 = .ok (.iload_n 0, 1) := by decide +kernel
theorem dJ9_min_7cf53_1 : decode cJ9_min_7cf53 1 = .ok (.iload_n 1, 1) := by decide +kernel
theorem dJ9_min_7cf53_2 : decode cJ9_min_7cf53 2 = .ok (.if_icmp .gt 7, 3) := by decide +kernel
theorem dJ9_min_7cf53_5 : decode cJ9_min_7cf53 5 = .ok (.iload_n 0, 1) := by decide +kernel
theorem dJ9_min_7cf53_6 : decode cJ9_min_7cf53 6 = .ok (.goto 4, 3) := by decide +kernel
theorem dJ9_min_7cf53_9 : decode cJ9_min_7cf53 9 = .ok (.iload_n 1, 1) := by decide +kernel
theorem dJ9_min_7cf53_10 : decode cJ9_min_7cf53 10 = .ok (.ireturn, 1) := by decide +kernel
end
section
theorem kn_RL : Cond.initialized RL ∈ lw_tbl := List.mem_of_getElem? (i := 56) (by decide +kernel)
theorem kn_RX7 : Cond.initialized RX7 ∈ lw_tbl := List.mem_of_getElem? (i := 57) (by decide +kernel)
theorem kn_RX3 : Cond.initialized RX3 ∈ lw_tbl := List.mem_of_getElem? (i := 58) (by decide +kernel)
theorem kn_RX4 : Cond.initialized RX4 ∈ lw_tbl := List.mem_of_getElem? (i := 59) (by decide +kernel)
theorem kn_RX2 : Cond.initialized RX2 ∈ lw_tbl := List.mem_of_getElem? (i := 60) (by decide +kernel)
theorem kn_RX0 : Cond.initialized RX0 ∈ lw_tbl := List.mem_of_getElem? (i := 61) (by decide +kernel)
theorem kn_RX6 : Cond.initialized RX6 ∈ lw_tbl := List.mem_of_getElem? (i := 62) (by decide +kernel)
theorem kn_RX5 : Cond.initialized RX5 ∈ lw_tbl := List.mem_of_getElem? (i := 63) (by decide +kernel)
theorem kn_RX8 : Cond.initialized RX8 ∈ lw_tbl := List.mem_of_getElem? (i := 64) (by decide +kernel)
theorem kn_RJ10 : Cond.initialized RJ10 ∈ lw_tbl := List.mem_of_getElem? (i := 65) (by decide +kernel)
theorem kn_RX1 : Cond.initialized RX1 ∈ lw_tbl := List.mem_of_getElem? (i := 66) (by decide +kernel)
theorem kn_RJ9 : Cond.initialized RJ9 ∈ lw_tbl := List.mem_of_getElem? (i := 67) (by decide +kernel)
theorem kn_RJ0 : Cond.initialized RJ0 ∈ lw_tbl := List.mem_of_getElem? (i := 68) (by decide +kernel)
theorem kn_RJ1 : Cond.initialized RJ1 ∈ lw_tbl := List.mem_of_getElem? (i := 69) (by decide +kernel)
theorem kn_RJ3 : Cond.initialized RJ3 ∈ lw_tbl := List.mem_of_getElem? (i := 70) (by decide +kernel)
theorem kn_RJ2 : Cond.initialized RJ2 ∈ lw_tbl := List.mem_of_getElem? (i := 71) (by decide +kernel)
theorem kn_RJ6 : Cond.initialized RJ6 ∈ lw_tbl := List.mem_of_getElem? (i := 72) (by decide +kernel)
theorem km_RL_9 : Cond.methodLink RL 9 yX7_init ∈ lw_tbl := List.mem_of_getElem? (i := 75) (by decide +kernel)
theorem ki_yX7_init : Cond.instanceMethod yX7_init ∈ lw_tbl := List.mem_of_getElem? (i := 76) (by decide +kernel)
theorem kc_yX7_init : Cond.code yX7_init cX7_init 2 (Option.none : Option FieldType) ∈ lw_tbl := List.mem_of_getElem? (i := 77) (by decide +kernel)
theorem km_RX7_3 : Cond.methodLink RX7 3 ⟨"java/lang/Object", "<init>", "()V"⟩ ∈ lw_tbl := List.mem_of_getElem? (i := 78) (by decide +kernel)
theorem ki_yX3_init : Cond.instanceMethod yX3_init ∈ lw_tbl := List.mem_of_getElem? (i := 84) (by decide +kernel)
theorem kc_yX3_init : Cond.code yX3_init cX3_init 1 (Option.none : Option FieldType) ∈ lw_tbl := List.mem_of_getElem? (i := 85) (by decide +kernel)
theorem km_RX3_1 : Cond.methodLink RX3 1 ⟨"java/lang/Object", "<init>", "()V"⟩ ∈ lw_tbl := List.mem_of_getElem? (i := 86) (by decide +kernel)
theorem ki_yX4_init : Cond.instanceMethod yX4_init ∈ lw_tbl := List.mem_of_getElem? (i := 90) (by decide +kernel)
theorem kc_yX4_init : Cond.code yX4_init cX4_init 1 (Option.none : Option FieldType) ∈ lw_tbl := List.mem_of_getElem? (i := 91) (by decide +kernel)
theorem km_RX4_3 : Cond.methodLink RX4 3 ⟨"java/lang/Object", "<init>", "()V"⟩ ∈ lw_tbl := List.mem_of_getElem? (i := 92) (by decide +kernel)
theorem kf_RX4_11 : Cond.fieldLink RX4 11 "ShapeMoves$Shape" "places" "[I" ∈ lw_tbl := List.mem_of_getElem? (i := 93) (by decide +kernel)
theorem kf_RX4_15 : Cond.fieldLink RX4 15 "ShapeMoves$Shape" "marks" "[I" ∈ lw_tbl := List.mem_of_getElem? (i := 95) (by decide +kernel)
theorem kf_RX4_18 : Cond.fieldLink RX4 18 "ShapeMoves$Shape" "size" "I" ∈ lw_tbl := List.mem_of_getElem? (i := 97) (by decide +kernel)
theorem km_RX3_18 : Cond.methodLink RX3 18 yX2_init ∈ lw_tbl := List.mem_of_getElem? (i := 110) (by decide +kernel)
theorem ki_yX2_init : Cond.instanceMethod yX2_init ∈ lw_tbl := List.mem_of_getElem? (i := 111) (by decide +kernel)
theorem kc_yX2_init : Cond.code yX2_init cX2_init 2 (Option.none : Option FieldType) ∈ lw_tbl := List.mem_of_getElem? (i := 112) (by decide +kernel)
theorem km_RX2_1 : Cond.methodLink RX2 1 ⟨"java/lang/Object", "<init>", "()V"⟩ ∈ lw_tbl := List.mem_of_getElem? (i := 113) (by decide +kernel)
theorem kf_RX2_13 : Cond.fieldLink RX2 13 "ShapeMoves$Rows" "first" "[I" ∈ lw_tbl := List.mem_of_getElem? (i := 114) (by decide +kernel)
theorem kf_RX2_17 : Cond.fieldLink RX2 17 "ShapeMoves$Rows" "second" "[I" ∈ lw_tbl := List.mem_of_getElem? (i := 116) (by decide +kernel)
theorem kf_RX2_7 : Cond.fieldLink RX2 7 "ShapeMoves$Rows" "size" "I" ∈ lw_tbl := List.mem_of_getElem? (i := 118) (by decide +kernel)
theorem kf_RX3_10 : Cond.fieldLink RX3 10 "ShapeMoves$Setup" "shape" "LShapeMoves$Shape;" ∈ lw_tbl := List.mem_of_getElem? (i := 127) (by decide +kernel)
theorem kf_RX3_21 : Cond.fieldLink RX3 21 "ShapeMoves$Setup" "seen" "LShapeMoves$Rows;" ∈ lw_tbl := List.mem_of_getElem? (i := 129) (by decide +kernel)
theorem kf_RX3_25 : Cond.fieldLink RX3 25 "ShapeMoves$Setup" "events" "LShapeMoves$Rows;" ∈ lw_tbl := List.mem_of_getElem? (i := 131) (by decide +kernel)
theorem kf_RX3_28 : Cond.fieldLink RX3 28 "ShapeMoves$Setup" "book" "LShapeMoves$Rows;" ∈ lw_tbl := List.mem_of_getElem? (i := 133) (by decide +kernel)
theorem ki_yX0_init : Cond.instanceMethod yX0_init ∈ lw_tbl := List.mem_of_getElem? (i := 147) (by decide +kernel)
theorem kc_yX0_init : Cond.code yX0_init cX0_init 1 (Option.none : Option FieldType) ∈ lw_tbl := List.mem_of_getElem? (i := 148) (by decide +kernel)
theorem km_RX0_1 : Cond.methodLink RX0 1 ⟨"java/lang/Object", "<init>", "()V"⟩ ∈ lw_tbl := List.mem_of_getElem? (i := 149) (by decide +kernel)
theorem kf_RX0_9 : Cond.fieldLink RX0 9 "ShapeMoves$Group" "members" "[Z" ∈ lw_tbl := List.mem_of_getElem? (i := 150) (by decide +kernel)
theorem kf_RX0_15 : Cond.fieldLink RX0 15 "ShapeMoves$Group" "byNumber" "[I" ∈ lw_tbl := List.mem_of_getElem? (i := 152) (by decide +kernel)
theorem kf_RX0_19 : Cond.fieldLink RX0 19 "ShapeMoves$Group" "size" "I" ∈ lw_tbl := List.mem_of_getElem? (i := 154) (by decide +kernel)
theorem kf_RX0_23 : Cond.fieldLink RX0 23 "ShapeMoves$Group" "stay" "[I" ∈ lw_tbl := List.mem_of_getElem? (i := 156) (by decide +kernel)
theorem kf_RX0_28 : Cond.fieldLink RX0 28 "ShapeMoves$Group" "orbits" "[I" ∈ lw_tbl := List.mem_of_getElem? (i := 157) (by decide +kernel)
theorem kf_RX0_31 : Cond.fieldLink RX0 31 "ShapeMoves$Group" "orbitsInAll" "I" ∈ lw_tbl := List.mem_of_getElem? (i := 159) (by decide +kernel)
theorem kf_RX0_34 : Cond.fieldLink RX0 34 "ShapeMoves$Group" "classLeast" "[I" ∈ lw_tbl := List.mem_of_getElem? (i := 161) (by decide +kernel)
theorem kf_RX0_37 : Cond.fieldLink RX0 37 "ShapeMoves$Group" "classList" "[I" ∈ lw_tbl := List.mem_of_getElem? (i := 163) (by decide +kernel)
theorem kf_RX0_40 : Cond.fieldLink RX0 40 "ShapeMoves$Group" "classes" "I" ∈ lw_tbl := List.mem_of_getElem? (i := 165) (by decide +kernel)
theorem kf_RX0_43 : Cond.fieldLink RX0 43 "ShapeMoves$Group" "parts" "[I" ∈ lw_tbl := List.mem_of_getElem? (i := 167) (by decide +kernel)
theorem kf_RX0_46 : Cond.fieldLink RX0 46 "ShapeMoves$Group" "reached" "[I" ∈ lw_tbl := List.mem_of_getElem? (i := 168) (by decide +kernel)
theorem kf_RX0_49 : Cond.fieldLink RX0 49 "ShapeMoves$Group" "reachedInAll" "I" ∈ lw_tbl := List.mem_of_getElem? (i := 169) (by decide +kernel)
theorem kf_RX0_52 : Cond.fieldLink RX0 52 "ShapeMoves$Group" "signs" "I" ∈ lw_tbl := List.mem_of_getElem? (i := 170) (by decide +kernel)
theorem ki_yX6_init : Cond.instanceMethod yX6_init ∈ lw_tbl := List.mem_of_getElem? (i := 204) (by decide +kernel)
theorem kc_yX6_init : Cond.code yX6_init cX6_init 1 (Option.none : Option FieldType) ∈ lw_tbl := List.mem_of_getElem? (i := 205) (by decide +kernel)
theorem km_RX6_1 : Cond.methodLink RX6 1 ⟨"java/lang/Object", "<init>", "()V"⟩ ∈ lw_tbl := List.mem_of_getElem? (i := 206) (by decide +kernel)
theorem kf_RX6_9 : Cond.fieldLink RX6 9 "ShapeMoves$Text" "signs" "[B" ∈ lw_tbl := List.mem_of_getElem? (i := 207) (by decide +kernel)
theorem kf_RX6_13 : Cond.fieldLink RX6 13 "ShapeMoves$Text" "size" "I" ∈ lw_tbl := List.mem_of_getElem? (i := 208) (by decide +kernel)
theorem kf_RX6_17 : Cond.fieldLink RX6 17 "ShapeMoves$Text" "place" "I" ∈ lw_tbl := List.mem_of_getElem? (i := 210) (by decide +kernel)
theorem kf_RX6_20 : Cond.fieldLink RX6 20 "ShapeMoves$Text" "parts" "[I" ∈ lw_tbl := List.mem_of_getElem? (i := 211) (by decide +kernel)
theorem kf_RX6_24 : Cond.fieldLink RX6 24 "ShapeMoves$Text" "clauses" "I" ∈ lw_tbl := List.mem_of_getElem? (i := 212) (by decide +kernel)
theorem ki_yX5_init : Cond.instanceMethod yX5_init ∈ lw_tbl := List.mem_of_getElem? (i := 230) (by decide +kernel)
theorem kc_yX5_init : Cond.code yX5_init cX5_init 1 (Option.none : Option FieldType) ∈ lw_tbl := List.mem_of_getElem? (i := 231) (by decide +kernel)
theorem km_RX5_1 : Cond.methodLink RX5 1 ⟨"java/lang/Object", "<init>", "()V"⟩ ∈ lw_tbl := List.mem_of_getElem? (i := 232) (by decide +kernel)
theorem kf_RX5_9 : Cond.fieldLink RX5 9 "ShapeMoves$Tape" "items" "[J" ∈ lw_tbl := List.mem_of_getElem? (i := 233) (by decide +kernel)
theorem kf_RX5_13 : Cond.fieldLink RX5 13 "ShapeMoves$Tape" "sort" "I" ∈ lw_tbl := List.mem_of_getElem? (i := 235) (by decide +kernel)
theorem kf_RX5_17 : Cond.fieldLink RX5 17 "ShapeMoves$Tape" "size" "I" ∈ lw_tbl := List.mem_of_getElem? (i := 237) (by decide +kernel)
theorem kf_RX7_12 : Cond.fieldLink RX7 12 "ShapeMoves" "now" "LShapeMoves$Setup;" ∈ lw_tbl := List.mem_of_getElem? (i := 246) (by decide +kernel)
theorem kf_RX7_18 : Cond.fieldLink RX7 18 "ShapeMoves" "imaged" "LShapeMoves$Setup;" ∈ lw_tbl := List.mem_of_getElem? (i := 247) (by decide +kernel)
theorem kf_RX7_21 : Cond.fieldLink RX7 21 "ShapeMoves" "isImaged" "Z" ∈ lw_tbl := List.mem_of_getElem? (i := 248) (by decide +kernel)
theorem kf_RX7_28 : Cond.fieldLink RX7 28 "ShapeMoves" "nowGroup" "LShapeMoves$Group;" ∈ lw_tbl := List.mem_of_getElem? (i := 249) (by decide +kernel)
theorem kf_RX7_32 : Cond.fieldLink RX7 32 "ShapeMoves" "isGroupOld" "Z" ∈ lw_tbl := List.mem_of_getElem? (i := 250) (by decide +kernel)
theorem kf_RX7_38 : Cond.fieldLink RX7 38 "ShapeMoves" "trial" "LShapeMoves$Shape;" ∈ lw_tbl := List.mem_of_getElem? (i := 251) (by decide +kernel)
theorem kf_RX7_42 : Cond.fieldLink RX7 42 "ShapeMoves" "trialGroup" "LShapeMoves$Group;" ∈ lw_tbl := List.mem_of_getElem? (i := 252) (by decide +kernel)
theorem kf_RX7_48 : Cond.fieldLink RX7 48 "ShapeMoves" "text" "LShapeMoves$Text;" ∈ lw_tbl := List.mem_of_getElem? (i := 253) (by decide +kernel)
theorem kf_RX7_54 : Cond.fieldLink RX7 54 "ShapeMoves" "tapes" "[LShapeMoves$Tape;" ∈ lw_tbl := List.mem_of_getElem? (i := 254) (by decide +kernel)
theorem km_RL_13 : Cond.methodLink RL 13 yX7_point ∈ lw_tbl := List.mem_of_getElem? (i := 274) (by decide +kernel)
theorem ki_yX7_point : Cond.instanceMethod yX7_point ∈ lw_tbl := List.mem_of_getElem? (i := 275) (by decide +kernel)
theorem kx_yX7_point : Cond.selects RX7 yX7_point yX7_point ∈ lw_tbl := List.mem_of_getElem? (i := 276) (by decide +kernel)
theorem kc_yX7_point : Cond.code yX7_point cX7_point 5 (Option.some FieldType.int) ∈ lw_tbl := List.mem_of_getElem? (i := 277) (by decide +kernel)
theorem km_RX7_59 : Cond.methodLink RX7 59 yX7_isPlace ∈ lw_tbl := List.mem_of_getElem? (i := 278) (by decide +kernel)
theorem ks_yX7_isPlace : Cond.static yX7_isPlace ∈ lw_tbl := List.mem_of_getElem? (i := 279) (by decide +kernel)
theorem kc_yX7_isPlace : Cond.code yX7_isPlace cX7_isPlace 3 (Option.some FieldType.boolean) ∈ lw_tbl := List.mem_of_getElem? (i := 280) (by decide +kernel)
theorem km_RX7_300 : Cond.methodLink RX7 300 yX7_isAxis ∈ lw_tbl := List.mem_of_getElem? (i := 281) (by decide +kernel)
theorem ks_yX7_isAxis : Cond.static yX7_isAxis ∈ lw_tbl := List.mem_of_getElem? (i := 282) (by decide +kernel)
theorem kc_yX7_isAxis : Cond.code yX7_isAxis cX7_isAxis 1 (Option.some FieldType.boolean) ∈ lw_tbl := List.mem_of_getElem? (i := 283) (by decide +kernel)
theorem km_RX7_63 : Cond.methodLink RX7 63 yX7_isMark ∈ lw_tbl := List.mem_of_getElem? (i := 284) (by decide +kernel)
theorem ks_yX7_isMark : Cond.static yX7_isMark ∈ lw_tbl := List.mem_of_getElem? (i := 285) (by decide +kernel)
theorem kc_yX7_isMark : Cond.code yX7_isMark cX7_isMark 1 (Option.some FieldType.boolean) ∈ lw_tbl := List.mem_of_getElem? (i := 286) (by decide +kernel)
theorem km_RX7_70 : Cond.methodLink RX7 70 yX4_pointAt ∈ lw_tbl := List.mem_of_getElem? (i := 287) (by decide +kernel)
theorem ki_yX4_pointAt : Cond.instanceMethod yX4_pointAt ∈ lw_tbl := List.mem_of_getElem? (i := 288) (by decide +kernel)
theorem kx_yX4_pointAt : Cond.selects RX4 yX4_pointAt yX4_pointAt ∈ lw_tbl := List.mem_of_getElem? (i := 289) (by decide +kernel)
theorem kc_yX4_pointAt : Cond.code yX4_pointAt cX4_pointAt 6 (Option.some FieldType.int) ∈ lw_tbl := List.mem_of_getElem? (i := 290) (by decide +kernel)
theorem km_RX7_78 : Cond.methodLink RX7 78 yX4_add ∈ lw_tbl := List.mem_of_getElem? (i := 291) (by decide +kernel)
theorem ki_yX4_add : Cond.instanceMethod yX4_add ∈ lw_tbl := List.mem_of_getElem? (i := 292) (by decide +kernel)
theorem kx_yX4_add : Cond.selects RX4 yX4_add yX4_add ∈ lw_tbl := List.mem_of_getElem? (i := 293) (by decide +kernel)
theorem kc_yX4_add : Cond.code yX4_add cX4_add 6 (Option.some FieldType.int) ∈ lw_tbl := List.mem_of_getElem? (i := 294) (by decide +kernel)
theorem km_RX4_28 : Cond.methodLink RX4 28 yX4_setPlace ∈ lw_tbl := List.mem_of_getElem? (i := 295) (by decide +kernel)
theorem ki_yX4_setPlace : Cond.instanceMethod yX4_setPlace ∈ lw_tbl := List.mem_of_getElem? (i := 297) (by decide +kernel)
theorem kc_yX4_setPlace : Cond.code yX4_setPlace cX4_setPlace 5 (Option.none : Option FieldType) ∈ lw_tbl := List.mem_of_getElem? (i := 298) (by decide +kernel)
theorem km_RL_18 : Cond.methodLink RL 18 yX7_mark ∈ lw_tbl := List.mem_of_getElem? (i := 299) (by decide +kernel)
theorem ki_yX7_mark : Cond.instanceMethod yX7_mark ∈ lw_tbl := List.mem_of_getElem? (i := 300) (by decide +kernel)
theorem kx_yX7_mark : Cond.selects RX7 yX7_mark yX7_mark ∈ lw_tbl := List.mem_of_getElem? (i := 301) (by decide +kernel)
theorem kc_yX7_mark : Cond.code yX7_mark cX7_mark 4 (Option.some FieldType.int) ∈ lw_tbl := List.mem_of_getElem? (i := 302) (by decide +kernel)
theorem km_RX7_82 : Cond.methodLink RX7 82 yX7_isPoint ∈ lw_tbl := List.mem_of_getElem? (i := 303) (by decide +kernel)
theorem ki_yX7_isPoint : Cond.instanceMethod yX7_isPoint ∈ lw_tbl := List.mem_of_getElem? (i := 305) (by decide +kernel)
theorem kc_yX7_isPoint : Cond.code yX7_isPoint cX7_isPoint 2 (Option.some FieldType.boolean) ∈ lw_tbl := List.mem_of_getElem? (i := 306) (by decide +kernel)
theorem km_RL_23 : Cond.methodLink RL 23 yX7_drop ∈ lw_tbl := List.mem_of_getElem? (i := 307) (by decide +kernel)
theorem ki_yX7_drop : Cond.instanceMethod yX7_drop ∈ lw_tbl := List.mem_of_getElem? (i := 308) (by decide +kernel)
theorem kx_yX7_drop : Cond.selects RX7 yX7_drop yX7_drop ∈ lw_tbl := List.mem_of_getElem? (i := 309) (by decide +kernel)
theorem kc_yX7_drop : Cond.code yX7_drop cX7_drop 2 (Option.some FieldType.int) ∈ lw_tbl := List.mem_of_getElem? (i := 310) (by decide +kernel)
theorem km_RX7_89 : Cond.methodLink RX7 89 yX4_remove ∈ lw_tbl := List.mem_of_getElem? (i := 311) (by decide +kernel)
theorem ki_yX4_remove : Cond.instanceMethod yX4_remove ∈ lw_tbl := List.mem_of_getElem? (i := 312) (by decide +kernel)
theorem kx_yX4_remove : Cond.selects RX4 yX4_remove yX4_remove ∈ lw_tbl := List.mem_of_getElem? (i := 313) (by decide +kernel)
theorem kc_yX4_remove : Cond.code yX4_remove cX4_remove 3 (Option.none : Option FieldType) ∈ lw_tbl := List.mem_of_getElem? (i := 314) (by decide +kernel)
theorem km_RX4_22 : Cond.methodLink RX4 22 ⟨"java/lang/System", "arraycopy", "(Ljava/lang/Object;ILjava/lang/Object;II)V"⟩ ∈ lw_tbl := List.mem_of_getElem? (i := 315) (by decide +kernel)
theorem km_RL_28 : Cond.methodLink RL 28 yX7_of ∈ lw_tbl := List.mem_of_getElem? (i := 318) (by decide +kernel)
theorem ki_yX7_of : Cond.instanceMethod yX7_of ∈ lw_tbl := List.mem_of_getElem? (i := 319) (by decide +kernel)
theorem kx_yX7_of : Cond.selects RX7 yX7_of yX7_of ∈ lw_tbl := List.mem_of_getElem? (i := 320) (by decide +kernel)
theorem kc_yX7_of : Cond.code yX7_of cX7_of 3 (Option.some FieldType.int) ∈ lw_tbl := List.mem_of_getElem? (i := 321) (by decide +kernel)
theorem km_RX7_93 : Cond.methodLink RX7 93 yX7_groupNow ∈ lw_tbl := List.mem_of_getElem? (i := 322) (by decide +kernel)
theorem ki_yX7_groupNow : Cond.instanceMethod yX7_groupNow ∈ lw_tbl := List.mem_of_getElem? (i := 324) (by decide +kernel)
theorem kc_yX7_groupNow : Cond.code yX7_groupNow cX7_groupNow 1 (Option.some (FieldType.object "ShapeMoves$Group")) ∈ lw_tbl := List.mem_of_getElem? (i := 325) (by decide +kernel)
theorem km_RX7_263 : Cond.methodLink RX7 263 yX0_find ∈ lw_tbl := List.mem_of_getElem? (i := 326) (by decide +kernel)
theorem ki_yX0_find : Cond.instanceMethod yX0_find ∈ lw_tbl := List.mem_of_getElem? (i := 327) (by decide +kernel)
theorem kx_yX0_find : Cond.selects RX0 yX0_find yX0_find ∈ lw_tbl := List.mem_of_getElem? (i := 328) (by decide +kernel)
theorem kc_yX0_find : Cond.code yX0_find cX0_find 3 (Option.none : Option FieldType) ∈ lw_tbl := List.mem_of_getElem? (i := 329) (by decide +kernel)
theorem km_RX0_55 : Cond.methodLink RX0 55 yX4_isKeptBy ∈ lw_tbl := List.mem_of_getElem? (i := 330) (by decide +kernel)
theorem ki_yX4_isKeptBy : Cond.instanceMethod yX4_isKeptBy ∈ lw_tbl := List.mem_of_getElem? (i := 331) (by decide +kernel)
theorem kx_yX4_isKeptBy : Cond.selects RX4 yX4_isKeptBy yX4_isKeptBy ∈ lw_tbl := List.mem_of_getElem? (i := 332) (by decide +kernel)
theorem kc_yX4_isKeptBy : Cond.code yX4_isKeptBy cX4_isKeptBy 3 (Option.some FieldType.boolean) ∈ lw_tbl := List.mem_of_getElem? (i := 333) (by decide +kernel)
theorem km_RX4_51 : Cond.methodLink RX4 51 yX4_isMovedBy ∈ lw_tbl := List.mem_of_getElem? (i := 334) (by decide +kernel)
theorem ki_yX4_isMovedBy : Cond.instanceMethod yX4_isMovedBy ∈ lw_tbl := List.mem_of_getElem? (i := 336) (by decide +kernel)
theorem kc_yX4_isMovedBy : Cond.code yX4_isMovedBy cX4_isMovedBy 4 (Option.some FieldType.boolean) ∈ lw_tbl := List.mem_of_getElem? (i := 337) (by decide +kernel)
theorem km_RX4_48 : Cond.methodLink RX4 48 yX4_pointBehind ∈ lw_tbl := List.mem_of_getElem? (i := 338) (by decide +kernel)
theorem ki_yX4_pointBehind : Cond.instanceMethod yX4_pointBehind ∈ lw_tbl := List.mem_of_getElem? (i := 339) (by decide +kernel)
theorem kx_yX4_pointBehind : Cond.selects RX4 yX4_pointBehind yX4_pointBehind ∈ lw_tbl := List.mem_of_getElem? (i := 340) (by decide +kernel)
theorem kc_yX4_pointBehind : Cond.code yX4_pointBehind cX4_pointBehind 3 (Option.some FieldType.int) ∈ lw_tbl := List.mem_of_getElem? (i := 341) (by decide +kernel)
theorem km_RX4_41 : Cond.methodLink RX4 41 yX4_axisBehind ∈ lw_tbl := List.mem_of_getElem? (i := 342) (by decide +kernel)
theorem ki_yX4_axisBehind : Cond.instanceMethod yX4_axisBehind ∈ lw_tbl := List.mem_of_getElem? (i := 344) (by decide +kernel)
theorem kc_yX4_axisBehind : Cond.code yX4_axisBehind cX4_axisBehind 5 (Option.some FieldType.int) ∈ lw_tbl := List.mem_of_getElem? (i := 345) (by decide +kernel)
theorem km_RX4_32 : Cond.methodLink RX4 32 yX1_axisAt ∈ lw_tbl := List.mem_of_getElem? (i := 346) (by decide +kernel)
theorem ks_yX1_axisAt : Cond.static yX1_axisAt ∈ lw_tbl := List.mem_of_getElem? (i := 347) (by decide +kernel)
theorem kc_yX1_axisAt : Cond.code yX1_axisAt cX1_axisAt 2 (Option.some FieldType.int) ∈ lw_tbl := List.mem_of_getElem? (i := 348) (by decide +kernel)
theorem kf_RX1_9 : Cond.fieldLink RX1 9 "ShapeMoves$Moves" "WAYS" "[I" ∈ lw_tbl := List.mem_of_getElem? (i := 349) (by decide +kernel)
theorem km_RX4_38 : Cond.methodLink RX4 38 yX1_signBit ∈ lw_tbl := List.mem_of_getElem? (i := 351) (by decide +kernel)
theorem ks_yX1_signBit : Cond.static yX1_signBit ∈ lw_tbl := List.mem_of_getElem? (i := 352) (by decide +kernel)
theorem kc_yX1_signBit : Cond.code yX1_signBit cX1_signBit 2 (Option.some FieldType.int) ∈ lw_tbl := List.mem_of_getElem? (i := 353) (by decide +kernel)
theorem km_RX4_45 : Cond.methodLink RX4 45 yX4_pointAt ∈ lw_tbl := List.mem_of_getElem? (i := 354) (by decide +kernel)
theorem km_RX0_59 : Cond.methodLink RX0 59 yX0_findOrbits ∈ lw_tbl := List.mem_of_getElem? (i := 355) (by decide +kernel)
theorem ki_yX0_findOrbits : Cond.instanceMethod yX0_findOrbits ∈ lw_tbl := List.mem_of_getElem? (i := 357) (by decide +kernel)
theorem kc_yX0_findOrbits : Cond.code yX0_findOrbits cX0_findOrbits 3 (Option.none : Option FieldType) ∈ lw_tbl := List.mem_of_getElem? (i := 358) (by decide +kernel)
theorem km_RX0_67 : Cond.methodLink RX0 67 yX0_findOrbit ∈ lw_tbl := List.mem_of_getElem? (i := 359) (by decide +kernel)
theorem ki_yX0_findOrbit : Cond.instanceMethod yX0_findOrbit ∈ lw_tbl := List.mem_of_getElem? (i := 361) (by decide +kernel)
theorem kc_yX0_findOrbit : Cond.code yX0_findOrbit cX0_findOrbit 5 (Option.none : Option FieldType) ∈ lw_tbl := List.mem_of_getElem? (i := 362) (by decide +kernel)
theorem km_RX0_71 : Cond.methodLink RX0 71 yX4_pointBehind ∈ lw_tbl := List.mem_of_getElem? (i := 363) (by decide +kernel)
theorem km_RX0_75 : Cond.methodLink RX0 75 yJ9_min_7cf53 ∈ lw_tbl := List.mem_of_getElem? (i := 364) (by decide +kernel)
theorem ks_yJ9_min_7cf53 : Cond.static yJ9_min_7cf53 ∈ lw_tbl := List.mem_of_getElem? (i := 365) (by decide +kernel)
theorem kc_yJ9_min_7cf53 : Cond.code yJ9_min_7cf53 cJ9_min_7cf53 2 (Option.some FieldType.int) ∈ lw_tbl := List.mem_of_getElem? (i := 366) (by decide +kernel)
theorem km_RX0_63 : Cond.methodLink RX0 63 yX0_findClasses ∈ lw_tbl := List.mem_of_getElem? (i := 367) (by decide +kernel)
theorem ki_yX0_findClasses : Cond.instanceMethod yX0_findClasses ∈ lw_tbl := List.mem_of_getElem? (i := 369) (by decide +kernel)
theorem kc_yX0_findClasses : Cond.code yX0_findClasses cX0_findClasses 3 (Option.none : Option FieldType) ∈ lw_tbl := List.mem_of_getElem? (i := 370) (by decide +kernel)
theorem km_RX0_80 : Cond.methodLink RX0 80 yX0_findClass ∈ lw_tbl := List.mem_of_getElem? (i := 371) (by decide +kernel)
theorem ki_yX0_findClass : Cond.instanceMethod yX0_findClass ∈ lw_tbl := List.mem_of_getElem? (i := 373) (by decide +kernel)
theorem kc_yX0_findClass : Cond.code yX0_findClass cX0_findClass 5 (Option.none : Option FieldType) ∈ lw_tbl := List.mem_of_getElem? (i := 374) (by decide +kernel)
theorem km_RX0_84 : Cond.methodLink RX0 84 yX1_multiply ∈ lw_tbl := List.mem_of_getElem? (i := 375) (by decide +kernel)
theorem ks_yX1_multiply : Cond.static yX1_multiply ∈ lw_tbl := List.mem_of_getElem? (i := 376) (by decide +kernel)
theorem kc_yX1_multiply : Cond.code yX1_multiply cX1_multiply 7 (Option.some FieldType.int) ∈ lw_tbl := List.mem_of_getElem? (i := 377) (by decide +kernel)
theorem km_RX1_13 : Cond.methodLink RX1 13 yX1_signBit ∈ lw_tbl := List.mem_of_getElem? (i := 378) (by decide +kernel)
theorem km_RX1_17 : Cond.methodLink RX1 17 yX1_axisAt ∈ lw_tbl := List.mem_of_getElem? (i := 379) (by decide +kernel)
theorem km_RX0_87 : Cond.methodLink RX0 87 yX1_invert ∈ lw_tbl := List.mem_of_getElem? (i := 380) (by decide +kernel)
theorem ks_yX1_invert : Cond.static yX1_invert ∈ lw_tbl := List.mem_of_getElem? (i := 381) (by decide +kernel)
theorem kc_yX1_invert : Cond.code yX1_invert cX1_invert 3 (Option.some FieldType.int) ∈ lw_tbl := List.mem_of_getElem? (i := 382) (by decide +kernel)
theorem kf_RX1_20 : Cond.fieldLink RX1 20 "ShapeMoves$Moves" "WAY_BACK" "[I" ∈ lw_tbl := List.mem_of_getElem? (i := 383) (by decide +kernel)
theorem km_RL_32 : Cond.methodLink RL 32 yX7_at ∈ lw_tbl := List.mem_of_getElem? (i := 385) (by decide +kernel)
theorem ki_yX7_at : Cond.instanceMethod yX7_at ∈ lw_tbl := List.mem_of_getElem? (i := 386) (by decide +kernel)
theorem kx_yX7_at : Cond.selects RX7 yX7_at yX7_at ∈ lw_tbl := List.mem_of_getElem? (i := 387) (by decide +kernel)
theorem kc_yX7_at : Cond.code yX7_at cX7_at 4 (Option.some FieldType.int) ∈ lw_tbl := List.mem_of_getElem? (i := 388) (by decide +kernel)
theorem km_RL_37 : Cond.methodLink RL 37 yX7_feed ∈ lw_tbl := List.mem_of_getElem? (i := 389) (by decide +kernel)
theorem ki_yX7_feed : Cond.instanceMethod yX7_feed ∈ lw_tbl := List.mem_of_getElem? (i := 390) (by decide +kernel)
theorem kx_yX7_feed : Cond.selects RX7 yX7_feed yX7_feed ∈ lw_tbl := List.mem_of_getElem? (i := 391) (by decide +kernel)
theorem kc_yX7_feed : Cond.code yX7_feed cX7_feed 2 (Option.some FieldType.int) ∈ lw_tbl := List.mem_of_getElem? (i := 392) (by decide +kernel)
theorem km_RX7_104 : Cond.methodLink RX7 104 yX6_add ∈ lw_tbl := List.mem_of_getElem? (i := 393) (by decide +kernel)
theorem ki_yX6_add : Cond.instanceMethod yX6_add ∈ lw_tbl := List.mem_of_getElem? (i := 394) (by decide +kernel)
theorem kx_yX6_add : Cond.selects RX6 yX6_add yX6_add ∈ lw_tbl := List.mem_of_getElem? (i := 395) (by decide +kernel)
theorem kc_yX6_add : Cond.code yX6_add cX6_add 2 (Option.some FieldType.int) ∈ lw_tbl := List.mem_of_getElem? (i := 396) (by decide +kernel)
theorem km_RL_41 : Cond.methodLink RL 41 yX7_read ∈ lw_tbl := List.mem_of_getElem? (i := 397) (by decide +kernel)
theorem ki_yX7_read : Cond.instanceMethod yX7_read ∈ lw_tbl := List.mem_of_getElem? (i := 398) (by decide +kernel)
theorem kx_yX7_read : Cond.selects RX7 yX7_read yX7_read ∈ lw_tbl := List.mem_of_getElem? (i := 399) (by decide +kernel)
theorem kc_yX7_read : Cond.code yX7_read cX7_read 4 (Option.some FieldType.int) ∈ lw_tbl := List.mem_of_getElem? (i := 400) (by decide +kernel)
theorem km_RX7_107 : Cond.methodLink RX7 107 yX6_parse ∈ lw_tbl := List.mem_of_getElem? (i := 401) (by decide +kernel)
theorem ki_yX6_parse : Cond.instanceMethod yX6_parse ∈ lw_tbl := List.mem_of_getElem? (i := 402) (by decide +kernel)
theorem kx_yX6_parse : Cond.selects RX6 yX6_parse yX6_parse ∈ lw_tbl := List.mem_of_getElem? (i := 403) (by decide +kernel)
theorem kc_yX6_parse : Cond.code yX6_parse cX6_parse 2 (Option.some FieldType.int) ∈ lw_tbl := List.mem_of_getElem? (i := 404) (by decide +kernel)
theorem km_RX6_27 : Cond.methodLink RX6 27 yX6_takeSign ∈ lw_tbl := List.mem_of_getElem? (i := 405) (by decide +kernel)
theorem ki_yX6_takeSign : Cond.instanceMethod yX6_takeSign ∈ lw_tbl := List.mem_of_getElem? (i := 407) (by decide +kernel)
theorem kc_yX6_takeSign : Cond.code yX6_takeSign cX6_takeSign 2 (Option.some FieldType.boolean) ∈ lw_tbl := List.mem_of_getElem? (i := 408) (by decide +kernel)
theorem km_RX6_31 : Cond.methodLink RX6 31 yX6_takeClause ∈ lw_tbl := List.mem_of_getElem? (i := 409) (by decide +kernel)
theorem ki_yX6_takeClause : Cond.instanceMethod yX6_takeClause ∈ lw_tbl := List.mem_of_getElem? (i := 411) (by decide +kernel)
theorem kc_yX6_takeClause : Cond.code yX6_takeClause cX6_takeClause 2 (Option.some FieldType.boolean) ∈ lw_tbl := List.mem_of_getElem? (i := 412) (by decide +kernel)
theorem km_RX6_35 : Cond.methodLink RX6 35 yX6_takeAxis ∈ lw_tbl := List.mem_of_getElem? (i := 413) (by decide +kernel)
theorem ki_yX6_takeAxis : Cond.instanceMethod yX6_takeAxis ∈ lw_tbl := List.mem_of_getElem? (i := 415) (by decide +kernel)
theorem kc_yX6_takeAxis : Cond.code yX6_takeAxis cX6_takeAxis 3 (Option.some FieldType.boolean) ∈ lw_tbl := List.mem_of_getElem? (i := 416) (by decide +kernel)
theorem km_RX6_38 : Cond.methodLink RX6 38 yX6_takeDigit ∈ lw_tbl := List.mem_of_getElem? (i := 417) (by decide +kernel)
theorem ki_yX6_takeDigit : Cond.instanceMethod yX6_takeDigit ∈ lw_tbl := List.mem_of_getElem? (i := 419) (by decide +kernel)
theorem kc_yX6_takeDigit : Cond.code yX6_takeDigit cX6_takeDigit 2 (Option.some FieldType.boolean) ∈ lw_tbl := List.mem_of_getElem? (i := 420) (by decide +kernel)
theorem km_RX7_114 : Cond.methodLink RX7 114 yX7_doClause ∈ lw_tbl := List.mem_of_getElem? (i := 421) (by decide +kernel)
theorem ki_yX7_doClause : Cond.instanceMethod yX7_doClause ∈ lw_tbl := List.mem_of_getElem? (i := 423) (by decide +kernel)
theorem kc_yX7_doClause : Cond.code yX7_doClause cX7_doClause 4 (Option.some FieldType.boolean) ∈ lw_tbl := List.mem_of_getElem? (i := 424) (by decide +kernel)
theorem km_RX7_117 : Cond.methodLink RX7 117 yX6_part ∈ lw_tbl := List.mem_of_getElem? (i := 425) (by decide +kernel)
theorem ki_yX6_part : Cond.instanceMethod yX6_part ∈ lw_tbl := List.mem_of_getElem? (i := 426) (by decide +kernel)
theorem kx_yX6_part : Cond.selects RX6 yX6_part yX6_part ∈ lw_tbl := List.mem_of_getElem? (i := 427) (by decide +kernel)
theorem kc_yX6_part : Cond.code yX6_part cX6_part 3 (Option.some FieldType.int) ∈ lw_tbl := List.mem_of_getElem? (i := 428) (by decide +kernel)
theorem km_RX7_121 : Cond.methodLink RX7 121 yX7_point ∈ lw_tbl := List.mem_of_getElem? (i := 429) (by decide +kernel)
theorem km_RX7_124 : Cond.methodLink RX7 124 yX7_mark ∈ lw_tbl := List.mem_of_getElem? (i := 430) (by decide +kernel)
theorem km_RX7_127 : Cond.methodLink RX7 127 yX7_drop ∈ lw_tbl := List.mem_of_getElem? (i := 431) (by decide +kernel)
theorem km_RL_46 : Cond.methodLink RL 46 yX7_product ∈ lw_tbl := List.mem_of_getElem? (i := 432) (by decide +kernel)
theorem ki_yX7_product : Cond.instanceMethod yX7_product ∈ lw_tbl := List.mem_of_getElem? (i := 433) (by decide +kernel)
theorem kx_yX7_product : Cond.selects RX7 yX7_product yX7_product ∈ lw_tbl := List.mem_of_getElem? (i := 434) (by decide +kernel)
theorem kc_yX7_product : Cond.code yX7_product cX7_product 3 (Option.some FieldType.int) ∈ lw_tbl := List.mem_of_getElem? (i := 435) (by decide +kernel)
theorem km_RX7_130 : Cond.methodLink RX7 130 yX1_isMove ∈ lw_tbl := List.mem_of_getElem? (i := 436) (by decide +kernel)
theorem ks_yX1_isMove : Cond.static yX1_isMove ∈ lw_tbl := List.mem_of_getElem? (i := 437) (by decide +kernel)
theorem kc_yX1_isMove : Cond.code yX1_isMove cX1_isMove 1 (Option.some FieldType.boolean) ∈ lw_tbl := List.mem_of_getElem? (i := 438) (by decide +kernel)
theorem km_RX7_135 : Cond.methodLink RX7 135 yX1_multiply ∈ lw_tbl := List.mem_of_getElem? (i := 439) (by decide +kernel)
theorem km_RL_50 : Cond.methodLink RL 50 yX7_move ∈ lw_tbl := List.mem_of_getElem? (i := 440) (by decide +kernel)
theorem ki_yX7_move : Cond.instanceMethod yX7_move ∈ lw_tbl := List.mem_of_getElem? (i := 441) (by decide +kernel)
theorem kx_yX7_move : Cond.selects RX7 yX7_move yX7_move ∈ lw_tbl := List.mem_of_getElem? (i := 442) (by decide +kernel)
theorem kc_yX7_move : Cond.code yX7_move cX7_move 3 (Option.some FieldType.int) ∈ lw_tbl := List.mem_of_getElem? (i := 443) (by decide +kernel)
theorem km_RX7_138 : Cond.methodLink RX7 138 yX1_invert ∈ lw_tbl := List.mem_of_getElem? (i := 444) (by decide +kernel)
theorem km_RX7_141 : Cond.methodLink RX7 141 yX1_orderOf ∈ lw_tbl := List.mem_of_getElem? (i := 445) (by decide +kernel)
theorem ks_yX1_orderOf : Cond.static yX1_orderOf ∈ lw_tbl := List.mem_of_getElem? (i := 446) (by decide +kernel)
theorem kc_yX1_orderOf : Cond.code yX1_orderOf cX1_orderOf 3 (Option.some FieldType.int) ∈ lw_tbl := List.mem_of_getElem? (i := 447) (by decide +kernel)
theorem km_RX1_23 : Cond.methodLink RX1 23 yX1_multiply ∈ lw_tbl := List.mem_of_getElem? (i := 448) (by decide +kernel)
theorem km_RX7_144 : Cond.methodLink RX7 144 yX4_isKeptBy ∈ lw_tbl := List.mem_of_getElem? (i := 449) (by decide +kernel)
theorem km_RX7_147 : Cond.methodLink RX7 147 yX4_movedBy ∈ lw_tbl := List.mem_of_getElem? (i := 450) (by decide +kernel)
theorem ki_yX4_movedBy : Cond.instanceMethod yX4_movedBy ∈ lw_tbl := List.mem_of_getElem? (i := 451) (by decide +kernel)
theorem kx_yX4_movedBy : Cond.selects RX4 yX4_movedBy yX4_movedBy ∈ lw_tbl := List.mem_of_getElem? (i := 452) (by decide +kernel)
theorem kc_yX4_movedBy : Cond.code yX4_movedBy cX4_movedBy 4 (Option.some FieldType.int) ∈ lw_tbl := List.mem_of_getElem? (i := 453) (by decide +kernel)
theorem km_RL_54 : Cond.methodLink RL 54 yX7_trace ∈ lw_tbl := List.mem_of_getElem? (i := 454) (by decide +kernel)
theorem ki_yX7_trace : Cond.instanceMethod yX7_trace ∈ lw_tbl := List.mem_of_getElem? (i := 455) (by decide +kernel)
theorem kx_yX7_trace : Cond.selects RX7 yX7_trace yX7_trace ∈ lw_tbl := List.mem_of_getElem? (i := 456) (by decide +kernel)
theorem kc_yX7_trace : Cond.code yX7_trace cX7_trace 3 (Option.some FieldType.int) ∈ lw_tbl := List.mem_of_getElem? (i := 457) (by decide +kernel)
theorem km_RX7_150 : Cond.methodLink RX7 150 yX1_traceOf ∈ lw_tbl := List.mem_of_getElem? (i := 458) (by decide +kernel)
theorem ks_yX1_traceOf : Cond.static yX1_traceOf ∈ lw_tbl := List.mem_of_getElem? (i := 459) (by decide +kernel)
theorem kc_yX1_traceOf : Cond.code yX1_traceOf cX1_traceOf 3 (Option.some FieldType.int) ∈ lw_tbl := List.mem_of_getElem? (i := 460) (by decide +kernel)
theorem km_RX7_153 : Cond.methodLink RX7 153 yX1_turnOf ∈ lw_tbl := List.mem_of_getElem? (i := 461) (by decide +kernel)
theorem ks_yX1_turnOf : Cond.static yX1_turnOf ∈ lw_tbl := List.mem_of_getElem? (i := 462) (by decide +kernel)
theorem kc_yX1_turnOf : Cond.code yX1_turnOf cX1_turnOf 2 (Option.some FieldType.int) ∈ lw_tbl := List.mem_of_getElem? (i := 463) (by decide +kernel)
theorem kf_RX1_26 : Cond.fieldLink RX1 26 "ShapeMoves$Moves" "TURN_OF_WAY" "[I" ∈ lw_tbl := List.mem_of_getElem? (i := 464) (by decide +kernel)
theorem km_RX1_29 : Cond.methodLink RX1 29 yJ6_bitCount_0f7a4 ∈ lw_tbl := List.mem_of_getElem? (i := 466) (by decide +kernel)
theorem ks_yJ6_bitCount_0f7a4 : Cond.static yJ6_bitCount_0f7a4 ∈ lw_tbl := List.mem_of_getElem? (i := 467) (by decide +kernel)
theorem kc_yJ6_bitCount_0f7a4 : Cond.code yJ6_bitCount_0f7a4 cJ6_bitCount_0f7a4 1 (Option.some FieldType.int) ∈ lw_tbl := List.mem_of_getElem? (i := 468) (by decide +kernel)
theorem km_RL_58 : Cond.methodLink RL 58 yX7_takes ∈ lw_tbl := List.mem_of_getElem? (i := 472) (by decide +kernel)
theorem ki_yX7_takes : Cond.instanceMethod yX7_takes ∈ lw_tbl := List.mem_of_getElem? (i := 473) (by decide +kernel)
theorem kx_yX7_takes : Cond.selects RX7 yX7_takes yX7_takes ∈ lw_tbl := List.mem_of_getElem? (i := 474) (by decide +kernel)
theorem kc_yX7_takes : Cond.code yX7_takes cX7_takes 3 (Option.some FieldType.int) ∈ lw_tbl := List.mem_of_getElem? (i := 475) (by decide +kernel)
theorem km_RX7_156 : Cond.methodLink RX7 156 yX4_pointBehind ∈ lw_tbl := List.mem_of_getElem? (i := 476) (by decide +kernel)
theorem km_RL_62 : Cond.methodLink RL 62 yX7_told ∈ lw_tbl := List.mem_of_getElem? (i := 477) (by decide +kernel)
theorem ki_yX7_told : Cond.instanceMethod yX7_told ∈ lw_tbl := List.mem_of_getElem? (i := 478) (by decide +kernel)
theorem kx_yX7_told : Cond.selects RX7 yX7_told yX7_told ∈ lw_tbl := List.mem_of_getElem? (i := 479) (by decide +kernel)
theorem kc_yX7_told : Cond.code yX7_told cX7_told 3 (Option.some FieldType.int) ∈ lw_tbl := List.mem_of_getElem? (i := 480) (by decide +kernel)
theorem km_RX7_166 : Cond.methodLink RX7 166 yX0_isHanded ∈ lw_tbl := List.mem_of_getElem? (i := 481) (by decide +kernel)
theorem ki_yX0_isHanded : Cond.instanceMethod yX0_isHanded ∈ lw_tbl := List.mem_of_getElem? (i := 482) (by decide +kernel)
theorem kx_yX0_isHanded : Cond.selects RX0 yX0_isHanded yX0_isHanded ∈ lw_tbl := List.mem_of_getElem? (i := 483) (by decide +kernel)
theorem kc_yX0_isHanded : Cond.code yX0_isHanded cX0_isHanded 2 (Option.some FieldType.boolean) ∈ lw_tbl := List.mem_of_getElem? (i := 484) (by decide +kernel)
theorem km_RX0_91 : Cond.methodLink RX0 91 yX1_turnOf ∈ lw_tbl := List.mem_of_getElem? (i := 485) (by decide +kernel)
theorem km_RX7_174 : Cond.methodLink RX7 174 yX0_signsInAll ∈ lw_tbl := List.mem_of_getElem? (i := 486) (by decide +kernel)
theorem ki_yX0_signsInAll : Cond.instanceMethod yX0_signsInAll ∈ lw_tbl := List.mem_of_getElem? (i := 487) (by decide +kernel)
theorem kx_yX0_signsInAll : Cond.selects RX0 yX0_signsInAll yX0_signsInAll ∈ lw_tbl := List.mem_of_getElem? (i := 488) (by decide +kernel)
theorem kc_yX0_signsInAll : Cond.code yX0_signsInAll cX0_signsInAll 1 (Option.some FieldType.int) ∈ lw_tbl := List.mem_of_getElem? (i := 489) (by decide +kernel)
theorem km_RX0_106 : Cond.methodLink RX0 106 yX0_findSigns ∈ lw_tbl := List.mem_of_getElem? (i := 490) (by decide +kernel)
theorem ki_yX0_findSigns : Cond.instanceMethod yX0_findSigns ∈ lw_tbl := List.mem_of_getElem? (i := 492) (by decide +kernel)
theorem kc_yX0_findSigns : Cond.code yX0_findSigns cX0_findSigns 2 (Option.none : Option FieldType) ∈ lw_tbl := List.mem_of_getElem? (i := 493) (by decide +kernel)
theorem km_RX0_114 : Cond.methodLink RX0 114 yX0_findMadeOfSquares ∈ lw_tbl := List.mem_of_getElem? (i := 494) (by decide +kernel)
theorem ki_yX0_findMadeOfSquares : Cond.instanceMethod yX0_findMadeOfSquares ∈ lw_tbl := List.mem_of_getElem? (i := 496) (by decide +kernel)
theorem kc_yX0_findMadeOfSquares : Cond.code yX0_findMadeOfSquares cX0_findMadeOfSquares 4 (Option.none : Option FieldType) ∈ lw_tbl := List.mem_of_getElem? (i := 497) (by decide +kernel)
theorem km_RX0_120 : Cond.methodLink RX0 120 yX0_reach ∈ lw_tbl := List.mem_of_getElem? (i := 498) (by decide +kernel)
theorem ki_yX0_reach : Cond.instanceMethod yX0_reach ∈ lw_tbl := List.mem_of_getElem? (i := 500) (by decide +kernel)
theorem kc_yX0_reach : Cond.code yX0_reach cX0_reach 3 (Option.none : Option FieldType) ∈ lw_tbl := List.mem_of_getElem? (i := 501) (by decide +kernel)
theorem km_RX0_117 : Cond.methodLink RX0 117 yX0_addFree ∈ lw_tbl := List.mem_of_getElem? (i := 502) (by decide +kernel)
theorem ki_yX0_addFree : Cond.instanceMethod yX0_addFree ∈ lw_tbl := List.mem_of_getElem? (i := 504) (by decide +kernel)
theorem kc_yX0_addFree : Cond.code yX0_addFree cX0_addFree 5 (Option.none : Option FieldType) ∈ lw_tbl := List.mem_of_getElem? (i := 505) (by decide +kernel)
theorem km_RX7_177 : Cond.methodLink RX7 177 yX7_nearest ∈ lw_tbl := List.mem_of_getElem? (i := 506) (by decide +kernel)
theorem ki_yX7_nearest : Cond.instanceMethod yX7_nearest ∈ lw_tbl := List.mem_of_getElem? (i := 508) (by decide +kernel)
theorem kc_yX7_nearest : Cond.code yX7_nearest cX7_nearest 6 (Option.some FieldType.int) ∈ lw_tbl := List.mem_of_getElem? (i := 509) (by decide +kernel)
theorem km_RL_66 : Cond.methodLink RL 66 yX7_group ∈ lw_tbl := List.mem_of_getElem? (i := 510) (by decide +kernel)
theorem ki_yX7_group : Cond.instanceMethod yX7_group ∈ lw_tbl := List.mem_of_getElem? (i := 511) (by decide +kernel)
theorem kx_yX7_group : Cond.selects RX7 yX7_group yX7_group ∈ lw_tbl := List.mem_of_getElem? (i := 512) (by decide +kernel)
theorem kc_yX7_group : Cond.code yX7_group cX7_group 3 (Option.some FieldType.int) ∈ lw_tbl := List.mem_of_getElem? (i := 513) (by decide +kernel)
theorem km_RL_70 : Cond.methodLink RL 70 yX7_classOf ∈ lw_tbl := List.mem_of_getElem? (i := 514) (by decide +kernel)
theorem ki_yX7_classOf : Cond.instanceMethod yX7_classOf ∈ lw_tbl := List.mem_of_getElem? (i := 515) (by decide +kernel)
theorem kx_yX7_classOf : Cond.selects RX7 yX7_classOf yX7_classOf ∈ lw_tbl := List.mem_of_getElem? (i := 516) (by decide +kernel)
theorem kc_yX7_classOf : Cond.code yX7_classOf cX7_classOf 4 (Option.some FieldType.int) ∈ lw_tbl := List.mem_of_getElem? (i := 517) (by decide +kernel)
theorem km_RX7_187 : Cond.methodLink RX7 187 yX0_sizeOfClass ∈ lw_tbl := List.mem_of_getElem? (i := 518) (by decide +kernel)
theorem ki_yX0_sizeOfClass : Cond.instanceMethod yX0_sizeOfClass ∈ lw_tbl := List.mem_of_getElem? (i := 519) (by decide +kernel)
theorem kx_yX0_sizeOfClass : Cond.selects RX0 yX0_sizeOfClass yX0_sizeOfClass ∈ lw_tbl := List.mem_of_getElem? (i := 520) (by decide +kernel)
theorem kc_yX0_sizeOfClass : Cond.code yX0_sizeOfClass cX0_sizeOfClass 4 (Option.some FieldType.int) ∈ lw_tbl := List.mem_of_getElem? (i := 521) (by decide +kernel)
theorem km_RL_74 : Cond.methodLink RL 74 yX7_classAt ∈ lw_tbl := List.mem_of_getElem? (i := 522) (by decide +kernel)
theorem ki_yX7_classAt : Cond.instanceMethod yX7_classAt ∈ lw_tbl := List.mem_of_getElem? (i := 523) (by decide +kernel)
theorem kx_yX7_classAt : Cond.selects RX7 yX7_classAt yX7_classAt ∈ lw_tbl := List.mem_of_getElem? (i := 524) (by decide +kernel)
theorem kc_yX7_classAt : Cond.code yX7_classAt cX7_classAt 3 (Option.some FieldType.int) ∈ lw_tbl := List.mem_of_getElem? (i := 525) (by decide +kernel)
theorem km_RL_78 : Cond.methodLink RL 78 yX7_motion ∈ lw_tbl := List.mem_of_getElem? (i := 526) (by decide +kernel)
theorem ki_yX7_motion : Cond.instanceMethod yX7_motion ∈ lw_tbl := List.mem_of_getElem? (i := 527) (by decide +kernel)
theorem kx_yX7_motion : Cond.selects RX7 yX7_motion yX7_motion ∈ lw_tbl := List.mem_of_getElem? (i := 528) (by decide +kernel)
theorem kc_yX7_motion : Cond.code yX7_motion cX7_motion 4 (Option.some FieldType.int) ∈ lw_tbl := List.mem_of_getElem? (i := 529) (by decide +kernel)
theorem km_RX7_193 : Cond.methodLink RX7 193 yX7_isMotion ∈ lw_tbl := List.mem_of_getElem? (i := 530) (by decide +kernel)
theorem ks_yX7_isMotion : Cond.static yX7_isMotion ∈ lw_tbl := List.mem_of_getElem? (i := 531) (by decide +kernel)
theorem kc_yX7_isMotion : Cond.code yX7_isMotion cX7_isMotion 1 (Option.some FieldType.boolean) ∈ lw_tbl := List.mem_of_getElem? (i := 532) (by decide +kernel)
theorem km_RX7_196 : Cond.methodLink RX7 196 yX0_motionOf ∈ lw_tbl := List.mem_of_getElem? (i := 533) (by decide +kernel)
theorem ki_yX0_motionOf : Cond.instanceMethod yX0_motionOf ∈ lw_tbl := List.mem_of_getElem? (i := 534) (by decide +kernel)
theorem kx_yX0_motionOf : Cond.selects RX0 yX0_motionOf yX0_motionOf ∈ lw_tbl := List.mem_of_getElem? (i := 535) (by decide +kernel)
theorem kc_yX0_motionOf : Cond.code yX0_motionOf cX0_motionOf 5 (Option.some FieldType.int) ∈ lw_tbl := List.mem_of_getElem? (i := 536) (by decide +kernel)
theorem km_RX0_97 : Cond.methodLink RX0 97 yX1_traceOf ∈ lw_tbl := List.mem_of_getElem? (i := 537) (by decide +kernel)
theorem km_RL_82 : Cond.methodLink RL 82 yX7_sign ∈ lw_tbl := List.mem_of_getElem? (i := 538) (by decide +kernel)
theorem ki_yX7_sign : Cond.instanceMethod yX7_sign ∈ lw_tbl := List.mem_of_getElem? (i := 539) (by decide +kernel)
theorem kx_yX7_sign : Cond.selects RX7 yX7_sign yX7_sign ∈ lw_tbl := List.mem_of_getElem? (i := 540) (by decide +kernel)
theorem kc_yX7_sign : Cond.code yX7_sign cX7_sign 4 (Option.some FieldType.int) ∈ lw_tbl := List.mem_of_getElem? (i := 541) (by decide +kernel)
theorem km_RX7_199 : Cond.methodLink RX7 199 yX0_signOf ∈ lw_tbl := List.mem_of_getElem? (i := 542) (by decide +kernel)
theorem ki_yX0_signOf : Cond.instanceMethod yX0_signOf ∈ lw_tbl := List.mem_of_getElem? (i := 543) (by decide +kernel)
theorem kx_yX0_signOf : Cond.selects RX0 yX0_signOf yX0_signOf ∈ lw_tbl := List.mem_of_getElem? (i := 544) (by decide +kernel)
theorem kc_yX0_signOf : Cond.code yX0_signOf cX0_signOf 3 (Option.some FieldType.int) ∈ lw_tbl := List.mem_of_getElem? (i := 545) (by decide +kernel)
theorem km_RX0_109 : Cond.methodLink RX0 109 yJ6_bitCount_0f7a4 ∈ lw_tbl := List.mem_of_getElem? (i := 546) (by decide +kernel)
theorem km_RL_86 : Cond.methodLink RL 86 yX7_has ∈ lw_tbl := List.mem_of_getElem? (i := 547) (by decide +kernel)
theorem ki_yX7_has : Cond.instanceMethod yX7_has ∈ lw_tbl := List.mem_of_getElem? (i := 548) (by decide +kernel)
theorem kx_yX7_has : Cond.selects RX7 yX7_has yX7_has ∈ lw_tbl := List.mem_of_getElem? (i := 549) (by decide +kernel)
theorem kc_yX7_has : Cond.code yX7_has cX7_has 4 (Option.some FieldType.int) ∈ lw_tbl := List.mem_of_getElem? (i := 550) (by decide +kernel)
theorem km_RX7_202 : Cond.methodLink RX7 202 yX0_timesOf ∈ lw_tbl := List.mem_of_getElem? (i := 551) (by decide +kernel)
theorem ki_yX0_timesOf : Cond.instanceMethod yX0_timesOf ∈ lw_tbl := List.mem_of_getElem? (i := 552) (by decide +kernel)
theorem kx_yX0_timesOf : Cond.selects RX0 yX0_timesOf yX0_timesOf ∈ lw_tbl := List.mem_of_getElem? (i := 553) (by decide +kernel)
theorem kc_yX0_timesOf : Cond.code yX0_timesOf cX0_timesOf 5 (Option.some FieldType.int) ∈ lw_tbl := List.mem_of_getElem? (i := 554) (by decide +kernel)
theorem km_RX0_100 : Cond.methodLink RX0 100 yX0_motionOf ∈ lw_tbl := List.mem_of_getElem? (i := 555) (by decide +kernel)
theorem km_RX0_103 : Cond.methodLink RX0 103 yX0_signOf ∈ lw_tbl := List.mem_of_getElem? (i := 556) (by decide +kernel)
theorem km_RL_90 : Cond.methodLink RL 90 yX7_active ∈ lw_tbl := List.mem_of_getElem? (i := 557) (by decide +kernel)
theorem ki_yX7_active : Cond.instanceMethod yX7_active ∈ lw_tbl := List.mem_of_getElem? (i := 558) (by decide +kernel)
theorem kx_yX7_active : Cond.selects RX7 yX7_active yX7_active ∈ lw_tbl := List.mem_of_getElem? (i := 559) (by decide +kernel)
theorem kc_yX7_active : Cond.code yX7_active cX7_active 5 (Option.some FieldType.int) ∈ lw_tbl := List.mem_of_getElem? (i := 560) (by decide +kernel)
theorem km_RX7_205 : Cond.methodLink RX7 205 yX7_isActive ∈ lw_tbl := List.mem_of_getElem? (i := 561) (by decide +kernel)
theorem ks_yX7_isActive : Cond.static yX7_isActive ∈ lw_tbl := List.mem_of_getElem? (i := 562) (by decide +kernel)
theorem kc_yX7_isActive : Cond.code yX7_isActive cX7_isActive 5 (Option.some FieldType.boolean) ∈ lw_tbl := List.mem_of_getElem? (i := 563) (by decide +kernel)
theorem km_RL_94 : Cond.methodLink RL 94 yX7_see ∈ lw_tbl := List.mem_of_getElem? (i := 564) (by decide +kernel)
theorem ki_yX7_see : Cond.instanceMethod yX7_see ∈ lw_tbl := List.mem_of_getElem? (i := 565) (by decide +kernel)
theorem kx_yX7_see : Cond.selects RX7 yX7_see yX7_see ∈ lw_tbl := List.mem_of_getElem? (i := 566) (by decide +kernel)
theorem kc_yX7_see : Cond.code yX7_see cX7_see 3 (Option.some FieldType.int) ∈ lw_tbl := List.mem_of_getElem? (i := 567) (by decide +kernel)
theorem km_RX7_213 : Cond.methodLink RX7 213 yX2_empty ∈ lw_tbl := List.mem_of_getElem? (i := 568) (by decide +kernel)
theorem ki_yX2_empty : Cond.instanceMethod yX2_empty ∈ lw_tbl := List.mem_of_getElem? (i := 569) (by decide +kernel)
theorem kx_yX2_empty : Cond.selects RX2 yX2_empty yX2_empty ∈ lw_tbl := List.mem_of_getElem? (i := 570) (by decide +kernel)
theorem kc_yX2_empty : Cond.code yX2_empty cX2_empty 1 (Option.some FieldType.int) ∈ lw_tbl := List.mem_of_getElem? (i := 571) (by decide +kernel)
theorem km_RX7_218 : Cond.methodLink RX7 218 yX2_isFull ∈ lw_tbl := List.mem_of_getElem? (i := 572) (by decide +kernel)
theorem ki_yX2_isFull : Cond.instanceMethod yX2_isFull ∈ lw_tbl := List.mem_of_getElem? (i := 573) (by decide +kernel)
theorem kx_yX2_isFull : Cond.selects RX2 yX2_isFull yX2_isFull ∈ lw_tbl := List.mem_of_getElem? (i := 574) (by decide +kernel)
theorem kc_yX2_isFull : Cond.code yX2_isFull cX2_isFull 1 (Option.some FieldType.boolean) ∈ lw_tbl := List.mem_of_getElem? (i := 575) (by decide +kernel)
theorem km_RX7_221 : Cond.methodLink RX7 221 yX2_add ∈ lw_tbl := List.mem_of_getElem? (i := 576) (by decide +kernel)
theorem ki_yX2_add : Cond.instanceMethod yX2_add ∈ lw_tbl := List.mem_of_getElem? (i := 577) (by decide +kernel)
theorem kx_yX2_add : Cond.selects RX2 yX2_add yX2_add ∈ lw_tbl := List.mem_of_getElem? (i := 578) (by decide +kernel)
theorem kc_yX2_add : Cond.code yX2_add cX2_add 3 (Option.some FieldType.int) ∈ lw_tbl := List.mem_of_getElem? (i := 579) (by decide +kernel)
theorem km_RL_99 : Cond.methodLink RL 99 yX7_fits ∈ lw_tbl := List.mem_of_getElem? (i := 580) (by decide +kernel)
theorem ki_yX7_fits : Cond.instanceMethod yX7_fits ∈ lw_tbl := List.mem_of_getElem? (i := 581) (by decide +kernel)
theorem kx_yX7_fits : Cond.selects RX7 yX7_fits yX7_fits ∈ lw_tbl := List.mem_of_getElem? (i := 582) (by decide +kernel)
theorem kc_yX7_fits : Cond.code yX7_fits cX7_fits 6 (Option.some FieldType.int) ∈ lw_tbl := List.mem_of_getElem? (i := 583) (by decide +kernel)
theorem km_RX7_223 : Cond.methodLink RX7 223 yX4_become ∈ lw_tbl := List.mem_of_getElem? (i := 584) (by decide +kernel)
theorem ki_yX4_become : Cond.instanceMethod yX4_become ∈ lw_tbl := List.mem_of_getElem? (i := 585) (by decide +kernel)
theorem kx_yX4_become : Cond.selects RX4 yX4_become yX4_become ∈ lw_tbl := List.mem_of_getElem? (i := 586) (by decide +kernel)
theorem kc_yX4_become : Cond.code yX4_become cX4_become 2 (Option.none : Option FieldType) ∈ lw_tbl := List.mem_of_getElem? (i := 587) (by decide +kernel)
theorem km_RX7_227 : Cond.methodLink RX7 227 yX7_isAllAsSeen ∈ lw_tbl := List.mem_of_getElem? (i := 588) (by decide +kernel)
theorem ki_yX7_isAllAsSeen : Cond.instanceMethod yX7_isAllAsSeen ∈ lw_tbl := List.mem_of_getElem? (i := 590) (by decide +kernel)
theorem kc_yX7_isAllAsSeen : Cond.code yX7_isAllAsSeen cX7_isAllAsSeen 4 (Option.some FieldType.boolean) ∈ lw_tbl := List.mem_of_getElem? (i := 591) (by decide +kernel)
theorem km_RL_103 : Cond.methodLink RL 103 yX7_odds ∈ lw_tbl := List.mem_of_getElem? (i := 592) (by decide +kernel)
theorem ki_yX7_odds : Cond.instanceMethod yX7_odds ∈ lw_tbl := List.mem_of_getElem? (i := 593) (by decide +kernel)
theorem kx_yX7_odds : Cond.selects RX7 yX7_odds yX7_odds ∈ lw_tbl := List.mem_of_getElem? (i := 594) (by decide +kernel)
theorem kc_yX7_odds : Cond.code yX7_odds cX7_odds 6 (Option.some FieldType.long) ∈ lw_tbl := List.mem_of_getElem? (i := 595) (by decide +kernel)
theorem km_RX7_238 : Cond.methodLink RX7 238 yX7_isPart ∈ lw_tbl := List.mem_of_getElem? (i := 596) (by decide +kernel)
theorem ks_yX7_isPart : Cond.static yX7_isPart ∈ lw_tbl := List.mem_of_getElem? (i := 597) (by decide +kernel)
theorem kc_yX7_isPart : Cond.code yX7_isPart cX7_isPart 1 (Option.some FieldType.boolean) ∈ lw_tbl := List.mem_of_getElem? (i := 598) (by decide +kernel)
theorem km_RX7_243 : Cond.methodLink RX7 243 yX4_keepers ∈ lw_tbl := List.mem_of_getElem? (i := 600) (by decide +kernel)
theorem ki_yX4_keepers : Cond.instanceMethod yX4_keepers ∈ lw_tbl := List.mem_of_getElem? (i := 601) (by decide +kernel)
theorem kx_yX4_keepers : Cond.selects RX4 yX4_keepers yX4_keepers ∈ lw_tbl := List.mem_of_getElem? (i := 602) (by decide +kernel)
theorem kc_yX4_keepers : Cond.code yX4_keepers cX4_keepers 3 (Option.some FieldType.int) ∈ lw_tbl := List.mem_of_getElem? (i := 603) (by decide +kernel)
theorem km_RX4_55 : Cond.methodLink RX4 55 yX4_isKeptBy ∈ lw_tbl := List.mem_of_getElem? (i := 604) (by decide +kernel)
theorem km_RX7_246 : Cond.methodLink RX7 246 yX7_partOfFraction ∈ lw_tbl := List.mem_of_getElem? (i := 605) (by decide +kernel)
theorem ks_yX7_partOfFraction : Cond.static yX7_partOfFraction ∈ lw_tbl := List.mem_of_getElem? (i := 606) (by decide +kernel)
theorem kc_yX7_partOfFraction : Cond.code yX7_partOfFraction cX7_partOfFraction 5 (Option.some FieldType.int) ∈ lw_tbl := List.mem_of_getElem? (i := 607) (by decide +kernel)
theorem km_RL_108 : Cond.methodLink RL 108 yX7_mean ∈ lw_tbl := List.mem_of_getElem? (i := 608) (by decide +kernel)
theorem ki_yX7_mean : Cond.instanceMethod yX7_mean ∈ lw_tbl := List.mem_of_getElem? (i := 609) (by decide +kernel)
theorem kx_yX7_mean : Cond.selects RX7 yX7_mean yX7_mean ∈ lw_tbl := List.mem_of_getElem? (i := 610) (by decide +kernel)
theorem kc_yX7_mean : Cond.code yX7_mean cX7_mean 3 (Option.some FieldType.long) ∈ lw_tbl := List.mem_of_getElem? (i := 611) (by decide +kernel)
theorem km_RX7_249 : Cond.methodLink RX7 249 yX0_ordersTogether ∈ lw_tbl := List.mem_of_getElem? (i := 612) (by decide +kernel)
theorem ki_yX0_ordersTogether : Cond.instanceMethod yX0_ordersTogether ∈ lw_tbl := List.mem_of_getElem? (i := 613) (by decide +kernel)
theorem kx_yX0_ordersTogether : Cond.selects RX0 yX0_ordersTogether yX0_ordersTogether ∈ lw_tbl := List.mem_of_getElem? (i := 614) (by decide +kernel)
theorem kc_yX0_ordersTogether : Cond.code yX0_ordersTogether cX0_ordersTogether 3 (Option.some FieldType.int) ∈ lw_tbl := List.mem_of_getElem? (i := 615) (by decide +kernel)
theorem km_RX0_94 : Cond.methodLink RX0 94 yX1_orderOf ∈ lw_tbl := List.mem_of_getElem? (i := 616) (by decide +kernel)
theorem km_RL_113 : Cond.methodLink RL 113 yX7_event ∈ lw_tbl := List.mem_of_getElem? (i := 617) (by decide +kernel)
theorem ki_yX7_event : Cond.instanceMethod yX7_event ∈ lw_tbl := List.mem_of_getElem? (i := 618) (by decide +kernel)
theorem kx_yX7_event : Cond.selects RX7 yX7_event yX7_event ∈ lw_tbl := List.mem_of_getElem? (i := 619) (by decide +kernel)
theorem kc_yX7_event : Cond.code yX7_event cX7_event 3 (Option.some FieldType.int) ∈ lw_tbl := List.mem_of_getElem? (i := 620) (by decide +kernel)
theorem km_RX7_255 : Cond.methodLink RX7 255 yX7_isForEvent ∈ lw_tbl := List.mem_of_getElem? (i := 621) (by decide +kernel)
theorem ks_yX7_isForEvent : Cond.static yX7_isForEvent ∈ lw_tbl := List.mem_of_getElem? (i := 622) (by decide +kernel)
theorem kc_yX7_isForEvent : Cond.code yX7_isForEvent cX7_isForEvent 2 (Option.some FieldType.boolean) ∈ lw_tbl := List.mem_of_getElem? (i := 623) (by decide +kernel)
theorem km_RL_117 : Cond.methodLink RL 117 yX7_after ∈ lw_tbl := List.mem_of_getElem? (i := 624) (by decide +kernel)
theorem ki_yX7_after : Cond.instanceMethod yX7_after ∈ lw_tbl := List.mem_of_getElem? (i := 625) (by decide +kernel)
theorem kx_yX7_after : Cond.selects RX7 yX7_after yX7_after ∈ lw_tbl := List.mem_of_getElem? (i := 626) (by decide +kernel)
theorem kc_yX7_after : Cond.code yX7_after cX7_after 3 (Option.some FieldType.int) ∈ lw_tbl := List.mem_of_getElem? (i := 627) (by decide +kernel)
theorem km_RX7_259 : Cond.methodLink RX7 259 yX4_happen ∈ lw_tbl := List.mem_of_getElem? (i := 628) (by decide +kernel)
theorem ki_yX4_happen : Cond.instanceMethod yX4_happen ∈ lw_tbl := List.mem_of_getElem? (i := 629) (by decide +kernel)
theorem kx_yX4_happen : Cond.selects RX4 yX4_happen yX4_happen ∈ lw_tbl := List.mem_of_getElem? (i := 630) (by decide +kernel)
theorem kc_yX4_happen : Cond.code yX4_happen cX4_happen 3 (Option.none : Option FieldType) ∈ lw_tbl := List.mem_of_getElem? (i := 631) (by decide +kernel)
theorem km_RX4_59 : Cond.methodLink RX4 59 yX4_remove ∈ lw_tbl := List.mem_of_getElem? (i := 632) (by decide +kernel)
theorem km_RX4_63 : Cond.methodLink RX4 63 yX4_replaceMark ∈ lw_tbl := List.mem_of_getElem? (i := 633) (by decide +kernel)
theorem ki_yX4_replaceMark : Cond.instanceMethod yX4_replaceMark ∈ lw_tbl := List.mem_of_getElem? (i := 635) (by decide +kernel)
theorem kc_yX4_replaceMark : Cond.code yX4_replaceMark cX4_replaceMark 3 (Option.none : Option FieldType) ∈ lw_tbl := List.mem_of_getElem? (i := 636) (by decide +kernel)
theorem km_RX4_66 : Cond.methodLink RX4 66 yX4_takeBy ∈ lw_tbl := List.mem_of_getElem? (i := 637) (by decide +kernel)
theorem ki_yX4_takeBy : Cond.instanceMethod yX4_takeBy ∈ lw_tbl := List.mem_of_getElem? (i := 639) (by decide +kernel)
theorem kc_yX4_takeBy : Cond.code yX4_takeBy cX4_takeBy 3 (Option.none : Option FieldType) ∈ lw_tbl := List.mem_of_getElem? (i := 640) (by decide +kernel)
theorem km_RX4_69 : Cond.methodLink RX4 69 yX4_markAll ∈ lw_tbl := List.mem_of_getElem? (i := 641) (by decide +kernel)
theorem ki_yX4_markAll : Cond.instanceMethod yX4_markAll ∈ lw_tbl := List.mem_of_getElem? (i := 643) (by decide +kernel)
theorem kc_yX4_markAll : Cond.code yX4_markAll cX4_markAll 3 (Option.none : Option FieldType) ∈ lw_tbl := List.mem_of_getElem? (i := 644) (by decide +kernel)
theorem km_RL_121 : Cond.methodLink RL 121 yX7_book ∈ lw_tbl := List.mem_of_getElem? (i := 645) (by decide +kernel)
theorem ki_yX7_book : Cond.instanceMethod yX7_book ∈ lw_tbl := List.mem_of_getElem? (i := 646) (by decide +kernel)
theorem kx_yX7_book : Cond.selects RX7 yX7_book yX7_book ∈ lw_tbl := List.mem_of_getElem? (i := 647) (by decide +kernel)
theorem kc_yX7_book : Cond.code yX7_book cX7_book 3 (Option.some FieldType.int) ∈ lw_tbl := List.mem_of_getElem? (i := 648) (by decide +kernel)
theorem km_RL_125 : Cond.methodLink RL 125 yX7_looked ∈ lw_tbl := List.mem_of_getElem? (i := 649) (by decide +kernel)
theorem ki_yX7_looked : Cond.instanceMethod yX7_looked ∈ lw_tbl := List.mem_of_getElem? (i := 650) (by decide +kernel)
theorem kx_yX7_looked : Cond.selects RX7 yX7_looked yX7_looked ∈ lw_tbl := List.mem_of_getElem? (i := 651) (by decide +kernel)
theorem kc_yX7_looked : Cond.code yX7_looked cX7_looked 4 (Option.some FieldType.int) ∈ lw_tbl := List.mem_of_getElem? (i := 652) (by decide +kernel)
theorem km_RL_129 : Cond.methodLink RL 129 yX7_judge ∈ lw_tbl := List.mem_of_getElem? (i := 653) (by decide +kernel)
theorem ki_yX7_judge : Cond.instanceMethod yX7_judge ∈ lw_tbl := List.mem_of_getElem? (i := 654) (by decide +kernel)
theorem kx_yX7_judge : Cond.selects RX7 yX7_judge yX7_judge ∈ lw_tbl := List.mem_of_getElem? (i := 655) (by decide +kernel)
theorem kc_yX7_judge : Cond.code yX7_judge cX7_judge 6 (Option.some FieldType.int) ∈ lw_tbl := List.mem_of_getElem? (i := 656) (by decide +kernel)
theorem km_RX7_269 : Cond.methodLink RX7 269 yX7_isTape ∈ lw_tbl := List.mem_of_getElem? (i := 657) (by decide +kernel)
theorem ks_yX7_isTape : Cond.static yX7_isTape ∈ lw_tbl := List.mem_of_getElem? (i := 658) (by decide +kernel)
theorem kc_yX7_isTape : Cond.code yX7_isTape cX7_isTape 1 (Option.some FieldType.boolean) ∈ lw_tbl := List.mem_of_getElem? (i := 659) (by decide +kernel)
theorem km_RX7_275 : Cond.methodLink RX7 275 yX5_hasPlace ∈ lw_tbl := List.mem_of_getElem? (i := 660) (by decide +kernel)
theorem ki_yX5_hasPlace : Cond.instanceMethod yX5_hasPlace ∈ lw_tbl := List.mem_of_getElem? (i := 661) (by decide +kernel)
theorem kx_yX5_hasPlace : Cond.selects RX5 yX5_hasPlace yX5_hasPlace ∈ lw_tbl := List.mem_of_getElem? (i := 662) (by decide +kernel)
theorem kc_yX5_hasPlace : Cond.code yX5_hasPlace cX5_hasPlace 2 (Option.some FieldType.boolean) ∈ lw_tbl := List.mem_of_getElem? (i := 663) (by decide +kernel)
theorem km_RL_133 : Cond.methodLink RL 133 yX7_image ∈ lw_tbl := List.mem_of_getElem? (i := 664) (by decide +kernel)
theorem ki_yX7_image : Cond.instanceMethod yX7_image ∈ lw_tbl := List.mem_of_getElem? (i := 665) (by decide +kernel)
theorem kx_yX7_image : Cond.selects RX7 yX7_image yX7_image ∈ lw_tbl := List.mem_of_getElem? (i := 666) (by decide +kernel)
theorem kc_yX7_image : Cond.code yX7_image cX7_image 1 (Option.some FieldType.int) ∈ lw_tbl := List.mem_of_getElem? (i := 667) (by decide +kernel)
theorem km_RX7_282 : Cond.methodLink RX7 282 yX3_become ∈ lw_tbl := List.mem_of_getElem? (i := 668) (by decide +kernel)
theorem ki_yX3_become : Cond.instanceMethod yX3_become ∈ lw_tbl := List.mem_of_getElem? (i := 669) (by decide +kernel)
theorem kx_yX3_become : Cond.selects RX3 yX3_become yX3_become ∈ lw_tbl := List.mem_of_getElem? (i := 670) (by decide +kernel)
theorem kc_yX3_become : Cond.code yX3_become cX3_become 2 (Option.none : Option FieldType) ∈ lw_tbl := List.mem_of_getElem? (i := 671) (by decide +kernel)
theorem km_RX3_31 : Cond.methodLink RX3 31 yX4_become ∈ lw_tbl := List.mem_of_getElem? (i := 672) (by decide +kernel)
theorem km_RX3_35 : Cond.methodLink RX3 35 yX2_become ∈ lw_tbl := List.mem_of_getElem? (i := 673) (by decide +kernel)
theorem ki_yX2_become : Cond.instanceMethod yX2_become ∈ lw_tbl := List.mem_of_getElem? (i := 674) (by decide +kernel)
theorem kx_yX2_become : Cond.selects RX2 yX2_become yX2_become ∈ lw_tbl := List.mem_of_getElem? (i := 675) (by decide +kernel)
theorem kc_yX2_become : Cond.code yX2_become cX2_become 2 (Option.none : Option FieldType) ∈ lw_tbl := List.mem_of_getElem? (i := 676) (by decide +kernel)
theorem km_RX2_20 : Cond.methodLink RX2 20 ⟨"java/lang/System", "arraycopy", "(Ljava/lang/Object;ILjava/lang/Object;II)V"⟩ ∈ lw_tbl := List.mem_of_getElem? (i := 677) (by decide +kernel)
theorem km_RL_137 : Cond.methodLink RL 137 yX7_undo ∈ lw_tbl := List.mem_of_getElem? (i := 678) (by decide +kernel)
theorem ki_yX7_undo : Cond.instanceMethod yX7_undo ∈ lw_tbl := List.mem_of_getElem? (i := 679) (by decide +kernel)
theorem kx_yX7_undo : Cond.selects RX7 yX7_undo yX7_undo ∈ lw_tbl := List.mem_of_getElem? (i := 680) (by decide +kernel)
theorem kc_yX7_undo : Cond.code yX7_undo cX7_undo 1 (Option.some FieldType.int) ∈ lw_tbl := List.mem_of_getElem? (i := 681) (by decide +kernel)
theorem km_RL_141 : Cond.methodLink RL 141 yX7_count ∈ lw_tbl := List.mem_of_getElem? (i := 682) (by decide +kernel)
theorem ki_yX7_count : Cond.instanceMethod yX7_count ∈ lw_tbl := List.mem_of_getElem? (i := 683) (by decide +kernel)
theorem kx_yX7_count : Cond.selects RX7 yX7_count yX7_count ∈ lw_tbl := List.mem_of_getElem? (i := 684) (by decide +kernel)
theorem kc_yX7_count : Cond.code yX7_count cX7_count 2 (Option.some FieldType.int) ∈ lw_tbl := List.mem_of_getElem? (i := 685) (by decide +kernel)
theorem km_RL_145 : Cond.methodLink RL 145 yX7_tape ∈ lw_tbl := List.mem_of_getElem? (i := 686) (by decide +kernel)
theorem ki_yX7_tape : Cond.instanceMethod yX7_tape ∈ lw_tbl := List.mem_of_getElem? (i := 687) (by decide +kernel)
theorem kx_yX7_tape : Cond.selects RX7 yX7_tape yX7_tape ∈ lw_tbl := List.mem_of_getElem? (i := 688) (by decide +kernel)
theorem kc_yX7_tape : Cond.code yX7_tape cX7_tape 4 (Option.some FieldType.int) ∈ lw_tbl := List.mem_of_getElem? (i := 689) (by decide +kernel)
theorem km_RX7_285 : Cond.methodLink RX7 285 yX5_become ∈ lw_tbl := List.mem_of_getElem? (i := 690) (by decide +kernel)
theorem ki_yX5_become : Cond.instanceMethod yX5_become ∈ lw_tbl := List.mem_of_getElem? (i := 691) (by decide +kernel)
theorem kx_yX5_become : Cond.selects RX5 yX5_become yX5_become ∈ lw_tbl := List.mem_of_getElem? (i := 692) (by decide +kernel)
theorem kc_yX5_become : Cond.code yX5_become cX5_become 4 (Option.none : Option FieldType) ∈ lw_tbl := List.mem_of_getElem? (i := 693) (by decide +kernel)
theorem km_RL_151 : Cond.methodLink RL 151 yX7_item ∈ lw_tbl := List.mem_of_getElem? (i := 694) (by decide +kernel)
theorem ki_yX7_item : Cond.instanceMethod yX7_item ∈ lw_tbl := List.mem_of_getElem? (i := 695) (by decide +kernel)
theorem kx_yX7_item : Cond.selects RX7 yX7_item yX7_item ∈ lw_tbl := List.mem_of_getElem? (i := 696) (by decide +kernel)
theorem kc_yX7_item : Cond.code yX7_item cX7_item 6 (Option.some FieldType.int) ∈ lw_tbl := List.mem_of_getElem? (i := 697) (by decide +kernel)
theorem km_RX7_287 : Cond.methodLink RX7 287 yX5_asItem ∈ lw_tbl := List.mem_of_getElem? (i := 698) (by decide +kernel)
theorem ki_yX5_asItem : Cond.instanceMethod yX5_asItem ∈ lw_tbl := List.mem_of_getElem? (i := 699) (by decide +kernel)
theorem kx_yX5_asItem : Cond.selects RX5 yX5_asItem yX5_asItem ∈ lw_tbl := List.mem_of_getElem? (i := 700) (by decide +kernel)
theorem kc_yX5_asItem : Cond.code yX5_asItem cX5_asItem 3 (Option.some FieldType.long) ∈ lw_tbl := List.mem_of_getElem? (i := 701) (by decide +kernel)
theorem km_RL_156 : Cond.methodLink RL 156 yX7_peek ∈ lw_tbl := List.mem_of_getElem? (i := 702) (by decide +kernel)
theorem ki_yX7_peek : Cond.instanceMethod yX7_peek ∈ lw_tbl := List.mem_of_getElem? (i := 703) (by decide +kernel)
theorem kx_yX7_peek : Cond.selects RX7 yX7_peek yX7_peek ∈ lw_tbl := List.mem_of_getElem? (i := 704) (by decide +kernel)
theorem kc_yX7_peek : Cond.code yX7_peek cX7_peek 3 (Option.some FieldType.long) ∈ lw_tbl := List.mem_of_getElem? (i := 705) (by decide +kernel)
theorem km_RL_161 : Cond.methodLink RL 161 yX7_shift ∈ lw_tbl := List.mem_of_getElem? (i := 706) (by decide +kernel)
theorem ki_yX7_shift : Cond.instanceMethod yX7_shift ∈ lw_tbl := List.mem_of_getElem? (i := 707) (by decide +kernel)
theorem kx_yX7_shift : Cond.selects RX7 yX7_shift yX7_shift ∈ lw_tbl := List.mem_of_getElem? (i := 708) (by decide +kernel)
theorem kc_yX7_shift : Cond.code yX7_shift cX7_shift 8 (Option.some FieldType.int) ∈ lw_tbl := List.mem_of_getElem? (i := 709) (by decide +kernel)
theorem km_RX7_291 : Cond.methodLink RX7 291 yX5_hasRun ∈ lw_tbl := List.mem_of_getElem? (i := 710) (by decide +kernel)
theorem ki_yX5_hasRun : Cond.instanceMethod yX5_hasRun ∈ lw_tbl := List.mem_of_getElem? (i := 711) (by decide +kernel)
theorem kx_yX5_hasRun : Cond.selects RX5 yX5_hasRun yX5_hasRun ∈ lw_tbl := List.mem_of_getElem? (i := 712) (by decide +kernel)
theorem kc_yX5_hasRun : Cond.code yX5_hasRun cX5_hasRun 3 (Option.some FieldType.boolean) ∈ lw_tbl := List.mem_of_getElem? (i := 713) (by decide +kernel)
theorem km_RX7_294 : Cond.methodLink RX7 294 ⟨"java/lang/System", "arraycopy", "(Ljava/lang/Object;ILjava/lang/Object;II)V"⟩ ∈ lw_tbl := List.mem_of_getElem? (i := 714) (by decide +kernel)
theorem km_RL_12 : Cond.methodLink RL 12 yX8_init ∈ lw_tbl := List.mem_of_getElem? (i := 717) (by decide +kernel)
theorem ki_yX8_init : Cond.instanceMethod yX8_init ∈ lw_tbl := List.mem_of_getElem? (i := 718) (by decide +kernel)
theorem kc_yX8_init : Cond.code yX8_init cX8_init 1 (Option.none : Option FieldType) ∈ lw_tbl := List.mem_of_getElem? (i := 719) (by decide +kernel)
theorem km_RX8_3 : Cond.methodLink RX8 3 ⟨"java/lang/Object", "<init>", "()V"⟩ ∈ lw_tbl := List.mem_of_getElem? (i := 720) (by decide +kernel)
theorem kf_RX8_11 : Cond.fieldLink RX8 11 "ShapeMovesModel" "w" "[I" ∈ lw_tbl := List.mem_of_getElem? (i := 721) (by decide +kernel)
theorem kf_RX8_15 : Cond.fieldLink RX8 15 "ShapeMovesModel" "aside" "[I" ∈ lw_tbl := List.mem_of_getElem? (i := 722) (by decide +kernel)
theorem kf_RX8_18 : Cond.fieldLink RX8 18 "ShapeMovesModel" "kept" "[I" ∈ lw_tbl := List.mem_of_getElem? (i := 723) (by decide +kernel)
theorem kf_RX8_275 : Cond.fieldLink RX8 275 "ShapeMovesModel" "hasImage" "Z" ∈ lw_tbl := List.mem_of_getElem? (i := 724) (by decide +kernel)
theorem kf_RX8_21 : Cond.fieldLink RX8 21 "ShapeMovesModel" "group" "[I" ∈ lw_tbl := List.mem_of_getElem? (i := 725) (by decide +kernel)
theorem kf_RX8_24 : Cond.fieldLink RX8 24 "ShapeMovesModel" "isIn" "[Z" ∈ lw_tbl := List.mem_of_getElem? (i := 726) (by decide +kernel)
theorem kf_RX8_97 : Cond.fieldLink RX8 97 "ShapeMovesModel" "size" "I" ∈ lw_tbl := List.mem_of_getElem? (i := 727) (by decide +kernel)
theorem kf_RX8_28 : Cond.fieldLink RX8 28 "ShapeMovesModel" "makers" "[I" ∈ lw_tbl := List.mem_of_getElem? (i := 728) (by decide +kernel)
theorem kf_RX8_124 : Cond.fieldLink RX8 124 "ShapeMovesModel" "makerMany" "I" ∈ lw_tbl := List.mem_of_getElem? (i := 729) (by decide +kernel)
theorem kf_RX8_31 : Cond.fieldLink RX8 31 "ShapeMovesModel" "made" "[Z" ∈ lw_tbl := List.mem_of_getElem? (i := 730) (by decide +kernel)
theorem kf_RX8_34 : Cond.fieldLink RX8 34 "ShapeMovesModel" "sign" "[I" ∈ lw_tbl := List.mem_of_getElem? (i := 731) (by decide +kernel)
theorem kf_RX8_37 : Cond.fieldLink RX8 37 "ShapeMovesModel" "signs" "[I" ∈ lw_tbl := List.mem_of_getElem? (i := 732) (by decide +kernel)
theorem kf_RX8_144 : Cond.fieldLink RX8 144 "ShapeMovesModel" "signMany" "I" ∈ lw_tbl := List.mem_of_getElem? (i := 733) (by decide +kernel)
theorem kf_RX8_40 : Cond.fieldLink RX8 40 "ShapeMovesModel" "text" "[I" ∈ lw_tbl := List.mem_of_getElem? (i := 734) (by decide +kernel)
theorem kf_RX8_171 : Cond.fieldLink RX8 171 "ShapeMovesModel" "length" "I" ∈ lw_tbl := List.mem_of_getElem? (i := 735) (by decide +kernel)
theorem kf_RX8_174 : Cond.fieldLink RX8 174 "ShapeMovesModel" "place" "I" ∈ lw_tbl := List.mem_of_getElem? (i := 736) (by decide +kernel)
theorem kf_RX8_177 : Cond.fieldLink RX8 177 "ShapeMovesModel" "isWrong" "Z" ∈ lw_tbl := List.mem_of_getElem? (i := 737) (by decide +kernel)
theorem kf_RX8_43 : Cond.fieldLink RX8 43 "ShapeMovesModel" "told" "[I" ∈ lw_tbl := List.mem_of_getElem? (i := 738) (by decide +kernel)
theorem kf_RX8_192 : Cond.fieldLink RX8 192 "ShapeMovesModel" "toldMany" "I" ∈ lw_tbl := List.mem_of_getElem? (i := 739) (by decide +kernel)
theorem kf_RX8_46 : Cond.fieldLink RX8 46 "ShapeMovesModel" "sorts" "[I" ∈ lw_tbl := List.mem_of_getElem? (i := 740) (by decide +kernel)
theorem kf_RX8_49 : Cond.fieldLink RX8 49 "ShapeMovesModel" "sizes" "[I" ∈ lw_tbl := List.mem_of_getElem? (i := 741) (by decide +kernel)
theorem kf_RX8_52 : Cond.fieldLink RX8 52 "ShapeMovesModel" "items" "[J" ∈ lw_tbl := List.mem_of_getElem? (i := 742) (by decide +kernel)
theorem km_RL_17 : Cond.methodLink RL 17 yX8_point ∈ lw_tbl := List.mem_of_getElem? (i := 788) (by decide +kernel)
theorem ki_yX8_point : Cond.instanceMethod yX8_point ∈ lw_tbl := List.mem_of_getElem? (i := 789) (by decide +kernel)
theorem kx_yX8_point : Cond.selects RX8 yX8_point yX8_point ∈ lw_tbl := List.mem_of_getElem? (i := 790) (by decide +kernel)
theorem kc_yX8_point : Cond.code yX8_point cX8_point 5 (Option.some FieldType.int) ∈ lw_tbl := List.mem_of_getElem? (i := 791) (by decide +kernel)
theorem km_RX8_162 : Cond.methodLink RX8 162 yX8_comes ∈ lw_tbl := List.mem_of_getElem? (i := 792) (by decide +kernel)
theorem ki_yX8_comes : Cond.instanceMethod yX8_comes ∈ lw_tbl := List.mem_of_getElem? (i := 794) (by decide +kernel)
theorem kc_yX8_comes : Cond.code yX8_comes cX8_comes 6 (Option.some FieldType.int) ∈ lw_tbl := List.mem_of_getElem? (i := 795) (by decide +kernel)
theorem km_RX8_56 : Cond.methodLink RX8 56 yX8_in ∈ lw_tbl := List.mem_of_getElem? (i := 798) (by decide +kernel)
theorem ks_yX8_in : Cond.static yX8_in ∈ lw_tbl := List.mem_of_getElem? (i := 799) (by decide +kernel)
theorem kc_yX8_in : Cond.code yX8_in cX8_in 6 (Option.some FieldType.boolean) ∈ lw_tbl := List.mem_of_getElem? (i := 800) (by decide +kernel)
theorem km_RX8_87 : Cond.methodLink RX8 87 yX8_pointAt ∈ lw_tbl := List.mem_of_getElem? (i := 802) (by decide +kernel)
theorem ki_yX8_pointAt : Cond.instanceMethod yX8_pointAt ∈ lw_tbl := List.mem_of_getElem? (i := 804) (by decide +kernel)
theorem kc_yX8_pointAt : Cond.code yX8_pointAt cX8_pointAt 6 (Option.some FieldType.int) ∈ lw_tbl := List.mem_of_getElem? (i := 805) (by decide +kernel)
theorem km_RL_22 : Cond.methodLink RL 22 yX8_mark ∈ lw_tbl := List.mem_of_getElem? (i := 806) (by decide +kernel)
theorem ki_yX8_mark : Cond.instanceMethod yX8_mark ∈ lw_tbl := List.mem_of_getElem? (i := 807) (by decide +kernel)
theorem kx_yX8_mark : Cond.selects RX8 yX8_mark yX8_mark ∈ lw_tbl := List.mem_of_getElem? (i := 808) (by decide +kernel)
theorem kc_yX8_mark : Cond.code yX8_mark cX8_mark 4 (Option.some FieldType.int) ∈ lw_tbl := List.mem_of_getElem? (i := 809) (by decide +kernel)
theorem km_RX8_166 : Cond.methodLink RX8 166 yX8_isPoint ∈ lw_tbl := List.mem_of_getElem? (i := 810) (by decide +kernel)
theorem ki_yX8_isPoint : Cond.instanceMethod yX8_isPoint ∈ lw_tbl := List.mem_of_getElem? (i := 812) (by decide +kernel)
theorem kc_yX8_isPoint : Cond.code yX8_isPoint cX8_isPoint 2 (Option.some FieldType.boolean) ∈ lw_tbl := List.mem_of_getElem? (i := 813) (by decide +kernel)
theorem km_RX8_93 : Cond.methodLink RX8 93 yX8_markOf ∈ lw_tbl := List.mem_of_getElem? (i := 814) (by decide +kernel)
theorem ki_yX8_markOf : Cond.instanceMethod yX8_markOf ∈ lw_tbl := List.mem_of_getElem? (i := 816) (by decide +kernel)
theorem kc_yX8_markOf : Cond.code yX8_markOf cX8_markOf 2 (Option.some FieldType.int) ∈ lw_tbl := List.mem_of_getElem? (i := 817) (by decide +kernel)
theorem km_RL_27 : Cond.methodLink RL 27 yX8_drop ∈ lw_tbl := List.mem_of_getElem? (i := 818) (by decide +kernel)
theorem ki_yX8_drop : Cond.instanceMethod yX8_drop ∈ lw_tbl := List.mem_of_getElem? (i := 819) (by decide +kernel)
theorem kx_yX8_drop : Cond.selects RX8 yX8_drop yX8_drop ∈ lw_tbl := List.mem_of_getElem? (i := 820) (by decide +kernel)
theorem kc_yX8_drop : Cond.code yX8_drop cX8_drop 3 (Option.some FieldType.int) ∈ lw_tbl := List.mem_of_getElem? (i := 821) (by decide +kernel)
theorem km_RL_31 : Cond.methodLink RL 31 yX8_of ∈ lw_tbl := List.mem_of_getElem? (i := 822) (by decide +kernel)
theorem ki_yX8_of : Cond.instanceMethod yX8_of ∈ lw_tbl := List.mem_of_getElem? (i := 823) (by decide +kernel)
theorem kx_yX8_of : Cond.selects RX8 yX8_of yX8_of ∈ lw_tbl := List.mem_of_getElem? (i := 824) (by decide +kernel)
theorem kc_yX8_of : Cond.code yX8_of cX8_of 3 (Option.some FieldType.int) ∈ lw_tbl := List.mem_of_getElem? (i := 825) (by decide +kernel)
theorem km_RX8_138 : Cond.methodLink RX8 138 yX8_finds ∈ lw_tbl := List.mem_of_getElem? (i := 826) (by decide +kernel)
theorem ki_yX8_finds : Cond.instanceMethod yX8_finds ∈ lw_tbl := List.mem_of_getElem? (i := 828) (by decide +kernel)
theorem kc_yX8_finds : Cond.code yX8_finds cX8_finds 2 (Option.none : Option FieldType) ∈ lw_tbl := List.mem_of_getElem? (i := 829) (by decide +kernel)
theorem km_RX8_101 : Cond.methodLink RX8 101 yX8_movedMany ∈ lw_tbl := List.mem_of_getElem? (i := 830) (by decide +kernel)
theorem ki_yX8_movedMany : Cond.instanceMethod yX8_movedMany ∈ lw_tbl := List.mem_of_getElem? (i := 832) (by decide +kernel)
theorem kc_yX8_movedMany : Cond.code yX8_movedMany cX8_movedMany 5 (Option.some FieldType.int) ∈ lw_tbl := List.mem_of_getElem? (i := 833) (by decide +kernel)
theorem km_RX8_90 : Cond.methodLink RX8 90 yX8_goesTo ∈ lw_tbl := List.mem_of_getElem? (i := 834) (by decide +kernel)
theorem ki_yX8_goesTo : Cond.instanceMethod yX8_goesTo ∈ lw_tbl := List.mem_of_getElem? (i := 836) (by decide +kernel)
theorem kc_yX8_goesTo : Cond.code yX8_goesTo cX8_goesTo 3 (Option.some FieldType.int) ∈ lw_tbl := List.mem_of_getElem? (i := 837) (by decide +kernel)
theorem km_RX8_84 : Cond.methodLink RX8 84 yX8_moved ∈ lw_tbl := List.mem_of_getElem? (i := 838) (by decide +kernel)
theorem ki_yX8_moved : Cond.instanceMethod yX8_moved ∈ lw_tbl := List.mem_of_getElem? (i := 840) (by decide +kernel)
theorem kc_yX8_moved : Cond.code yX8_moved cX8_moved 5 (Option.some FieldType.int) ∈ lw_tbl := List.mem_of_getElem? (i := 841) (by decide +kernel)
theorem km_RX8_74 : Cond.methodLink RX8 74 yX8_axis ∈ lw_tbl := List.mem_of_getElem? (i := 842) (by decide +kernel)
theorem ks_yX8_axis : Cond.static yX8_axis ∈ lw_tbl := List.mem_of_getElem? (i := 843) (by decide +kernel)
theorem kc_yX8_axis : Cond.code yX8_axis cX8_axis 2 (Option.some FieldType.int) ∈ lw_tbl := List.mem_of_getElem? (i := 844) (by decide +kernel)
theorem km_RX8_64 : Cond.methodLink RX8 64 yJ0_charAt_5068e ∈ lw_tbl := List.mem_of_getElem? (i := 846) (by decide +kernel)
theorem ki_yJ0_charAt_5068e : Cond.instanceMethod yJ0_charAt_5068e ∈ lw_tbl := List.mem_of_getElem? (i := 847) (by decide +kernel)
theorem kx_yJ0_charAt_5068e : Cond.selects RJ0 yJ0_charAt_5068e yJ0_charAt_5068e ∈ lw_tbl := List.mem_of_getElem? (i := 848) (by decide +kernel)
theorem kc_yJ0_charAt_5068e : Cond.code yJ0_charAt_5068e cJ0_charAt_5068e 2 (Option.some FieldType.char) ∈ lw_tbl := List.mem_of_getElem? (i := 849) (by decide +kernel)
theorem km_RJ0_492 : Cond.methodLink RJ0 492 yJ0_isLatin1_aae02 ∈ lw_tbl := List.mem_of_getElem? (i := 850) (by decide +kernel)
theorem ki_yJ0_isLatin1_aae02 : Cond.instanceMethod yJ0_isLatin1_aae02 ∈ lw_tbl := List.mem_of_getElem? (i := 851) (by decide +kernel)
theorem kx_yJ0_isLatin1_aae02 : Cond.selects RJ0 yJ0_isLatin1_aae02 yJ0_isLatin1_aae02 ∈ lw_tbl := List.mem_of_getElem? (i := 852) (by decide +kernel)
theorem kc_yJ0_isLatin1_aae02 : Cond.code yJ0_isLatin1_aae02 cJ0_isLatin1_aae02 1 (Option.some FieldType.boolean) ∈ lw_tbl := List.mem_of_getElem? (i := 853) (by decide +kernel)
theorem kf_RJ0_38 : Cond.fieldLink RJ0 38 "java/lang/String" "COMPACT_STRINGS" "Z" ∈ lw_tbl := List.mem_of_getElem? (i := 854) (by decide +kernel)
theorem km_RJ0_495 : Cond.methodLink RJ0 495 yJ1_charAt_3b067 ∈ lw_tbl := List.mem_of_getElem? (i := 856) (by decide +kernel)
theorem ks_yJ1_charAt_3b067 : Cond.static yJ1_charAt_3b067 ∈ lw_tbl := List.mem_of_getElem? (i := 857) (by decide +kernel)
theorem kc_yJ1_charAt_3b067 : Cond.code yJ1_charAt_3b067 cJ1_charAt_3b067 2 (Option.some FieldType.char) ∈ lw_tbl := List.mem_of_getElem? (i := 858) (by decide +kernel)
theorem km_RJ1_9 : Cond.methodLink RJ1 9 yJ0_checkIndex_df160 ∈ lw_tbl := List.mem_of_getElem? (i := 859) (by decide +kernel)
theorem ks_yJ0_checkIndex_df160 : Cond.static yJ0_checkIndex_df160 ∈ lw_tbl := List.mem_of_getElem? (i := 860) (by decide +kernel)
theorem kc_yJ0_checkIndex_df160 : Cond.code yJ0_checkIndex_df160 cJ0_checkIndex_df160 2 (Option.none : Option FieldType) ∈ lw_tbl := List.mem_of_getElem? (i := 861) (by decide +kernel)
theorem kf_RJ0_1053 : Cond.fieldLink RJ0 1053 "jdk/internal/util/Preconditions" "SIOOBE_FORMATTER" "Ljava/util/function/BiFunction;" ∈ lw_tbl := List.mem_of_getElem? (i := 862) (by decide +kernel)
theorem km_RJ0_1059 : Cond.methodLink RJ0 1059 yJ3_checkIndex_8e157 ∈ lw_tbl := List.mem_of_getElem? (i := 864) (by decide +kernel)
theorem ks_yJ3_checkIndex_8e157 : Cond.static yJ3_checkIndex_8e157 ∈ lw_tbl := List.mem_of_getElem? (i := 865) (by decide +kernel)
theorem kc_yJ3_checkIndex_8e157 : Cond.code yJ3_checkIndex_8e157 cJ3_checkIndex_8e157 3 (Option.some FieldType.int) ∈ lw_tbl := List.mem_of_getElem? (i := 866) (by decide +kernel)
theorem km_RJ0_498 : Cond.methodLink RJ0 498 yJ2_charAt_3b067 ∈ lw_tbl := List.mem_of_getElem? (i := 867) (by decide +kernel)
theorem ks_yJ2_charAt_3b067 : Cond.static yJ2_charAt_3b067 ∈ lw_tbl := List.mem_of_getElem? (i := 868) (by decide +kernel)
theorem kc_yJ2_charAt_3b067 : Cond.code yJ2_charAt_3b067 cJ2_charAt_3b067 2 (Option.some FieldType.char) ∈ lw_tbl := List.mem_of_getElem? (i := 869) (by decide +kernel)
theorem km_RJ2_67 : Cond.methodLink RJ2 67 yJ2_checkIndex_2214a ∈ lw_tbl := List.mem_of_getElem? (i := 870) (by decide +kernel)
theorem ks_yJ2_checkIndex_2214a : Cond.static yJ2_checkIndex_2214a ∈ lw_tbl := List.mem_of_getElem? (i := 871) (by decide +kernel)
theorem kc_yJ2_checkIndex_2214a : Cond.code yJ2_checkIndex_2214a cJ2_checkIndex_2214a 2 (Option.none : Option FieldType) ∈ lw_tbl := List.mem_of_getElem? (i := 872) (by decide +kernel)
theorem km_RJ2_48 : Cond.methodLink RJ2 48 yJ2_length_9d52b ∈ lw_tbl := List.mem_of_getElem? (i := 873) (by decide +kernel)
theorem ks_yJ2_length_9d52b : Cond.static yJ2_length_9d52b ∈ lw_tbl := List.mem_of_getElem? (i := 874) (by decide +kernel)
theorem kc_yJ2_length_9d52b : Cond.code yJ2_length_9d52b cJ2_length_9d52b 1 (Option.some FieldType.int) ∈ lw_tbl := List.mem_of_getElem? (i := 875) (by decide +kernel)
theorem km_RJ2_414 : Cond.methodLink RJ2 414 yJ0_checkIndex_df160 ∈ lw_tbl := List.mem_of_getElem? (i := 876) (by decide +kernel)
theorem km_RJ2_71 : Cond.methodLink RJ2 71 yJ2_getChar_3b067 ∈ lw_tbl := List.mem_of_getElem? (i := 877) (by decide +kernel)
theorem ks_yJ2_getChar_3b067 : Cond.static yJ2_getChar_3b067 ∈ lw_tbl := List.mem_of_getElem? (i := 878) (by decide +kernel)
theorem kc_yJ2_getChar_3b067 : Cond.code yJ2_getChar_3b067 cJ2_getChar_3b067 2 (Option.some FieldType.char) ∈ lw_tbl := List.mem_of_getElem? (i := 879) (by decide +kernel)
theorem kf_RJ2_44 : Cond.fieldLink RJ2 44 "java/lang/StringUTF16" "$assertionsDisabled" "Z" ∈ lw_tbl := List.mem_of_getElem? (i := 880) (by decide +kernel)
theorem kf_RJ2_59 : Cond.fieldLink RJ2 59 "java/lang/StringUTF16" "HI_BYTE_SHIFT" "I" ∈ lw_tbl := List.mem_of_getElem? (i := 882) (by decide +kernel)
theorem kf_RJ2_63 : Cond.fieldLink RJ2 63 "java/lang/StringUTF16" "LO_BYTE_SHIFT" "I" ∈ lw_tbl := List.mem_of_getElem? (i := 884) (by decide +kernel)
theorem km_RX8_70 : Cond.methodLink RX8 70 yX8_bit ∈ lw_tbl := List.mem_of_getElem? (i := 886) (by decide +kernel)
theorem ks_yX8_bit : Cond.static yX8_bit ∈ lw_tbl := List.mem_of_getElem? (i := 887) (by decide +kernel)
theorem kc_yX8_bit : Cond.code yX8_bit cX8_bit 2 (Option.some FieldType.int) ∈ lw_tbl := List.mem_of_getElem? (i := 888) (by decide +kernel)
theorem km_RX8_118 : Cond.methodLink RX8 118 yX8_orbitOf ∈ lw_tbl := List.mem_of_getElem? (i := 889) (by decide +kernel)
theorem ki_yX8_orbitOf : Cond.instanceMethod yX8_orbitOf ∈ lw_tbl := List.mem_of_getElem? (i := 891) (by decide +kernel)
theorem kc_yX8_orbitOf : Cond.code yX8_orbitOf cX8_orbitOf 4 (Option.some FieldType.int) ∈ lw_tbl := List.mem_of_getElem? (i := 892) (by decide +kernel)
theorem km_RX8_107 : Cond.methodLink RX8 107 yJ9_min_7cf53 ∈ lw_tbl := List.mem_of_getElem? (i := 893) (by decide +kernel)
theorem km_RL_36 : Cond.methodLink RL 36 yX8_at ∈ lw_tbl := List.mem_of_getElem? (i := 894) (by decide +kernel)
theorem ki_yX8_at : Cond.instanceMethod yX8_at ∈ lw_tbl := List.mem_of_getElem? (i := 895) (by decide +kernel)
theorem kx_yX8_at : Cond.selects RX8 yX8_at yX8_at ∈ lw_tbl := List.mem_of_getElem? (i := 896) (by decide +kernel)
theorem kc_yX8_at : Cond.code yX8_at cX8_at 4 (Option.some FieldType.int) ∈ lw_tbl := List.mem_of_getElem? (i := 897) (by decide +kernel)
theorem km_RL_40 : Cond.methodLink RL 40 yX8_feed ∈ lw_tbl := List.mem_of_getElem? (i := 898) (by decide +kernel)
theorem ki_yX8_feed : Cond.instanceMethod yX8_feed ∈ lw_tbl := List.mem_of_getElem? (i := 899) (by decide +kernel)
theorem kx_yX8_feed : Cond.selects RX8 yX8_feed yX8_feed ∈ lw_tbl := List.mem_of_getElem? (i := 900) (by decide +kernel)
theorem kc_yX8_feed : Cond.code yX8_feed cX8_feed 2 (Option.some FieldType.int) ∈ lw_tbl := List.mem_of_getElem? (i := 901) (by decide +kernel)
theorem km_RL_45 : Cond.methodLink RL 45 yX8_read ∈ lw_tbl := List.mem_of_getElem? (i := 903) (by decide +kernel)
theorem ki_yX8_read : Cond.instanceMethod yX8_read ∈ lw_tbl := List.mem_of_getElem? (i := 904) (by decide +kernel)
theorem kx_yX8_read : Cond.selects RX8 yX8_read yX8_read ∈ lw_tbl := List.mem_of_getElem? (i := 905) (by decide +kernel)
theorem kc_yX8_read : Cond.code yX8_read cX8_read 5 (Option.some FieldType.int) ∈ lw_tbl := List.mem_of_getElem? (i := 906) (by decide +kernel)
theorem km_RX8_207 : Cond.methodLink RX8 207 yX8_clause ∈ lw_tbl := List.mem_of_getElem? (i := 907) (by decide +kernel)
theorem ki_yX8_clause : Cond.instanceMethod yX8_clause ∈ lw_tbl := List.mem_of_getElem? (i := 909) (by decide +kernel)
theorem kc_yX8_clause : Cond.code yX8_clause cX8_clause 4 (Option.none : Option FieldType) ∈ lw_tbl := List.mem_of_getElem? (i := 910) (by decide +kernel)
theorem km_RX8_181 : Cond.methodLink RX8 181 yX8_here ∈ lw_tbl := List.mem_of_getElem? (i := 911) (by decide +kernel)
theorem ki_yX8_here : Cond.instanceMethod yX8_here ∈ lw_tbl := List.mem_of_getElem? (i := 913) (by decide +kernel)
theorem kc_yX8_here : Cond.code yX8_here cX8_here 1 (Option.some FieldType.int) ∈ lw_tbl := List.mem_of_getElem? (i := 914) (by decide +kernel)
theorem km_RX8_195 : Cond.methodLink RX8 195 yX8_number ∈ lw_tbl := List.mem_of_getElem? (i := 915) (by decide +kernel)
theorem ki_yX8_number : Cond.instanceMethod yX8_number ∈ lw_tbl := List.mem_of_getElem? (i := 917) (by decide +kernel)
theorem kc_yX8_number : Cond.code yX8_number cX8_number 3 (Option.some FieldType.int) ∈ lw_tbl := List.mem_of_getElem? (i := 918) (by decide +kernel)
theorem km_RX8_189 : Cond.methodLink RX8 189 yX8_digit ∈ lw_tbl := List.mem_of_getElem? (i := 919) (by decide +kernel)
theorem ki_yX8_digit : Cond.instanceMethod yX8_digit ∈ lw_tbl := List.mem_of_getElem? (i := 921) (by decide +kernel)
theorem kc_yX8_digit : Cond.code yX8_digit cX8_digit 2 (Option.some FieldType.int) ∈ lw_tbl := List.mem_of_getElem? (i := 922) (by decide +kernel)
theorem km_RX8_198 : Cond.methodLink RX8 198 yX8_comma ∈ lw_tbl := List.mem_of_getElem? (i := 925) (by decide +kernel)
theorem ki_yX8_comma : Cond.instanceMethod yX8_comma ∈ lw_tbl := List.mem_of_getElem? (i := 927) (by decide +kernel)
theorem kc_yX8_comma : Cond.code yX8_comma cX8_comma 1 (Option.none : Option FieldType) ∈ lw_tbl := List.mem_of_getElem? (i := 928) (by decide +kernel)
theorem km_RX8_210 : Cond.methodLink RX8 210 yX8_done ∈ lw_tbl := List.mem_of_getElem? (i := 929) (by decide +kernel)
theorem ki_yX8_done : Cond.instanceMethod yX8_done ∈ lw_tbl := List.mem_of_getElem? (i := 931) (by decide +kernel)
theorem kc_yX8_done : Cond.code yX8_done cX8_done 2 (Option.some FieldType.int) ∈ lw_tbl := List.mem_of_getElem? (i := 932) (by decide +kernel)
theorem km_RX8_201 : Cond.methodLink RX8 201 yX8_mark ∈ lw_tbl := List.mem_of_getElem? (i := 933) (by decide +kernel)
theorem km_RX8_204 : Cond.methodLink RX8 204 yX8_drop ∈ lw_tbl := List.mem_of_getElem? (i := 934) (by decide +kernel)
theorem km_RL_49 : Cond.methodLink RL 49 yX8_product ∈ lw_tbl := List.mem_of_getElem? (i := 935) (by decide +kernel)
theorem ki_yX8_product : Cond.instanceMethod yX8_product ∈ lw_tbl := List.mem_of_getElem? (i := 936) (by decide +kernel)
theorem kx_yX8_product : Cond.selects RX8 yX8_product yX8_product ∈ lw_tbl := List.mem_of_getElem? (i := 937) (by decide +kernel)
theorem kc_yX8_product : Cond.code yX8_product cX8_product 3 (Option.some FieldType.int) ∈ lw_tbl := List.mem_of_getElem? (i := 938) (by decide +kernel)
theorem km_RX8_213 : Cond.methodLink RX8 213 yX8_isMove ∈ lw_tbl := List.mem_of_getElem? (i := 939) (by decide +kernel)
theorem ks_yX8_isMove : Cond.static yX8_isMove ∈ lw_tbl := List.mem_of_getElem? (i := 940) (by decide +kernel)
theorem kc_yX8_isMove : Cond.code yX8_isMove cX8_isMove 1 (Option.some FieldType.boolean) ∈ lw_tbl := List.mem_of_getElem? (i := 941) (by decide +kernel)
theorem km_RX8_81 : Cond.methodLink RX8 81 yX8_times ∈ lw_tbl := List.mem_of_getElem? (i := 943) (by decide +kernel)
theorem ks_yX8_times : Cond.static yX8_times ∈ lw_tbl := List.mem_of_getElem? (i := 944) (by decide +kernel)
theorem kc_yX8_times : Cond.code yX8_times cX8_times 4 (Option.some FieldType.int) ∈ lw_tbl := List.mem_of_getElem? (i := 945) (by decide +kernel)
theorem km_RX8_77 : Cond.methodLink RX8 77 yX8_wayOf ∈ lw_tbl := List.mem_of_getElem? (i := 946) (by decide +kernel)
theorem ks_yX8_wayOf : Cond.static yX8_wayOf ∈ lw_tbl := List.mem_of_getElem? (i := 947) (by decide +kernel)
theorem kc_yX8_wayOf : Cond.code yX8_wayOf cX8_wayOf 6 (Option.some FieldType.int) ∈ lw_tbl := List.mem_of_getElem? (i := 948) (by decide +kernel)
theorem km_RL_53 : Cond.methodLink RL 53 yX8_move ∈ lw_tbl := List.mem_of_getElem? (i := 949) (by decide +kernel)
theorem ki_yX8_move : Cond.instanceMethod yX8_move ∈ lw_tbl := List.mem_of_getElem? (i := 950) (by decide +kernel)
theorem kx_yX8_move : Cond.selects RX8 yX8_move yX8_move ∈ lw_tbl := List.mem_of_getElem? (i := 951) (by decide +kernel)
theorem kc_yX8_move : Cond.code yX8_move cX8_move 4 (Option.some FieldType.int) ∈ lw_tbl := List.mem_of_getElem? (i := 952) (by decide +kernel)
theorem km_RX8_104 : Cond.methodLink RX8 104 yX8_inverse ∈ lw_tbl := List.mem_of_getElem? (i := 953) (by decide +kernel)
theorem ks_yX8_inverse : Cond.static yX8_inverse ∈ lw_tbl := List.mem_of_getElem? (i := 954) (by decide +kernel)
theorem kc_yX8_inverse : Cond.code yX8_inverse cX8_inverse 3 (Option.some FieldType.int) ∈ lw_tbl := List.mem_of_getElem? (i := 955) (by decide +kernel)
theorem km_RX8_216 : Cond.methodLink RX8 216 yX8_orderOf ∈ lw_tbl := List.mem_of_getElem? (i := 956) (by decide +kernel)
theorem ks_yX8_orderOf : Cond.static yX8_orderOf ∈ lw_tbl := List.mem_of_getElem? (i := 957) (by decide +kernel)
theorem kc_yX8_orderOf : Cond.code yX8_orderOf cX8_orderOf 3 (Option.some FieldType.int) ∈ lw_tbl := List.mem_of_getElem? (i := 958) (by decide +kernel)
theorem km_RL_57 : Cond.methodLink RL 57 yX8_trace ∈ lw_tbl := List.mem_of_getElem? (i := 959) (by decide +kernel)
theorem ki_yX8_trace : Cond.instanceMethod yX8_trace ∈ lw_tbl := List.mem_of_getElem? (i := 960) (by decide +kernel)
theorem kx_yX8_trace : Cond.selects RX8 yX8_trace yX8_trace ∈ lw_tbl := List.mem_of_getElem? (i := 961) (by decide +kernel)
theorem kc_yX8_trace : Cond.code yX8_trace cX8_trace 3 (Option.some FieldType.int) ∈ lw_tbl := List.mem_of_getElem? (i := 962) (by decide +kernel)
theorem km_RX8_150 : Cond.methodLink RX8 150 yX8_traceOf ∈ lw_tbl := List.mem_of_getElem? (i := 963) (by decide +kernel)
theorem ks_yX8_traceOf : Cond.static yX8_traceOf ∈ lw_tbl := List.mem_of_getElem? (i := 964) (by decide +kernel)
theorem kc_yX8_traceOf : Cond.code yX8_traceOf cX8_traceOf 3 (Option.some FieldType.int) ∈ lw_tbl := List.mem_of_getElem? (i := 965) (by decide +kernel)
theorem km_RX8_121 : Cond.methodLink RX8 121 yX8_turnOf ∈ lw_tbl := List.mem_of_getElem? (i := 966) (by decide +kernel)
theorem ks_yX8_turnOf : Cond.static yX8_turnOf ∈ lw_tbl := List.mem_of_getElem? (i := 967) (by decide +kernel)
theorem kc_yX8_turnOf : Cond.code yX8_turnOf cX8_turnOf 4 (Option.some FieldType.int) ∈ lw_tbl := List.mem_of_getElem? (i := 968) (by decide +kernel)
theorem km_RL_61 : Cond.methodLink RL 61 yX8_takes ∈ lw_tbl := List.mem_of_getElem? (i := 969) (by decide +kernel)
theorem ki_yX8_takes : Cond.instanceMethod yX8_takes ∈ lw_tbl := List.mem_of_getElem? (i := 970) (by decide +kernel)
theorem kx_yX8_takes : Cond.selects RX8 yX8_takes yX8_takes ∈ lw_tbl := List.mem_of_getElem? (i := 971) (by decide +kernel)
theorem kc_yX8_takes : Cond.code yX8_takes cX8_takes 3 (Option.some FieldType.int) ∈ lw_tbl := List.mem_of_getElem? (i := 972) (by decide +kernel)
theorem km_RL_65 : Cond.methodLink RL 65 yX8_told ∈ lw_tbl := List.mem_of_getElem? (i := 973) (by decide +kernel)
theorem ki_yX8_told : Cond.instanceMethod yX8_told ∈ lw_tbl := List.mem_of_getElem? (i := 974) (by decide +kernel)
theorem kx_yX8_told : Cond.selects RX8 yX8_told yX8_told ∈ lw_tbl := List.mem_of_getElem? (i := 975) (by decide +kernel)
theorem kc_yX8_told : Cond.code yX8_told cX8_told 2 (Option.some FieldType.int) ∈ lw_tbl := List.mem_of_getElem? (i := 976) (by decide +kernel)
theorem km_RX8_219 : Cond.methodLink RX8 219 yX8_findsSigns ∈ lw_tbl := List.mem_of_getElem? (i := 977) (by decide +kernel)
theorem ki_yX8_findsSigns : Cond.instanceMethod yX8_findsSigns ∈ lw_tbl := List.mem_of_getElem? (i := 979) (by decide +kernel)
theorem kc_yX8_findsSigns : Cond.code yX8_findsSigns cX8_findsSigns 3 (Option.none : Option FieldType) ∈ lw_tbl := List.mem_of_getElem? (i := 980) (by decide +kernel)
theorem km_RX8_141 : Cond.methodLink RX8 141 yX8_findsMakers ∈ lw_tbl := List.mem_of_getElem? (i := 981) (by decide +kernel)
theorem ki_yX8_findsMakers : Cond.instanceMethod yX8_findsMakers ∈ lw_tbl := List.mem_of_getElem? (i := 983) (by decide +kernel)
theorem kc_yX8_findsMakers : Cond.code yX8_findsMakers cX8_findsMakers 2 (Option.none : Option FieldType) ∈ lw_tbl := List.mem_of_getElem? (i := 984) (by decide +kernel)
theorem km_RX8_127 : Cond.methodLink RX8 127 yX8_makesMore ∈ lw_tbl := List.mem_of_getElem? (i := 985) (by decide +kernel)
theorem ki_yX8_makesMore : Cond.instanceMethod yX8_makesMore ∈ lw_tbl := List.mem_of_getElem? (i := 987) (by decide +kernel)
theorem kc_yX8_makesMore : Cond.code yX8_makesMore cX8_makesMore 5 (Option.some FieldType.boolean) ∈ lw_tbl := List.mem_of_getElem? (i := 988) (by decide +kernel)
theorem km_RX8_147 : Cond.methodLink RX8 147 yX8_isSign ∈ lw_tbl := List.mem_of_getElem? (i := 989) (by decide +kernel)
theorem ki_yX8_isSign : Cond.instanceMethod yX8_isSign ∈ lw_tbl := List.mem_of_getElem? (i := 991) (by decide +kernel)
theorem kc_yX8_isSign : Cond.code yX8_isSign cX8_isSign 5 (Option.some FieldType.boolean) ∈ lw_tbl := List.mem_of_getElem? (i := 992) (by decide +kernel)
theorem km_RX8_134 : Cond.methodLink RX8 134 yX8_spreads ∈ lw_tbl := List.mem_of_getElem? (i := 993) (by decide +kernel)
theorem ki_yX8_spreads : Cond.instanceMethod yX8_spreads ∈ lw_tbl := List.mem_of_getElem? (i := 995) (by decide +kernel)
theorem kc_yX8_spreads : Cond.code yX8_spreads cX8_spreads 6 (Option.some FieldType.boolean) ∈ lw_tbl := List.mem_of_getElem? (i := 996) (by decide +kernel)
theorem km_RX8_131 : Cond.methodLink RX8 131 yX8_toldSign ∈ lw_tbl := List.mem_of_getElem? (i := 997) (by decide +kernel)
theorem ki_yX8_toldSign : Cond.instanceMethod yX8_toldSign ∈ lw_tbl := List.mem_of_getElem? (i := 999) (by decide +kernel)
theorem kc_yX8_toldSign : Cond.code yX8_toldSign cX8_toldSign 3 (Option.some FieldType.int) ∈ lw_tbl := List.mem_of_getElem? (i := 1000) (by decide +kernel)
theorem km_RX8_222 : Cond.methodLink RX8 222 yX8_classes ∈ lw_tbl := List.mem_of_getElem? (i := 1001) (by decide +kernel)
theorem ki_yX8_classes : Cond.instanceMethod yX8_classes ∈ lw_tbl := List.mem_of_getElem? (i := 1003) (by decide +kernel)
theorem kc_yX8_classes : Cond.code yX8_classes cX8_classes 1 (Option.some FieldType.int) ∈ lw_tbl := List.mem_of_getElem? (i := 1004) (by decide +kernel)
theorem km_RX8_115 : Cond.methodLink RX8 115 yX8_classNumber ∈ lw_tbl := List.mem_of_getElem? (i := 1005) (by decide +kernel)
theorem ki_yX8_classNumber : Cond.instanceMethod yX8_classNumber ∈ lw_tbl := List.mem_of_getElem? (i := 1007) (by decide +kernel)
theorem kc_yX8_classNumber : Cond.code yX8_classNumber cX8_classNumber 4 (Option.some FieldType.int) ∈ lw_tbl := List.mem_of_getElem? (i := 1008) (by decide +kernel)
theorem km_RX8_112 : Cond.methodLink RX8 112 yX8_leastOf ∈ lw_tbl := List.mem_of_getElem? (i := 1009) (by decide +kernel)
theorem ki_yX8_leastOf : Cond.instanceMethod yX8_leastOf ∈ lw_tbl := List.mem_of_getElem? (i := 1011) (by decide +kernel)
theorem kc_yX8_leastOf : Cond.code yX8_leastOf cX8_leastOf 4 (Option.some FieldType.int) ∈ lw_tbl := List.mem_of_getElem? (i := 1012) (by decide +kernel)
theorem km_RX8_225 : Cond.methodLink RX8 225 yX8_orbits ∈ lw_tbl := List.mem_of_getElem? (i := 1013) (by decide +kernel)
theorem ki_yX8_orbits : Cond.instanceMethod yX8_orbits ∈ lw_tbl := List.mem_of_getElem? (i := 1015) (by decide +kernel)
theorem kc_yX8_orbits : Cond.code yX8_orbits cX8_orbits 3 (Option.some FieldType.int) ∈ lw_tbl := List.mem_of_getElem? (i := 1016) (by decide +kernel)
theorem km_RX8_228 : Cond.methodLink RX8 228 yX8_isHanded ∈ lw_tbl := List.mem_of_getElem? (i := 1017) (by decide +kernel)
theorem ki_yX8_isHanded : Cond.instanceMethod yX8_isHanded ∈ lw_tbl := List.mem_of_getElem? (i := 1019) (by decide +kernel)
theorem kc_yX8_isHanded : Cond.code yX8_isHanded cX8_isHanded 3 (Option.some FieldType.boolean) ∈ lw_tbl := List.mem_of_getElem? (i := 1020) (by decide +kernel)
theorem km_RX8_231 : Cond.methodLink RX8 231 yX8_nearest ∈ lw_tbl := List.mem_of_getElem? (i := 1021) (by decide +kernel)
theorem ki_yX8_nearest : Cond.instanceMethod yX8_nearest ∈ lw_tbl := List.mem_of_getElem? (i := 1023) (by decide +kernel)
theorem kc_yX8_nearest : Cond.code yX8_nearest cX8_nearest 3 (Option.some FieldType.int) ∈ lw_tbl := List.mem_of_getElem? (i := 1024) (by decide +kernel)
theorem km_RL_69 : Cond.methodLink RL 69 yX8_group ∈ lw_tbl := List.mem_of_getElem? (i := 1025) (by decide +kernel)
theorem ki_yX8_group : Cond.instanceMethod yX8_group ∈ lw_tbl := List.mem_of_getElem? (i := 1026) (by decide +kernel)
theorem kx_yX8_group : Cond.selects RX8 yX8_group yX8_group ∈ lw_tbl := List.mem_of_getElem? (i := 1027) (by decide +kernel)
theorem kc_yX8_group : Cond.code yX8_group cX8_group 2 (Option.some FieldType.int) ∈ lw_tbl := List.mem_of_getElem? (i := 1028) (by decide +kernel)
theorem km_RL_73 : Cond.methodLink RL 73 yX8_classOf ∈ lw_tbl := List.mem_of_getElem? (i := 1029) (by decide +kernel)
theorem ki_yX8_classOf : Cond.instanceMethod yX8_classOf ∈ lw_tbl := List.mem_of_getElem? (i := 1030) (by decide +kernel)
theorem kx_yX8_classOf : Cond.selects RX8 yX8_classOf yX8_classOf ∈ lw_tbl := List.mem_of_getElem? (i := 1031) (by decide +kernel)
theorem kc_yX8_classOf : Cond.code yX8_classOf cX8_classOf 3 (Option.some FieldType.int) ∈ lw_tbl := List.mem_of_getElem? (i := 1032) (by decide +kernel)
theorem km_RX8_234 : Cond.methodLink RX8 234 yX8_classMany ∈ lw_tbl := List.mem_of_getElem? (i := 1033) (by decide +kernel)
theorem ki_yX8_classMany : Cond.instanceMethod yX8_classMany ∈ lw_tbl := List.mem_of_getElem? (i := 1035) (by decide +kernel)
theorem kc_yX8_classMany : Cond.code yX8_classMany cX8_classMany 5 (Option.some FieldType.int) ∈ lw_tbl := List.mem_of_getElem? (i := 1036) (by decide +kernel)
theorem km_RL_77 : Cond.methodLink RL 77 yX8_classAt ∈ lw_tbl := List.mem_of_getElem? (i := 1037) (by decide +kernel)
theorem ki_yX8_classAt : Cond.instanceMethod yX8_classAt ∈ lw_tbl := List.mem_of_getElem? (i := 1038) (by decide +kernel)
theorem kx_yX8_classAt : Cond.selects RX8 yX8_classAt yX8_classAt ∈ lw_tbl := List.mem_of_getElem? (i := 1039) (by decide +kernel)
theorem kc_yX8_classAt : Cond.code yX8_classAt cX8_classAt 2 (Option.some FieldType.int) ∈ lw_tbl := List.mem_of_getElem? (i := 1040) (by decide +kernel)
theorem km_RX8_237 : Cond.methodLink RX8 237 yJ9_max_7cf53 ∈ lw_tbl := List.mem_of_getElem? (i := 1041) (by decide +kernel)
theorem ks_yJ9_max_7cf53 : Cond.static yJ9_max_7cf53 ∈ lw_tbl := List.mem_of_getElem? (i := 1042) (by decide +kernel)
theorem kc_yJ9_max_7cf53 : Cond.code yJ9_max_7cf53 cJ9_max_7cf53 2 (Option.some FieldType.int) ∈ lw_tbl := List.mem_of_getElem? (i := 1043) (by decide +kernel)
theorem km_RL_81 : Cond.methodLink RL 81 yX8_motion ∈ lw_tbl := List.mem_of_getElem? (i := 1044) (by decide +kernel)
theorem ki_yX8_motion : Cond.instanceMethod yX8_motion ∈ lw_tbl := List.mem_of_getElem? (i := 1045) (by decide +kernel)
theorem kx_yX8_motion : Cond.selects RX8 yX8_motion yX8_motion ∈ lw_tbl := List.mem_of_getElem? (i := 1046) (by decide +kernel)
theorem kc_yX8_motion : Cond.code yX8_motion cX8_motion 3 (Option.some FieldType.int) ∈ lw_tbl := List.mem_of_getElem? (i := 1047) (by decide +kernel)
theorem km_RX8_153 : Cond.methodLink RX8 153 yX8_motionOf ∈ lw_tbl := List.mem_of_getElem? (i := 1049) (by decide +kernel)
theorem ki_yX8_motionOf : Cond.instanceMethod yX8_motionOf ∈ lw_tbl := List.mem_of_getElem? (i := 1051) (by decide +kernel)
theorem kc_yX8_motionOf : Cond.code yX8_motionOf cX8_motionOf 6 (Option.some FieldType.int) ∈ lw_tbl := List.mem_of_getElem? (i := 1052) (by decide +kernel)
theorem km_RL_85 : Cond.methodLink RL 85 yX8_sign ∈ lw_tbl := List.mem_of_getElem? (i := 1053) (by decide +kernel)
theorem ki_yX8_sign : Cond.instanceMethod yX8_sign ∈ lw_tbl := List.mem_of_getElem? (i := 1054) (by decide +kernel)
theorem kx_yX8_sign : Cond.selects RX8 yX8_sign yX8_sign ∈ lw_tbl := List.mem_of_getElem? (i := 1055) (by decide +kernel)
theorem kc_yX8_sign : Cond.code yX8_sign cX8_sign 3 (Option.some FieldType.int) ∈ lw_tbl := List.mem_of_getElem? (i := 1056) (by decide +kernel)
theorem km_RL_89 : Cond.methodLink RL 89 yX8_has ∈ lw_tbl := List.mem_of_getElem? (i := 1057) (by decide +kernel)
theorem ki_yX8_has : Cond.instanceMethod yX8_has ∈ lw_tbl := List.mem_of_getElem? (i := 1058) (by decide +kernel)
theorem kx_yX8_has : Cond.selects RX8 yX8_has yX8_has ∈ lw_tbl := List.mem_of_getElem? (i := 1059) (by decide +kernel)
theorem kc_yX8_has : Cond.code yX8_has cX8_has 3 (Option.some FieldType.int) ∈ lw_tbl := List.mem_of_getElem? (i := 1060) (by decide +kernel)
theorem km_RX8_242 : Cond.methodLink RX8 242 yX8_hasOf ∈ lw_tbl := List.mem_of_getElem? (i := 1061) (by decide +kernel)
theorem ki_yX8_hasOf : Cond.instanceMethod yX8_hasOf ∈ lw_tbl := List.mem_of_getElem? (i := 1063) (by decide +kernel)
theorem kc_yX8_hasOf : Cond.code yX8_hasOf cX8_hasOf 5 (Option.some FieldType.int) ∈ lw_tbl := List.mem_of_getElem? (i := 1064) (by decide +kernel)
theorem km_RL_93 : Cond.methodLink RL 93 yX8_active ∈ lw_tbl := List.mem_of_getElem? (i := 1065) (by decide +kernel)
theorem ki_yX8_active : Cond.instanceMethod yX8_active ∈ lw_tbl := List.mem_of_getElem? (i := 1066) (by decide +kernel)
theorem kx_yX8_active : Cond.selects RX8 yX8_active yX8_active ∈ lw_tbl := List.mem_of_getElem? (i := 1067) (by decide +kernel)
theorem kc_yX8_active : Cond.code yX8_active cX8_active 6 (Option.some FieldType.int) ∈ lw_tbl := List.mem_of_getElem? (i := 1068) (by decide +kernel)
theorem km_RL_98 : Cond.methodLink RL 98 yX8_see ∈ lw_tbl := List.mem_of_getElem? (i := 1070) (by decide +kernel)
theorem ki_yX8_see : Cond.instanceMethod yX8_see ∈ lw_tbl := List.mem_of_getElem? (i := 1071) (by decide +kernel)
theorem kx_yX8_see : Cond.selects RX8 yX8_see yX8_see ∈ lw_tbl := List.mem_of_getElem? (i := 1072) (by decide +kernel)
theorem kc_yX8_see : Cond.code yX8_see cX8_see 4 (Option.some FieldType.int) ∈ lw_tbl := List.mem_of_getElem? (i := 1073) (by decide +kernel)
theorem km_RL_102 : Cond.methodLink RL 102 yX8_fits ∈ lw_tbl := List.mem_of_getElem? (i := 1074) (by decide +kernel)
theorem ki_yX8_fits : Cond.instanceMethod yX8_fits ∈ lw_tbl := List.mem_of_getElem? (i := 1075) (by decide +kernel)
theorem kx_yX8_fits : Cond.selects RX8 yX8_fits yX8_fits ∈ lw_tbl := List.mem_of_getElem? (i := 1076) (by decide +kernel)
theorem kc_yX8_fits : Cond.code yX8_fits cX8_fits 9 (Option.some FieldType.int) ∈ lw_tbl := List.mem_of_getElem? (i := 1077) (by decide +kernel)
theorem km_RX8_247 : Cond.methodLink RX8 247 yX8_isSeen ∈ lw_tbl := List.mem_of_getElem? (i := 1078) (by decide +kernel)
theorem ki_yX8_isSeen : Cond.instanceMethod yX8_isSeen ∈ lw_tbl := List.mem_of_getElem? (i := 1080) (by decide +kernel)
theorem kc_yX8_isSeen : Cond.code yX8_isSeen cX8_isSeen 3 (Option.some FieldType.boolean) ∈ lw_tbl := List.mem_of_getElem? (i := 1081) (by decide +kernel)
theorem km_RL_107 : Cond.methodLink RL 107 yX8_odds ∈ lw_tbl := List.mem_of_getElem? (i := 1082) (by decide +kernel)
theorem ki_yX8_odds : Cond.instanceMethod yX8_odds ∈ lw_tbl := List.mem_of_getElem? (i := 1083) (by decide +kernel)
theorem kx_yX8_odds : Cond.selects RX8 yX8_odds yX8_odds ∈ lw_tbl := List.mem_of_getElem? (i := 1084) (by decide +kernel)
theorem kc_yX8_odds : Cond.code yX8_odds cX8_odds 8 (Option.some FieldType.long) ∈ lw_tbl := List.mem_of_getElem? (i := 1085) (by decide +kernel)
theorem km_RX8_252 : Cond.methodLink RX8 252 yX8_lowest ∈ lw_tbl := List.mem_of_getElem? (i := 1087) (by decide +kernel)
theorem ks_yX8_lowest : Cond.static yX8_lowest ∈ lw_tbl := List.mem_of_getElem? (i := 1088) (by decide +kernel)
theorem kc_yX8_lowest : Cond.code yX8_lowest cX8_lowest 11 (Option.some FieldType.long) ∈ lw_tbl := List.mem_of_getElem? (i := 1089) (by decide +kernel)
theorem km_RL_112 : Cond.methodLink RL 112 yX8_mean ∈ lw_tbl := List.mem_of_getElem? (i := 1090) (by decide +kernel)
theorem ki_yX8_mean : Cond.instanceMethod yX8_mean ∈ lw_tbl := List.mem_of_getElem? (i := 1091) (by decide +kernel)
theorem kx_yX8_mean : Cond.selects RX8 yX8_mean yX8_mean ∈ lw_tbl := List.mem_of_getElem? (i := 1092) (by decide +kernel)
theorem kc_yX8_mean : Cond.code yX8_mean cX8_mean 4 (Option.some FieldType.long) ∈ lw_tbl := List.mem_of_getElem? (i := 1093) (by decide +kernel)
theorem km_RL_116 : Cond.methodLink RL 116 yX8_event ∈ lw_tbl := List.mem_of_getElem? (i := 1094) (by decide +kernel)
theorem ki_yX8_event : Cond.instanceMethod yX8_event ∈ lw_tbl := List.mem_of_getElem? (i := 1095) (by decide +kernel)
theorem kx_yX8_event : Cond.selects RX8 yX8_event yX8_event ∈ lw_tbl := List.mem_of_getElem? (i := 1096) (by decide +kernel)
theorem kc_yX8_event : Cond.code yX8_event cX8_event 4 (Option.some FieldType.int) ∈ lw_tbl := List.mem_of_getElem? (i := 1097) (by decide +kernel)
theorem km_RX8_256 : Cond.methodLink RX8 256 yX8_mostOf ∈ lw_tbl := List.mem_of_getElem? (i := 1098) (by decide +kernel)
theorem ks_yX8_mostOf : Cond.static yX8_mostOf ∈ lw_tbl := List.mem_of_getElem? (i := 1099) (by decide +kernel)
theorem kc_yX8_mostOf : Cond.code yX8_mostOf cX8_mostOf 1 (Option.some FieldType.int) ∈ lw_tbl := List.mem_of_getElem? (i := 1100) (by decide +kernel)
theorem km_RL_120 : Cond.methodLink RL 120 yX8_after ∈ lw_tbl := List.mem_of_getElem? (i := 1101) (by decide +kernel)
theorem ki_yX8_after : Cond.instanceMethod yX8_after ∈ lw_tbl := List.mem_of_getElem? (i := 1102) (by decide +kernel)
theorem kx_yX8_after : Cond.selects RX8 yX8_after yX8_after ∈ lw_tbl := List.mem_of_getElem? (i := 1103) (by decide +kernel)
theorem kc_yX8_after : Cond.code yX8_after cX8_after 3 (Option.some FieldType.int) ∈ lw_tbl := List.mem_of_getElem? (i := 1104) (by decide +kernel)
theorem km_RX8_263 : Cond.methodLink RX8 263 yX8_copies ∈ lw_tbl := List.mem_of_getElem? (i := 1105) (by decide +kernel)
theorem ks_yX8_copies : Cond.static yX8_copies ∈ lw_tbl := List.mem_of_getElem? (i := 1106) (by decide +kernel)
theorem kc_yX8_copies : Cond.code yX8_copies cX8_copies 3 (Option.none : Option FieldType) ∈ lw_tbl := List.mem_of_getElem? (i := 1107) (by decide +kernel)
theorem km_RX8_267 : Cond.methodLink RX8 267 yX8_happens ∈ lw_tbl := List.mem_of_getElem? (i := 1108) (by decide +kernel)
theorem ki_yX8_happens : Cond.instanceMethod yX8_happens ∈ lw_tbl := List.mem_of_getElem? (i := 1110) (by decide +kernel)
theorem kc_yX8_happens : Cond.code yX8_happens cX8_happens 5 (Option.none : Option FieldType) ∈ lw_tbl := List.mem_of_getElem? (i := 1111) (by decide +kernel)
theorem km_RX8_259 : Cond.methodLink RX8 259 yX8_goesBy ∈ lw_tbl := List.mem_of_getElem? (i := 1112) (by decide +kernel)
theorem ki_yX8_goesBy : Cond.instanceMethod yX8_goesBy ∈ lw_tbl := List.mem_of_getElem? (i := 1114) (by decide +kernel)
theorem kc_yX8_goesBy : Cond.code yX8_goesBy cX8_goesBy 6 (Option.none : Option FieldType) ∈ lw_tbl := List.mem_of_getElem? (i := 1115) (by decide +kernel)
theorem km_RL_124 : Cond.methodLink RL 124 yX8_book ∈ lw_tbl := List.mem_of_getElem? (i := 1116) (by decide +kernel)
theorem ki_yX8_book : Cond.instanceMethod yX8_book ∈ lw_tbl := List.mem_of_getElem? (i := 1117) (by decide +kernel)
theorem kx_yX8_book : Cond.selects RX8 yX8_book yX8_book ∈ lw_tbl := List.mem_of_getElem? (i := 1118) (by decide +kernel)
theorem kc_yX8_book : Cond.code yX8_book cX8_book 4 (Option.some FieldType.int) ∈ lw_tbl := List.mem_of_getElem? (i := 1119) (by decide +kernel)
theorem km_RL_128 : Cond.methodLink RL 128 yX8_looked ∈ lw_tbl := List.mem_of_getElem? (i := 1121) (by decide +kernel)
theorem ki_yX8_looked : Cond.instanceMethod yX8_looked ∈ lw_tbl := List.mem_of_getElem? (i := 1122) (by decide +kernel)
theorem kx_yX8_looked : Cond.selects RX8 yX8_looked yX8_looked ∈ lw_tbl := List.mem_of_getElem? (i := 1123) (by decide +kernel)
theorem kc_yX8_looked : Cond.code yX8_looked cX8_looked 3 (Option.some FieldType.int) ∈ lw_tbl := List.mem_of_getElem? (i := 1124) (by decide +kernel)
theorem km_RL_132 : Cond.methodLink RL 132 yX8_judge ∈ lw_tbl := List.mem_of_getElem? (i := 1125) (by decide +kernel)
theorem ki_yX8_judge : Cond.instanceMethod yX8_judge ∈ lw_tbl := List.mem_of_getElem? (i := 1126) (by decide +kernel)
theorem kx_yX8_judge : Cond.selects RX8 yX8_judge yX8_judge ∈ lw_tbl := List.mem_of_getElem? (i := 1127) (by decide +kernel)
theorem kc_yX8_judge : Cond.code yX8_judge cX8_judge 4 (Option.some FieldType.int) ∈ lw_tbl := List.mem_of_getElem? (i := 1128) (by decide +kernel)
theorem km_RX8_272 : Cond.methodLink RX8 272 yX8_isTape ∈ lw_tbl := List.mem_of_getElem? (i := 1129) (by decide +kernel)
theorem ks_yX8_isTape : Cond.static yX8_isTape ∈ lw_tbl := List.mem_of_getElem? (i := 1130) (by decide +kernel)
theorem kc_yX8_isTape : Cond.code yX8_isTape cX8_isTape 1 (Option.some FieldType.boolean) ∈ lw_tbl := List.mem_of_getElem? (i := 1131) (by decide +kernel)
theorem km_RL_136 : Cond.methodLink RL 136 yX8_image ∈ lw_tbl := List.mem_of_getElem? (i := 1132) (by decide +kernel)
theorem ki_yX8_image : Cond.instanceMethod yX8_image ∈ lw_tbl := List.mem_of_getElem? (i := 1133) (by decide +kernel)
theorem kx_yX8_image : Cond.selects RX8 yX8_image yX8_image ∈ lw_tbl := List.mem_of_getElem? (i := 1134) (by decide +kernel)
theorem kc_yX8_image : Cond.code yX8_image cX8_image 1 (Option.some FieldType.int) ∈ lw_tbl := List.mem_of_getElem? (i := 1135) (by decide +kernel)
theorem km_RL_140 : Cond.methodLink RL 140 yX8_undo ∈ lw_tbl := List.mem_of_getElem? (i := 1136) (by decide +kernel)
theorem ki_yX8_undo : Cond.instanceMethod yX8_undo ∈ lw_tbl := List.mem_of_getElem? (i := 1137) (by decide +kernel)
theorem kx_yX8_undo : Cond.selects RX8 yX8_undo yX8_undo ∈ lw_tbl := List.mem_of_getElem? (i := 1138) (by decide +kernel)
theorem kc_yX8_undo : Cond.code yX8_undo cX8_undo 1 (Option.some FieldType.int) ∈ lw_tbl := List.mem_of_getElem? (i := 1139) (by decide +kernel)
theorem km_RL_144 : Cond.methodLink RL 144 yX8_count ∈ lw_tbl := List.mem_of_getElem? (i := 1140) (by decide +kernel)
theorem ki_yX8_count : Cond.instanceMethod yX8_count ∈ lw_tbl := List.mem_of_getElem? (i := 1141) (by decide +kernel)
theorem kx_yX8_count : Cond.selects RX8 yX8_count yX8_count ∈ lw_tbl := List.mem_of_getElem? (i := 1142) (by decide +kernel)
theorem kc_yX8_count : Cond.code yX8_count cX8_count 2 (Option.some FieldType.int) ∈ lw_tbl := List.mem_of_getElem? (i := 1143) (by decide +kernel)
theorem km_RL_148 : Cond.methodLink RL 148 yX8_tape ∈ lw_tbl := List.mem_of_getElem? (i := 1144) (by decide +kernel)
theorem ki_yX8_tape : Cond.instanceMethod yX8_tape ∈ lw_tbl := List.mem_of_getElem? (i := 1145) (by decide +kernel)
theorem kx_yX8_tape : Cond.selects RX8 yX8_tape yX8_tape ∈ lw_tbl := List.mem_of_getElem? (i := 1146) (by decide +kernel)
theorem kc_yX8_tape : Cond.code yX8_tape cX8_tape 5 (Option.some FieldType.int) ∈ lw_tbl := List.mem_of_getElem? (i := 1147) (by decide +kernel)
theorem km_RL_155 : Cond.methodLink RL 155 yX8_item ∈ lw_tbl := List.mem_of_getElem? (i := 1149) (by decide +kernel)
theorem ki_yX8_item : Cond.instanceMethod yX8_item ∈ lw_tbl := List.mem_of_getElem? (i := 1150) (by decide +kernel)
theorem kx_yX8_item : Cond.selects RX8 yX8_item yX8_item ∈ lw_tbl := List.mem_of_getElem? (i := 1151) (by decide +kernel)
theorem kc_yX8_item : Cond.code yX8_item cX8_item 5 (Option.some FieldType.int) ∈ lw_tbl := List.mem_of_getElem? (i := 1152) (by decide +kernel)
theorem km_RX8_280 : Cond.methodLink RX8 280 yX8_narrowed ∈ lw_tbl := List.mem_of_getElem? (i := 1153) (by decide +kernel)
theorem ks_yX8_narrowed : Cond.static yX8_narrowed ∈ lw_tbl := List.mem_of_getElem? (i := 1154) (by decide +kernel)
theorem kc_yX8_narrowed : Cond.code yX8_narrowed cX8_narrowed 3 (Option.some FieldType.long) ∈ lw_tbl := List.mem_of_getElem? (i := 1155) (by decide +kernel)
theorem km_RL_160 : Cond.methodLink RL 160 yX8_peek ∈ lw_tbl := List.mem_of_getElem? (i := 1156) (by decide +kernel)
theorem ki_yX8_peek : Cond.instanceMethod yX8_peek ∈ lw_tbl := List.mem_of_getElem? (i := 1157) (by decide +kernel)
theorem kx_yX8_peek : Cond.selects RX8 yX8_peek yX8_peek ∈ lw_tbl := List.mem_of_getElem? (i := 1158) (by decide +kernel)
theorem kc_yX8_peek : Cond.code yX8_peek cX8_peek 3 (Option.some FieldType.long) ∈ lw_tbl := List.mem_of_getElem? (i := 1159) (by decide +kernel)
theorem km_RL_165 : Cond.methodLink RL 165 yX8_shift ∈ lw_tbl := List.mem_of_getElem? (i := 1160) (by decide +kernel)
theorem ki_yX8_shift : Cond.instanceMethod yX8_shift ∈ lw_tbl := List.mem_of_getElem? (i := 1161) (by decide +kernel)
theorem kx_yX8_shift : Cond.selects RX8 yX8_shift yX8_shift ∈ lw_tbl := List.mem_of_getElem? (i := 1162) (by decide +kernel)
theorem kc_yX8_shift : Cond.code yX8_shift cX8_shift 8 (Option.some FieldType.int) ∈ lw_tbl := List.mem_of_getElem? (i := 1163) (by decide +kernel)
theorem kf_RJ0_15 : Cond.fieldLink RJ0 15 "java/lang/String" "coder" "B" ∈ lw_tbl := List.mem_of_getElem? (i := 1165) (by decide +kernel)
theorem kf_RJ0_9 : Cond.fieldLink RJ0 9 "java/lang/String" "value" "[B" ∈ lw_tbl := List.mem_of_getElem? (i := 1166) (by decide +kernel)
theorem kx_yX4_setPlace : Cond.selects RX4 yX4_setPlace yX4_setPlace ∈ lw_tbl := List.mem_of_getElem? (i := 0) (by decide +kernel)
theorem kx_yX7_isPoint : Cond.selects RX7 yX7_isPoint yX7_isPoint ∈ lw_tbl := List.mem_of_getElem? (i := 1) (by decide +kernel)
theorem kx_yX7_groupNow : Cond.selects RX7 yX7_groupNow yX7_groupNow ∈ lw_tbl := List.mem_of_getElem? (i := 2) (by decide +kernel)
theorem kx_yX4_isMovedBy : Cond.selects RX4 yX4_isMovedBy yX4_isMovedBy ∈ lw_tbl := List.mem_of_getElem? (i := 3) (by decide +kernel)
theorem kx_yX4_axisBehind : Cond.selects RX4 yX4_axisBehind yX4_axisBehind ∈ lw_tbl := List.mem_of_getElem? (i := 4) (by decide +kernel)
theorem kx_yX0_findOrbits : Cond.selects RX0 yX0_findOrbits yX0_findOrbits ∈ lw_tbl := List.mem_of_getElem? (i := 5) (by decide +kernel)
theorem kx_yX0_findOrbit : Cond.selects RX0 yX0_findOrbit yX0_findOrbit ∈ lw_tbl := List.mem_of_getElem? (i := 6) (by decide +kernel)
theorem kx_yX0_findClasses : Cond.selects RX0 yX0_findClasses yX0_findClasses ∈ lw_tbl := List.mem_of_getElem? (i := 7) (by decide +kernel)
theorem kx_yX0_findClass : Cond.selects RX0 yX0_findClass yX0_findClass ∈ lw_tbl := List.mem_of_getElem? (i := 8) (by decide +kernel)
theorem kx_yX6_takeSign : Cond.selects RX6 yX6_takeSign yX6_takeSign ∈ lw_tbl := List.mem_of_getElem? (i := 9) (by decide +kernel)
theorem kx_yX6_takeClause : Cond.selects RX6 yX6_takeClause yX6_takeClause ∈ lw_tbl := List.mem_of_getElem? (i := 10) (by decide +kernel)
theorem kx_yX6_takeAxis : Cond.selects RX6 yX6_takeAxis yX6_takeAxis ∈ lw_tbl := List.mem_of_getElem? (i := 11) (by decide +kernel)
theorem kx_yX6_takeDigit : Cond.selects RX6 yX6_takeDigit yX6_takeDigit ∈ lw_tbl := List.mem_of_getElem? (i := 12) (by decide +kernel)
theorem kx_yX7_doClause : Cond.selects RX7 yX7_doClause yX7_doClause ∈ lw_tbl := List.mem_of_getElem? (i := 13) (by decide +kernel)
theorem kx_yX0_findSigns : Cond.selects RX0 yX0_findSigns yX0_findSigns ∈ lw_tbl := List.mem_of_getElem? (i := 14) (by decide +kernel)
theorem kx_yX0_findMadeOfSquares : Cond.selects RX0 yX0_findMadeOfSquares yX0_findMadeOfSquares ∈ lw_tbl := List.mem_of_getElem? (i := 15) (by decide +kernel)
theorem kx_yX0_reach : Cond.selects RX0 yX0_reach yX0_reach ∈ lw_tbl := List.mem_of_getElem? (i := 16) (by decide +kernel)
theorem kx_yX0_addFree : Cond.selects RX0 yX0_addFree yX0_addFree ∈ lw_tbl := List.mem_of_getElem? (i := 17) (by decide +kernel)
theorem kx_yX7_nearest : Cond.selects RX7 yX7_nearest yX7_nearest ∈ lw_tbl := List.mem_of_getElem? (i := 18) (by decide +kernel)
theorem kx_yX7_isAllAsSeen : Cond.selects RX7 yX7_isAllAsSeen yX7_isAllAsSeen ∈ lw_tbl := List.mem_of_getElem? (i := 19) (by decide +kernel)
theorem kx_yX4_replaceMark : Cond.selects RX4 yX4_replaceMark yX4_replaceMark ∈ lw_tbl := List.mem_of_getElem? (i := 20) (by decide +kernel)
theorem kx_yX4_takeBy : Cond.selects RX4 yX4_takeBy yX4_takeBy ∈ lw_tbl := List.mem_of_getElem? (i := 21) (by decide +kernel)
theorem kx_yX4_markAll : Cond.selects RX4 yX4_markAll yX4_markAll ∈ lw_tbl := List.mem_of_getElem? (i := 22) (by decide +kernel)
theorem kx_yX8_comes : Cond.selects RX8 yX8_comes yX8_comes ∈ lw_tbl := List.mem_of_getElem? (i := 23) (by decide +kernel)
theorem kx_yX8_pointAt : Cond.selects RX8 yX8_pointAt yX8_pointAt ∈ lw_tbl := List.mem_of_getElem? (i := 24) (by decide +kernel)
theorem kx_yX8_isPoint : Cond.selects RX8 yX8_isPoint yX8_isPoint ∈ lw_tbl := List.mem_of_getElem? (i := 25) (by decide +kernel)
theorem kx_yX8_markOf : Cond.selects RX8 yX8_markOf yX8_markOf ∈ lw_tbl := List.mem_of_getElem? (i := 26) (by decide +kernel)
theorem kx_yX8_finds : Cond.selects RX8 yX8_finds yX8_finds ∈ lw_tbl := List.mem_of_getElem? (i := 27) (by decide +kernel)
theorem kx_yX8_movedMany : Cond.selects RX8 yX8_movedMany yX8_movedMany ∈ lw_tbl := List.mem_of_getElem? (i := 28) (by decide +kernel)
theorem kx_yX8_goesTo : Cond.selects RX8 yX8_goesTo yX8_goesTo ∈ lw_tbl := List.mem_of_getElem? (i := 29) (by decide +kernel)
theorem kx_yX8_moved : Cond.selects RX8 yX8_moved yX8_moved ∈ lw_tbl := List.mem_of_getElem? (i := 30) (by decide +kernel)
theorem kx_yX8_orbitOf : Cond.selects RX8 yX8_orbitOf yX8_orbitOf ∈ lw_tbl := List.mem_of_getElem? (i := 31) (by decide +kernel)
theorem kx_yX8_clause : Cond.selects RX8 yX8_clause yX8_clause ∈ lw_tbl := List.mem_of_getElem? (i := 32) (by decide +kernel)
theorem kx_yX8_here : Cond.selects RX8 yX8_here yX8_here ∈ lw_tbl := List.mem_of_getElem? (i := 33) (by decide +kernel)
theorem kx_yX8_number : Cond.selects RX8 yX8_number yX8_number ∈ lw_tbl := List.mem_of_getElem? (i := 34) (by decide +kernel)
theorem kx_yX8_digit : Cond.selects RX8 yX8_digit yX8_digit ∈ lw_tbl := List.mem_of_getElem? (i := 35) (by decide +kernel)
theorem kx_yX8_comma : Cond.selects RX8 yX8_comma yX8_comma ∈ lw_tbl := List.mem_of_getElem? (i := 36) (by decide +kernel)
theorem kx_yX8_done : Cond.selects RX8 yX8_done yX8_done ∈ lw_tbl := List.mem_of_getElem? (i := 37) (by decide +kernel)
theorem kx_yX8_findsSigns : Cond.selects RX8 yX8_findsSigns yX8_findsSigns ∈ lw_tbl := List.mem_of_getElem? (i := 38) (by decide +kernel)
theorem kx_yX8_findsMakers : Cond.selects RX8 yX8_findsMakers yX8_findsMakers ∈ lw_tbl := List.mem_of_getElem? (i := 39) (by decide +kernel)
theorem kx_yX8_makesMore : Cond.selects RX8 yX8_makesMore yX8_makesMore ∈ lw_tbl := List.mem_of_getElem? (i := 40) (by decide +kernel)
theorem kx_yX8_isSign : Cond.selects RX8 yX8_isSign yX8_isSign ∈ lw_tbl := List.mem_of_getElem? (i := 41) (by decide +kernel)
theorem kx_yX8_spreads : Cond.selects RX8 yX8_spreads yX8_spreads ∈ lw_tbl := List.mem_of_getElem? (i := 42) (by decide +kernel)
theorem kx_yX8_toldSign : Cond.selects RX8 yX8_toldSign yX8_toldSign ∈ lw_tbl := List.mem_of_getElem? (i := 43) (by decide +kernel)
theorem kx_yX8_classes : Cond.selects RX8 yX8_classes yX8_classes ∈ lw_tbl := List.mem_of_getElem? (i := 44) (by decide +kernel)
theorem kx_yX8_classNumber : Cond.selects RX8 yX8_classNumber yX8_classNumber ∈ lw_tbl := List.mem_of_getElem? (i := 45) (by decide +kernel)
theorem kx_yX8_leastOf : Cond.selects RX8 yX8_leastOf yX8_leastOf ∈ lw_tbl := List.mem_of_getElem? (i := 46) (by decide +kernel)
theorem kx_yX8_orbits : Cond.selects RX8 yX8_orbits yX8_orbits ∈ lw_tbl := List.mem_of_getElem? (i := 47) (by decide +kernel)
theorem kx_yX8_isHanded : Cond.selects RX8 yX8_isHanded yX8_isHanded ∈ lw_tbl := List.mem_of_getElem? (i := 48) (by decide +kernel)
theorem kx_yX8_nearest : Cond.selects RX8 yX8_nearest yX8_nearest ∈ lw_tbl := List.mem_of_getElem? (i := 49) (by decide +kernel)
theorem kx_yX8_classMany : Cond.selects RX8 yX8_classMany yX8_classMany ∈ lw_tbl := List.mem_of_getElem? (i := 50) (by decide +kernel)
theorem kx_yX8_motionOf : Cond.selects RX8 yX8_motionOf yX8_motionOf ∈ lw_tbl := List.mem_of_getElem? (i := 51) (by decide +kernel)
theorem kx_yX8_hasOf : Cond.selects RX8 yX8_hasOf yX8_hasOf ∈ lw_tbl := List.mem_of_getElem? (i := 52) (by decide +kernel)
theorem kx_yX8_isSeen : Cond.selects RX8 yX8_isSeen yX8_isSeen ∈ lw_tbl := List.mem_of_getElem? (i := 53) (by decide +kernel)
theorem kx_yX8_happens : Cond.selects RX8 yX8_happens yX8_happens ∈ lw_tbl := List.mem_of_getElem? (i := 54) (by decide +kernel)
theorem kx_yX8_goesBy : Cond.selects RX8 yX8_goesBy yX8_goesBy ∈ lw_tbl := List.mem_of_getElem? (i := 55) (by decide +kernel)
theorem nf_RX7_100 : Cond.fieldLinkNest RX7 100 "ShapeMoves$Shape" "places" "[I" "ShapeMoves" ∈ lw_tbl := List.mem_of_getElem? (i := 94) (by decide +kernel)
theorem nf_RX7_85 : Cond.fieldLinkNest RX7 85 "ShapeMoves$Shape" "marks" "[I" "ShapeMoves" ∈ lw_tbl := List.mem_of_getElem? (i := 96) (by decide +kernel)
theorem nf_RX7_74 : Cond.fieldLinkNest RX7 74 "ShapeMoves$Shape" "size" "I" "ShapeMoves" ∈ lw_tbl := List.mem_of_getElem? (i := 98) (by decide +kernel)
theorem nf_RX0_66 : Cond.fieldLinkNest RX0 66 "ShapeMoves$Shape" "size" "I" "ShapeMoves" ∈ lw_tbl := List.mem_of_getElem? (i := 99) (by decide +kernel)
theorem nf_RX7_235 : Cond.fieldLinkNest RX7 235 "ShapeMoves$Rows" "first" "[I" "ShapeMoves" ∈ lw_tbl := List.mem_of_getElem? (i := 115) (by decide +kernel)
theorem nf_RX7_232 : Cond.fieldLinkNest RX7 232 "ShapeMoves$Rows" "second" "[I" "ShapeMoves" ∈ lw_tbl := List.mem_of_getElem? (i := 117) (by decide +kernel)
theorem nf_RX7_231 : Cond.fieldLinkNest RX7 231 "ShapeMoves$Rows" "size" "I" "ShapeMoves" ∈ lw_tbl := List.mem_of_getElem? (i := 119) (by decide +kernel)
theorem nf_RX7_67 : Cond.fieldLinkNest RX7 67 "ShapeMoves$Setup" "shape" "LShapeMoves$Shape;" "ShapeMoves" ∈ lw_tbl := List.mem_of_getElem? (i := 128) (by decide +kernel)
theorem nf_RX7_209 : Cond.fieldLinkNest RX7 209 "ShapeMoves$Setup" "seen" "LShapeMoves$Rows;" "ShapeMoves" ∈ lw_tbl := List.mem_of_getElem? (i := 130) (by decide +kernel)
theorem nf_RX7_252 : Cond.fieldLinkNest RX7 252 "ShapeMoves$Setup" "events" "LShapeMoves$Rows;" "ShapeMoves" ∈ lw_tbl := List.mem_of_getElem? (i := 132) (by decide +kernel)
theorem nf_RX7_266 : Cond.fieldLinkNest RX7 266 "ShapeMoves$Setup" "book" "LShapeMoves$Rows;" "ShapeMoves" ∈ lw_tbl := List.mem_of_getElem? (i := 134) (by decide +kernel)
theorem nf_RX7_170 : Cond.fieldLinkNest RX7 170 "ShapeMoves$Group" "members" "[Z" "ShapeMoves" ∈ lw_tbl := List.mem_of_getElem? (i := 151) (by decide +kernel)
theorem nf_RX7_181 : Cond.fieldLinkNest RX7 181 "ShapeMoves$Group" "byNumber" "[I" "ShapeMoves" ∈ lw_tbl := List.mem_of_getElem? (i := 153) (by decide +kernel)
theorem nf_RX7_159 : Cond.fieldLinkNest RX7 159 "ShapeMoves$Group" "size" "I" "ShapeMoves" ∈ lw_tbl := List.mem_of_getElem? (i := 155) (by decide +kernel)
theorem nf_RX7_97 : Cond.fieldLinkNest RX7 97 "ShapeMoves$Group" "orbits" "[I" "ShapeMoves" ∈ lw_tbl := List.mem_of_getElem? (i := 158) (by decide +kernel)
theorem nf_RX7_163 : Cond.fieldLinkNest RX7 163 "ShapeMoves$Group" "orbitsInAll" "I" "ShapeMoves" ∈ lw_tbl := List.mem_of_getElem? (i := 160) (by decide +kernel)
theorem nf_RX7_184 : Cond.fieldLinkNest RX7 184 "ShapeMoves$Group" "classLeast" "[I" "ShapeMoves" ∈ lw_tbl := List.mem_of_getElem? (i := 162) (by decide +kernel)
theorem nf_RX7_190 : Cond.fieldLinkNest RX7 190 "ShapeMoves$Group" "classList" "[I" "ShapeMoves" ∈ lw_tbl := List.mem_of_getElem? (i := 164) (by decide +kernel)
theorem nf_RX7_160 : Cond.fieldLinkNest RX7 160 "ShapeMoves$Group" "classes" "I" "ShapeMoves" ∈ lw_tbl := List.mem_of_getElem? (i := 166) (by decide +kernel)
theorem nf_RX7_103 : Cond.fieldLinkNest RX7 103 "ShapeMoves$Text" "size" "I" "ShapeMoves" ∈ lw_tbl := List.mem_of_getElem? (i := 209) (by decide +kernel)
theorem nf_RX7_111 : Cond.fieldLinkNest RX7 111 "ShapeMoves$Text" "clauses" "I" "ShapeMoves" ∈ lw_tbl := List.mem_of_getElem? (i := 213) (by decide +kernel)
theorem nf_RX7_278 : Cond.fieldLinkNest RX7 278 "ShapeMoves$Tape" "items" "[J" "ShapeMoves" ∈ lw_tbl := List.mem_of_getElem? (i := 234) (by decide +kernel)
theorem nf_RX7_272 : Cond.fieldLinkNest RX7 272 "ShapeMoves$Tape" "sort" "I" "ShapeMoves" ∈ lw_tbl := List.mem_of_getElem? (i := 236) (by decide +kernel)
theorem nm_RX7_11 : Cond.methodLinkNest RX7 11 yX3_init "ShapeMoves" ∈ lw_tbl := List.mem_of_getElem? (i := 83) (by decide +kernel)
theorem nm_RX3_9 : Cond.methodLinkNest RX3 9 yX4_init "ShapeMoves" ∈ lw_tbl := List.mem_of_getElem? (i := 89) (by decide +kernel)
theorem nm_RX7_27 : Cond.methodLinkNest RX7 27 yX0_init "ShapeMoves" ∈ lw_tbl := List.mem_of_getElem? (i := 146) (by decide +kernel)
theorem nm_RX7_37 : Cond.methodLinkNest RX7 37 yX4_init "ShapeMoves" ∈ lw_tbl := List.mem_of_getElem? (i := 200) (by decide +kernel)
theorem nm_RX7_47 : Cond.methodLinkNest RX7 47 yX6_init "ShapeMoves" ∈ lw_tbl := List.mem_of_getElem? (i := 203) (by decide +kernel)
theorem nm_RX7_58 : Cond.methodLinkNest RX7 58 yX5_init "ShapeMoves" ∈ lw_tbl := List.mem_of_getElem? (i := 229) (by decide +kernel)
end
section
/-! THE ENVIRONMENT (launch; classes; addresses of the world's cells; array classes; which cells may be written; addresses of what stands still), THE STATE (ints and longs, by cell and place), THE WORLD (79 cells: the system's 0 .. 63, the reference's 64 .. 78) -/
/-- the words that stay whatever is called -/
def lw_g : List Cond := lw_tbl.filter goodWord
theorem mg {w : Cond} (h : w ∈ lw_tbl) (hg : goodWord w = true) : w ∈ lw_g := List.mem_filter.mpr ⟨h, hg⟩
theorem lw_g_good : ∀ w ∈ lw_g, goodWord w = true := fun w h => (List.mem_filter.mp h).2
abbrev St : Type := (Nat → Nat → Int32) × (Nat → Nat → Int64)
abbrev Ev : Type := Launch × va_G × (Nat → Nat) × (Nat → ClassId) × (Nat → Prop) × (Nat → Nat)
abbrev ev_l (E : Ev) : Launch := E.1
abbrev ev_D (E : Ev) : va_G := E.2.1
abbrev ev_a (E : Ev) : Nat → Nat := E.2.2.1
abbrev ev_c (E : Ev) : Nat → ClassId := E.2.2.2.1
abbrev ev_A (E : Ev) : Nat → Prop := E.2.2.2.2.1
abbrev ev_s (E : Ev) : Nat → Nat := E.2.2.2.2.2
def kdL : List (Nat × Nat) := [(0,0), (1,0), (1,0), (2,0), (12,24), (12,8), (2,0), (12,24), (12,8), (2,0), (12,24), (12,8),
  (3,0), (12,5), (12,5), (3,0), (12,8), (12,8), (3,0), (12,8), (12,8), (3,0), (12,5), (12,5), (3,0), (12,8), (12,8), (3,0), (12,8), (12,8),
  (4,0), (10,48), (12,48), (12,48), (12,8), (12,48), (12,48), (12,48), (12,48), (4,0), (10,48), (12,48), (12,48), (12,8), (12,48), (12,48), (12,48), (12,48),
  (5,0), (11,100), (12,60), (14,6), (7,0), (13,60), (7,0), (13,60), (7,0), (13,60), (7,0), (13,60), (7,0), (13,60), (7,0), (13,60),
  (8,0), (12,78), (12,78), (12,78), (12,48), (10,48), (12,48), (10,48), (12,48), (12,3072), (12,100), (12,60), (12,6), (12,6), (13,360)]
def kd (c : Nat) : Nat × Nat := kdL.getD c (99, 0)
def cellE (E : Ev) (k n c : Nat) (f : Nat → Int32) (g : Nat → Int64) : va_E := match k with
  | 0 => .inr (6, [.ref (ev_a E 1), .ref (ev_a E 2), .int (f 2), .ref (ev_a E 30), .int (f 4), .ref (ev_a E 9), .ref (ev_a E 39), .ref (ev_a E 48), .ref (ev_a E 51)])
  | 1 => .inr (2, [.ref (ev_a E (3 * c)), .ref (ev_a E (9 * c + 3)), .ref (ev_a E (9 * c + 6)), .ref (ev_a E (9 * c + 9))])
  | 2 => .inr (3, [.ref (ev_a E (c + 1)), .ref (ev_a E (c + 2)), .int (f 2)])
  | 3 => .inr (1, [.ref (ev_a E (c + 1)), .ref (ev_a E (c + 2)), .int (f 2)])
  | 4 => .inr (0, [.ref (ev_a E (c + 1)), .ref (ev_a E (c + 2)), .int (f 2), .ref (ev_a E (c + 3)), .ref (ev_a E (c + 4)), .int (f 5), .ref (ev_a E (c + 5)), .ref (ev_a E (c + 6)), .int (f 8), .ref (ev_a E (c + 7)), .ref (ev_a E (c + 8)), .int (f 11), .int (f 12)])
  | 5 => .inr (5, [.ref (ev_a E 49), .int (f 1), .int (f 2), .ref (ev_a E 50), .int (f 4)])
  | 7 => .inr (4, [.ref (ev_a E (c + 1)), .int (f 1), .int (f 2)])
  | 8 => .inr (7, [.ref (ev_a E 65), .ref (ev_a E 66), .ref (ev_a E 67), .int (f 3), .ref (ev_a E 68), .ref (ev_a E 69), .int (f 6), .ref (ev_a E 70), .int (f 8), .ref (ev_a E 71), .ref (ev_a E 72), .ref (ev_a E 73), .int (f 12), .ref (ev_a E 74), .int (f 14), .int (f 15), .int (f 16), .ref (ev_a E 75), .int (f 18), .ref (ev_a E 76), .ref (ev_a E 77), .ref (ev_a E 78)])
  | 10 => .inl (ev_c E 0, n, .inl f)
  | 11 => .inl (ev_c E 1, n, .inl f)
  | 12 => .inl (ev_c E 2, n, .inl f)
  | 13 => .inl (ev_c E 3, n, .inr (.inl g))
  | _ => .inl (ev_c E 4, n, .inr (.inr (.inr (.inr (fun i => some (ev_a E (52 + 2 * i)))))))
def wd (E : Ev) (σ : St) : va_W := (List.range 79).map (fun c => (ev_a E c, cellE E (kd c).1 (kd c).2 c (σ.1 c) (σ.2 c)))
theorem kd_lt {c : Nat} (h : (kd c).1 ≠ 99) : c < 79 := by
  rcases Nat.lt_or_ge c 79 with q | q
  · exact q
  · exact absurd (by unfold kd; rw [List.getD_eq_getElem?_getD, List.getElem?_eq_none (show kdL.length ≤ c from q)]; rfl) h
theorem wd_get {E : Ev} {σ : St} {c : Nat} (h : c < 79) : (wd E σ)[c]? = some (ev_a E c, cellE E (kd c).1 (kd c).2 c (σ.1 c) (σ.2 c)) := by
  simp [wd, h]
def sI (σ : St) (c : Nat) (f : Nat → Int32) : St := (fun q => if q = c then f else σ.1 q, σ.2)
def sL (σ : St) (c : Nat) (g : Nat → Int64) : St := (σ.1, fun q => if q = c then g else σ.2 q)
theorem wd_set {E : Ev} {σ σ' : St} {c : Nat} (h : c < 79) (h1 : ∀ q, q ≠ c → σ'.1 q = σ.1 q ∧ σ'.2 q = σ.2 q) {y : va_E} (hy : y = cellE E (kd c).1 (kd c).2 c (σ'.1 c) (σ'.2 c)) : (wd E σ).set c (ev_a E c, y) = wd E σ' := by
  subst hy
  apply List.ext_getElem?
  intro i
  by_cases hi : i = c
  · subst hi
    simp [wd, h, List.getElem?_set]
  · rw [List.getElem?_set_ne (fun e => hi e.symm)]
    simp only [wd, List.getElem?_map]
    cases hq : (List.range 79)[i]? with
    | none => rfl
    | some j =>
      have e : j = i := by
        have := List.getElem?_eq_some_iff.mp hq
        obtain ⟨w1, w2⟩ := this
        simpa using w2.symm
      subst e
      simp [h1 j hi]
theorem sI_self {σ : St} {c : Nat} {f : Nat → Int32} : (sI σ c f).1 c = f := by simp [sI]
theorem sI_ne {σ : St} {c q : Nat} {f : Nat → Int32} (h : q ≠ c) : (sI σ c f).1 q = σ.1 q := by simp [sI, h]
theorem sI_2 {σ : St} {c : Nat} {f : Nat → Int32} : (sI σ c f).2 = σ.2 := rfl
theorem sL_self {σ : St} {c : Nat} {g : Nat → Int64} : (sL σ c g).2 c = g := by simp [sL]
theorem sL_ne {σ : St} {c q : Nat} {g : Nat → Int64} (h : q ≠ c) : (sL σ c g).2 q = σ.2 q := by simp [sL, h]
theorem sL_1 {σ : St} {c : Nat} {g : Nat → Int64} : (sL σ c g).1 = σ.1 := rfl
abbrev tyE (E : Ev) : List (ClassId × FieldType) := [(ev_c E 0, .boolean), (ev_c E 1, .byte), (ev_c E 2, .int), (ev_c E 3, .long), (ev_c E 4, .object "ShapeMoves$Tape")]
/-- what links to nest mates' own members -/
def nestW : List Cond := [Cond.methodLinkNest RX7 11 yX3_init "ShapeMoves", Cond.methodLinkNest RX3 9 yX4_init "ShapeMoves", Cond.fieldLinkNest RX7 100 "ShapeMoves$Shape" "places" "[I" "ShapeMoves", Cond.fieldLinkNest RX7 85 "ShapeMoves$Shape" "marks" "[I" "ShapeMoves", Cond.fieldLinkNest RX7 74 "ShapeMoves$Shape" "size" "I" "ShapeMoves", Cond.fieldLinkNest RX0 66 "ShapeMoves$Shape" "size" "I" "ShapeMoves", Cond.fieldLinkNest RX7 235 "ShapeMoves$Rows" "first" "[I" "ShapeMoves", Cond.fieldLinkNest RX7 232 "ShapeMoves$Rows" "second" "[I" "ShapeMoves", Cond.fieldLinkNest RX7 231 "ShapeMoves$Rows" "size" "I" "ShapeMoves", Cond.fieldLinkNest RX7 67 "ShapeMoves$Setup" "shape" "LShapeMoves$Shape;" "ShapeMoves", Cond.fieldLinkNest RX7 209 "ShapeMoves$Setup" "seen" "LShapeMoves$Rows;" "ShapeMoves", Cond.fieldLinkNest RX7 252 "ShapeMoves$Setup" "events" "LShapeMoves$Rows;" "ShapeMoves", Cond.fieldLinkNest RX7 266 "ShapeMoves$Setup" "book" "LShapeMoves$Rows;" "ShapeMoves", Cond.methodLinkNest RX7 27 yX0_init "ShapeMoves", Cond.fieldLinkNest RX7 170 "ShapeMoves$Group" "members" "[Z" "ShapeMoves", Cond.fieldLinkNest RX7 181 "ShapeMoves$Group" "byNumber" "[I" "ShapeMoves", Cond.fieldLinkNest RX7 159 "ShapeMoves$Group" "size" "I" "ShapeMoves", Cond.fieldLinkNest RX7 97 "ShapeMoves$Group" "orbits" "[I" "ShapeMoves", Cond.fieldLinkNest RX7 163 "ShapeMoves$Group" "orbitsInAll" "I" "ShapeMoves", Cond.fieldLinkNest RX7 184 "ShapeMoves$Group" "classLeast" "[I" "ShapeMoves", Cond.fieldLinkNest RX7 190 "ShapeMoves$Group" "classList" "[I" "ShapeMoves", Cond.fieldLinkNest RX7 160 "ShapeMoves$Group" "classes" "I" "ShapeMoves", Cond.methodLinkNest RX7 37 yX4_init "ShapeMoves", Cond.methodLinkNest RX7 47 yX6_init "ShapeMoves", Cond.fieldLinkNest RX7 103 "ShapeMoves$Text" "size" "I" "ShapeMoves", Cond.fieldLinkNest RX7 111 "ShapeMoves$Text" "clauses" "I" "ShapeMoves", Cond.methodLinkNest RX7 58 yX5_init "ShapeMoves", Cond.fieldLinkNest RX7 278 "ShapeMoves$Tape" "items" "[J" "ShapeMoves", Cond.fieldLinkNest RX7 272 "ShapeMoves$Tape" "sort" "I" "ShapeMoves"]
def nestOk (U : State) : Prop := ∀ w ∈ nestW, va_Nw w U
def jw_WAYS : List Int32 := [0, 1, 2, 0, 2, 1, 1, 0, 2, 1, 2, 0, 2, 0, 1, 2, 1, 0]
def jw_TURN : List Int32 := [1, -1, -1, 1, 1, -1]
def jw_BACK : List Int32 := [0, 1, 2, 4, 3, 5]
def jw_TEXT : List Int32 := [48, 49, 50, 48, 50, 49, 49, 48, 50, 49, 50, 48, 50, 48, 49, 50, 49, 48]
/-- what stands still: statics, their arrays, the reference's text -/
def Sta (E : Ev) (U : State) (H : Heap) : Prop :=
  va_Z RX1 "WAYS" "[I" (.ref (ev_s E 0)) (ev_A E) U H ∧ va_T .int (ev_s E 0) 18 (fun j => .int (jw_WAYS.getD j 0)) (ev_A E) U H ∧
  va_Z RX1 "TURN_OF_WAY" "[I" (.ref (ev_s E 1)) (ev_A E) U H ∧ va_T .int (ev_s E 1) 6 (fun j => .int (jw_TURN.getD j 0)) (ev_A E) U H ∧
  va_Z RX1 "WAY_BACK" "[I" (.ref (ev_s E 2)) (ev_A E) U H ∧ va_T .int (ev_s E 2) 6 (fun j => .int (jw_BACK.getD j 0)) (ev_A E) U H ∧
  va_Z "java/lang/String" "COMPACT_STRINGS" "Z" (.int 1) (ev_A E) U H ∧ vk_S 1 [18] [jw_TEXT] (fun _ => ev_s E 3) (fun _ => ev_s E 4) (ev_A E) U H ∧
  vk_R RX8 62 "012021102120201210" (ev_s E 3) U ∧ nestOk U
theorem nest_warm {s U : State} (hW : s.WarmedH U.vm) (h : nestOk s) : nestOk U := by
  intro w hw
  have h1 := h w hw
  simp only [nestW, List.mem_cons, List.not_mem_nil, or_false] at hw
  rcases hw with rfl | rfl | rfl | rfl | rfl | rfl | rfl | rfl | rfl | rfl | rfl | rfl | rfl | rfl | rfl | rfl | rfl | rfl | rfl | rfl | rfl | rfl | rfl | rfl | rfl | rfl | rfl | rfl | rfl <;> first | exact va_Nw.warmF hW h1 | exact va_Nw.warmM hW h1
theorem Sta.go {E : Ev} {s U : State} {H : Heap} {locs : List Loc} (h : Sta E s s.heap) (hS : va_S (ev_A E) s.heap H locs) (hW : s.WarmedH U.vm) : Sta E U H := by
  obtain ⟨h1, h2, h3, h4, h5, h6, h7, h8, h9, h10⟩ := h
  have hv := hW.alike
  exact ⟨(h1.moved hv).kept hS.2.1, (h2.moved hv).kept hS.2.1, (h3.moved hv).kept hS.2.1, (h4.moved hv).kept hS.2.1, (h5.moved hv).kept hS.2.1, (h6.moved hv).kept hS.2.1, (h7.moved hv).kept hS.2.1, (h8.moved hv).kept hS.2.1, vk_R.warm hW h9, nest_warm hW h10⟩
def OkE (E : Ev) : Prop := (∀ i j, i < 79 → j < 79 → ev_a E i = ev_a E j → i = j) ∧ ∀ c, c < 79 → ev_A E (ev_a E c)
theorem wd_len {E : Ev} {σ : St} : (wd E σ).length = 79 := by simp [wd]
theorem wd_fst {E : Ev} {σ : St} {i : Nat} {q : Nat × va_E} (h : (wd E σ)[i]? = some q) : i < 79 ∧ q.1 = ev_a E i := by
  have hi : i < 79 := by
    have := (List.getElem?_eq_some_iff.mp h).1
    rwa [wd_len] at this
  rw [wd_get hi] at h
  exact ⟨hi, by rw [← Option.some.inj h]⟩
theorem OkE.D {E : Ev} (h : OkE E) (σ : St) : va_D (ev_A E) (wd E σ) := by
  refine ⟨fun i j x y hx hy e => ?_, fun k q hq => ?_⟩
  · obtain ⟨a1, a2⟩ := wd_fst hx
    obtain ⟨b1, b2⟩ := wd_fst hy
    exact h.1 i j a1 b1 (by rw [← a2, ← b2, e])
  · obtain ⟨a1, a2⟩ := wd_fst hq
    rw [a2]
    exact h.2 k a1
/-- what a state's tables and still cells say -/
def Sx (E : Ev) (U : State) : Prop := va_K (ev_D E) vwCl (tyE E) U ∧ Sta E U U.heap ∧ OkE E
def Pic (E : Ev) (σ : St) (U : State) : Prop := va_P (ev_D E) vwCl (wd E σ) U.heap ∧ Sx E U
def Qg (E : Ev) (R : Option Value → St → Prop) : Array Value → State → Outcome → State → Prop := fun _ st oc t => (∃ (r : Option Value) (σ' : St), oc = .returned r ∧ R r σ' ∧ va_P (ev_D E) vwCl (wd E σ') t.heap) ∧ va_F (ev_A E) st t
def rmD (d : Nat) : Room := { frames := d, cells := 0, slots := 0, locals := 38 * d }
/-- A METHOD'S CONTRACT: from the world of σ, with the arguments av, it returns, and R holds of the answer and the world behind it -/
def Con (E : Ev) (d : Nat) (y : MethodName) (cc : ByteArray) (nL : Nat) (ret : Option FieldType) (av : List Value) (σ : St) (R : Option Value → St → Prop) : Prop :=
  Met (ev_l E) y (Cond.code y cc nL ret :: lw_g) (rmD d) (va_Pc av (Pic E σ)) (Qg E R) 0 0 (ev_A E)
abbrev Mx : Type := Program × Env × State × MethodId × Array Value × List Frame × Method × Code
def Cx (E : Ev) (X : Mx) (cc : ByteArray) (own : String) (nL : Nat) (ret : Option FieldType) : Prop :=
  X.1.tables.exec = Jvm.exec ∧ X.2.2.2.2.2.2.2.code = cc ∧ X.2.2.2.2.2.2.1.sig.returnType = ret ∧ X.2.2.2.2.2.2.1.locks = false ∧ X.2.2.2.2.2.2.2.maxLocals = nL ∧ X.2.2.1.vm.findClass own = some X.2.2.2.1.cls ∧ (∀ w ∈ lw_g, w.before X.2.2.2.2.1 X.2.2.1 = true) ∧ Sx E X.2.2.1
/-- inside a method: at pc, with locals L, stack st and the world of σ, it comes to an end with R -/
def G (E : Ev) (d : Nat) (X : Mx) (nL : Nat) (R : Option Value → St → Prop) (σ : St) (pc : Nat) (L : List (Nat × Value)) (st : List Value) : Prop :=
  ∀ (H : Heap) (locs : List Loc) (ls : Array Slot), va_P (ev_D E) vwCl (wd E σ) H → va_S (ev_A E) X.2.2.1.heap H locs → lv_has ls nL L →
    W X.1 (ev_l E) X.2.1 (rmD d) X.2.2.1 X.2.2.2.1 X.2.2.2.2.1 X.2.2.2.2.2.1 X.2.2.2.2.2.2.1 X.2.2.2.2.2.2.2 H locs 0 0 (MQ X.2.2.2.2.2.1 (Qg E R) X.2.2.2.2.1 X.2.2.1 0 0 (ev_A E)) (F0 X.2.2.2.1 pc ls st)
theorem Sx.blind {E : Ev} {U V : State} (hv : U.vm.Alike V.vm) (hh : V.heap = U.heap) (h9 : vk_R RX8 62 "012021102120201210" (ev_s E 3) U → vk_R RX8 62 "012021102120201210" (ev_s E 3) V) (h10 : nestOk U → nestOk V) (h : Sx E U) : Sx E V := by
  obtain ⟨hK, ⟨a1, a2, a3, a4, a5, a6, a7, a8, a9, a10⟩, hO⟩ := h
  refine ⟨va_K.moved hv hK, ?_, hO⟩
  rw [hh]
  exact ⟨a1.moved hv, a2.moved hv, a3.moved hv, a4.moved hv, a5.moved hv, a6.moved hv, a7.moved hv, a8.moved hv, h9 a9, h10 a10⟩
theorem pc_blind {E : Ev} {av : List Value} {σ : St} : FrameBlind (va_Pc av (Pic E σ)) := by
  intro a U g mk q
  obtain ⟨q1, q2, q3⟩ := q
  refine ⟨q1, q2, Sx.blind (U := U) (V := U.calling g mk a) (Vm.Alike.refl U.vm) rfl (fun h => vk_R.same (u := U) (U := U.calling g mk a) rfl h) (fun h w hw => ?_) q3⟩
  have h1 := h w hw
  simp only [nestW, List.mem_cons, List.not_mem_nil, or_false] at hw
  rcases hw with rfl | rfl | rfl | rfl | rfl | rfl | rfl | rfl | rfl | rfl | rfl | rfl | rfl | rfl | rfl | rfl | rfl | rfl | rfl | rfl | rfl | rfl | rfl | rfl | rfl | rfl | rfl | rfl | rfl <;> exact va_Nw.same (u := U) (U := U.calling g mk a) rfl rfl h1
theorem Sx.go {E : Ev} {s U : State} {H : Heap} {locs : List Loc} (h : Sx E s) (hS : va_S (ev_A E) s.heap H locs) (hW : s.WarmedH U.vm) (hU : U.heap = H) : Sx E U :=
  ⟨va_K.moved hW.alike h.1, by rw [hU]; exact h.2.1.go hS hW, h.2.2⟩
def L0 (av : List Value) : List (Nat × Value) := lv_args 0 av
set_option maxHeartbeats 4000000 in
theorem con_of {E : Ev} {d : Nat} {y : MethodName} {cc : ByteArray} {nL : Nat} {ret : Option FieldType} {av : List Value} {σ : St} {R : Option Value → St → Prop} (hy : plainName y.cls = true) (hl : (lg_sl av).length ≤ nL)
    (body : ∀ X : Mx, X.2.2.2.2.2.2.1.name = y.name → Cx E X cc y.cls nL ret → G E d X nL R σ 0 (L0 av) []) : Con E d y cc nL ret av σ R := by
  refine Met.ofW (cc := cc) (maxL := nL) (ret := ret) hy rfl ?_
  intro p e s m args below meth c s₁ B hml hv
  obtain ⟨rfl, hP, hSx⟩ := hv
  have hts := atoms_spec (ws := Cond.code y cc nL ret :: lw_g) B.pre
  have hown : s.vm.findClass y.cls = some m.cls := findClass_of_methodNamed B.named
  have C : Cx E (p, e, s, m, av.toArray, below, meth, c) cc y.cls nL ret := ⟨B.exec, B.bytes, B.returns, B.notSynchronized, hml, hown, fun w hw => hts w (List.mem_cons_of_mem _ hw), hSx⟩
  have h := body (p, e, s, m, av.toArray, below, meth, c) (name_of_methodNamed B.named B.method).1 C
  have hl := lv_entry av (n := nL) hl
  rw [lg_entry_eq]
  exact h s.heap [] _ hP va_S.rf hl
end
section
/-! THE RULES: a row an instruction, over G (made by wip/whole/gen/rules.py) -/
def bI (b : Bool) : Int32 := match b with
  | true => 1
  | false => 0
def stL (L : List (Nat × Value)) (i : Nat) (v : Value) : List (Nat × Value) := (i, v) :: L.filter (fun q => !(q.1 == i) && !(q.1 + 1 == i && q.2.category == 2))
def stL2 (L : List (Nat × Value)) (i : Nat) (v : Value) : List (Nat × Value) := (i, v) :: L.filter (fun q => !(q.1 == i) && (!(q.1 == i + 1) && !(q.1 + 1 == i && q.2.category == 2)))
def subL (L : List (Nat × Value)) : List (Nat × Value) → Prop
  | [] => True
  | q :: t => L.lookup q.1 = some q.2 ∧ subL L t
theorem lookup_mem {L : List (Nat × Value)} {i : Nat} {v : Value} (h : L.lookup i = some v) : (i, v) ∈ L := by
  induction L with
  | nil => cases h
  | cons q t ih =>
    obtain ⟨a, w⟩ := q
    rw [List.lookup_cons] at h
    by_cases e : i = a
    · subst e
      simp at h
      rw [h]
      exact List.mem_cons_self
    · have e2 : (i == a) = false := by simp [e]
      rw [e2] at h
      exact List.mem_cons_of_mem _ (ih h)
theorem lvl {ls : Array Slot} {nL : Nat} {L : List (Nat × Value)} (h : lv_has ls nL L) {i : Nat} {v : Value} (hl : L.lookup i = some v) : ls[i]? = some (.val v) := h.2.2 (i, v) (lookup_mem hl)
theorem subL_mem {L L' : List (Nat × Value)} (h : subL L L') : ∀ q ∈ L', L.lookup q.1 = some q.2 := by
  induction L' with
  | nil => intro q hq; cases hq
  | cons a t ih =>
    intro q hq
    rcases List.mem_cons.mp hq with e | e
    · rw [e]; exact h.1
    · exact ih h.2 q e
theorem nI_lt32 {a : Nat} (h : a < 2 ^ 31) : (nI a).toInt = (a : Int) := nI_toInt h
theorem kd_lt2 {a k n : Nat} (h : kd a = (k, n)) (hk : k ≠ 99) : a < 79 := kd_lt (by rw [h]; exact hk)
section RU
variable {E : Ev} {d : Nat} {X : Mx} {cc : ByteArray} {own : String} {nL : Nat} {ret : Option FieldType} {R : Option Value → St → Prop} {σ : St} {pc : Nat} {L : List (Nat × Value)} {st : List Value}
theorem g_loc (L' : List (Nat × Value)) (h : subL L L') (k : G E d X nL R σ pc L' st) : G E d X nL R σ pc L st := fun H locs ls hP hS hl => k H locs ls hP hS ⟨hl.1, hl.2.1, fun q hq => hl.2.2 q (lookup_mem (subL_mem h q hq))⟩
theorem g_eq {st' : List Value} (h : st = st') (k : G E d X nL R σ pc L st') : G E d X nL R σ pc L st := h ▸ k
theorem g_eqS {σ' : St} (h : σ = σ') (k : G E d X nL R σ' pc L st) : G E d X nL R σ pc L st := h ▸ k
theorem g_post {R' : Option Value → St → Prop} (h : ∀ r σ', R' r σ' → R r σ') (k : G E d X nL R' σ pc L st) : G E d X nL R σ pc L st := by
  intro H locs ls hP hS hl T hT XX
  obtain ⟨t, a, o, b1, b2, b3, b4⟩ := k H locs ls hP hS hl T hT XX
  obtain ⟨⟨r, σ', c1, c2, c3⟩, c4⟩ := b3
  exact ⟨t, a, o, b1, b2, ⟨⟨r, σ', c1, h r σ' c2, c3⟩, c4⟩, b4⟩
theorem g_ic (C : Cx E X cc own nL ret) {n : Nat} (hdg : decode cc pc = .ok (.iconst (n : Int), 1)) (hn : n < 6 := by decide) (k : G E d X nL R σ (pc + 1) (L) (.int (nI n) :: st)) : G E d X nL R σ (pc) (L) (st) := fun H locs ls hP hS hl => lv_iconst C.1 C.2.1 hdg (by match n, hn with | 0, _ => rfl | 1, _ => rfl | 2, _ => rfl | 3, _ => rfl | 4, _ => rfl | 5, _ => rfl) (k H locs ls hP hS hl)
theorem g_icz (C : Cx E X cc own nL ret) {n : Int} {v : Int32} (hdg : decode cc pc = .ok (.iconst n, 1)) (hv : Int32.ofInt n = v) (k : G E d X nL R σ (pc + 1) (L) (.int v :: st)) : G E d X nL R σ (pc) (L) (st) := fun H locs ls hP hS hl => lv_iconst C.1 C.2.1 hdg hv (k H locs ls hP hS hl)
theorem g_bp (C : Cx E X cc own nL ret) {n : Int} (v : Int32) (hdg : decode cc pc = .ok (.bipush n, 2)) (hv : (Int8.ofInt n).toInt32 = v) (k : G E d X nL R σ (pc + 2) (L) (.int v :: st)) : G E d X nL R σ (pc) (L) (st) := fun H locs ls hP hS hl => lv_bipush C.1 C.2.1 hdg hv (k H locs ls hP hS hl)
theorem g_sp (C : Cx E X cc own nL ret) {n : Int} (v : Int32) (hdg : decode cc pc = .ok (.sipush n, 3)) (hv : (Int16.ofInt n).toInt32 = v) (k : G E d X nL R σ (pc + 3) (L) (.int v :: st)) : G E d X nL R σ (pc) (L) (st) := fun H locs ls hP hS hl => lv_sipush C.1 C.2.1 hdg hv (k H locs ls hP hS hl)
theorem g_lc (C : Cx E X cc own nL ret) {n : Fin 2} {v : Int64} (hdg : decode cc pc = .ok (.lconst n, 1)) (hv : Int64.ofNat (n : Nat) = v) (k : G E d X nL R σ (pc + 1) (L) (.long v :: st)) : G E d X nL R σ (pc) (L) (st) := fun H locs ls hP hS hl => lv_lconst C.1 C.2.1 hdg hv (k H locs ls hP hS hl)
theorem g_ldc2 (C : Cx E X cc own nL ret) {ix : Nat} (v : Int64) (hdg : decode cc pc = .ok (.ldc2_w ix, 3)) (hc : Cond.constantLong own ix v ∈ lw_tbl) (k : G E d X nL R σ (pc + 3) (L) (.long v :: st)) : G E d X nL R σ (pc) (L) (st) := fun H locs ls hP hS hl => lv_ldc2 C.1 C.2.1 C.2.2.2.2.2.1 (C.2.2.2.2.2.2.1 _ (mg hc rfl)) hdg (k H locs ls hP hS hl)
theorem g_ldc (C : Cx E X cc own nL ret) {ix : Nat} (v : Int32) (hdg : decode cc pc = .ok (.ldc ix, 2)) (hc : Cond.constant own ix v ∈ lw_tbl) (k : G E d X nL R σ (pc + 2) (L) (.int v :: st)) : G E d X nL R σ (pc) (L) (st) := fun H locs ls hP hS hl => lv_ldc C.1 C.2.1 C.2.2.2.2.2.1 (C.2.2.2.2.2.2.1 _ (mg hc rfl)) hdg (k H locs ls hP hS hl)
theorem g_ldcw (C : Cx E X cc own nL ret) {ix : Nat} (v : Int32) (hdg : decode cc pc = .ok (.ldc_w ix, 3)) (hc : Cond.constant own ix v ∈ lw_tbl) (k : G E d X nL R σ (pc + 3) (L) (.int v :: st)) : G E d X nL R σ (pc) (L) (st) := fun H locs ls hP hS hl => lv_ldcw C.1 C.2.1 C.2.2.2.2.2.1 (C.2.2.2.2.2.2.1 _ (mg hc rfl)) hdg (k H locs ls hP hS hl)
theorem g_iload_n (C : Cx E X cc own nL ret) {k : Fin 4} {x : Int32} (hdg : decode cc pc = .ok (.iload_n k, 1)) (hx : L.lookup (k : Nat) = some (.int x)) (kk : G E d X nL R σ (pc + 1) (L) (.int x :: st)) : G E d X nL R σ (pc) (L) (st) := fun H locs ls hP hS hl => lv_iload_n C.1 C.2.1 hdg rfl (lvl hl hx) (kk H locs ls hP hS hl)
theorem g_iload (C : Cx E X cc own nL ret) {i : Nat} {x : Int32} (hdg : decode cc pc = .ok (.iload i, 2)) (hx : L.lookup i = some (.int x)) (kk : G E d X nL R σ (pc + 2) (L) (.int x :: st)) : G E d X nL R σ (pc) (L) (st) := fun H locs ls hP hS hl => lv_iload C.1 C.2.1 hdg (lvl hl hx) (kk H locs ls hP hS hl)
theorem g_istore_n (C : Cx E X cc own nL ret) {k : Fin 4} {x : Int32} (hdg : decode cc pc = .ok (.istore_n k, 1)) (hn : (k : Nat) < nL := by decide) (kk : G E d X nL R σ (pc + 1) (stL L (k : Nat) (.int x)) (st)) : G E d X nL R σ (pc) (L) (.int x :: st) := fun H locs ls hP hS hl => lv_istore_n C.1 C.2.1 hdg rfl hl hn rfl (fun ls h => kk H locs ls hP hS h)
theorem g_istore (C : Cx E X cc own nL ret) {i : Nat} {x : Int32} (hdg : decode cc pc = .ok (.istore i, 2)) (hn : i < nL := by decide) (kk : G E d X nL R σ (pc + 2) (stL L i (.int x)) (st)) : G E d X nL R σ (pc) (L) (.int x :: st) := fun H locs ls hP hS hl => lv_istore C.1 C.2.1 hdg hl hn rfl (fun ls h => kk H locs ls hP hS h)
theorem g_aload_n (C : Cx E X cc own nL ret) {k : Fin 4} {x : Nat} (hdg : decode cc pc = .ok (.aload_n k, 1)) (hx : L.lookup (k : Nat) = some (.ref x)) (kk : G E d X nL R σ (pc + 1) (L) (.ref x :: st)) : G E d X nL R σ (pc) (L) (st) := fun H locs ls hP hS hl => lv_aload_n C.1 C.2.1 hdg rfl (lvl hl hx) (kk H locs ls hP hS hl)
theorem g_aload (C : Cx E X cc own nL ret) {i : Nat} {x : Nat} (hdg : decode cc pc = .ok (.aload i, 2)) (hx : L.lookup i = some (.ref x)) (kk : G E d X nL R σ (pc + 2) (L) (.ref x :: st)) : G E d X nL R σ (pc) (L) (st) := fun H locs ls hP hS hl => lv_aload C.1 C.2.1 hdg (lvl hl hx) (kk H locs ls hP hS hl)
theorem g_astore_n (C : Cx E X cc own nL ret) {k : Fin 4} {x : Nat} (hdg : decode cc pc = .ok (.astore_n k, 1)) (hn : (k : Nat) < nL := by decide) (kk : G E d X nL R σ (pc + 1) (stL L (k : Nat) (.ref x)) (st)) : G E d X nL R σ (pc) (L) (.ref x :: st) := fun H locs ls hP hS hl => lv_astore_n C.1 C.2.1 hdg rfl hl hn rfl (fun ls h => kk H locs ls hP hS h)
theorem g_astore (C : Cx E X cc own nL ret) {i : Nat} {x : Nat} (hdg : decode cc pc = .ok (.astore i, 2)) (hn : i < nL := by decide) (kk : G E d X nL R σ (pc + 2) (stL L i (.ref x)) (st)) : G E d X nL R σ (pc) (L) (.ref x :: st) := fun H locs ls hP hS hl => lv_astore C.1 C.2.1 hdg hl hn rfl (fun ls h => kk H locs ls hP hS h)
theorem g_lload_n (C : Cx E X cc own nL ret) {k : Fin 4} {x : Int64} (hdg : decode cc pc = .ok (.lload_n k, 1)) (hx : L.lookup (k : Nat) = some (.long x)) (kk : G E d X nL R σ (pc + 1) (L) (.long x :: st)) : G E d X nL R σ (pc) (L) (st) := fun H locs ls hP hS hl => lv_lload_n C.1 C.2.1 hdg rfl (lvl hl hx) (kk H locs ls hP hS hl)
theorem g_lload (C : Cx E X cc own nL ret) {i : Nat} {x : Int64} (hdg : decode cc pc = .ok (.lload i, 2)) (hx : L.lookup i = some (.long x)) (kk : G E d X nL R σ (pc + 2) (L) (.long x :: st)) : G E d X nL R σ (pc) (L) (st) := fun H locs ls hP hS hl => lv_lload C.1 C.2.1 hdg (lvl hl hx) (kk H locs ls hP hS hl)
theorem g_lstore_n (C : Cx E X cc own nL ret) {k : Fin 4} {x : Int64} (hdg : decode cc pc = .ok (.lstore_n k, 1)) (hn : (k : Nat) + 1 < nL := by decide) (kk : G E d X nL R σ (pc + 1) (stL2 L (k : Nat) (.long x)) (st)) : G E d X nL R σ (pc) (L) (.long x :: st) := fun H locs ls hP hS hl => lv_lstore_n C.1 C.2.1 hdg rfl hl hn rfl (fun ls h => kk H locs ls hP hS h)
theorem g_lstore (C : Cx E X cc own nL ret) {i : Nat} {x : Int64} (hdg : decode cc pc = .ok (.lstore i, 2)) (hn : i + 1 < nL := by decide) (kk : G E d X nL R σ (pc + 2) (stL2 L i (.long x)) (st)) : G E d X nL R σ (pc) (L) (.long x :: st) := fun H locs ls hP hS hl => lv_lstore C.1 C.2.1 hdg hl hn rfl (fun ls h => kk H locs ls hP hS h)
theorem lookup_get {L : List (Nat × Value)} {i : Nat} {v : Value} (h : L.lookup i = some v) : ∃ k : Nat, L[k]? = some (i, v) := by
  obtain ⟨k, hk⟩ := List.getElem?_of_mem (lookup_mem h)
  exact ⟨k, hk⟩
theorem g_iinc (C : Cx E X cc own nL ret) {i : Nat} {n : Int} {x : Int32} (v : Int32) (hdg : decode cc pc = .ok (.iinc i n, 3)) (hx : L.lookup i = some (.int x)) (hv : x + Int32.ofInt n = v) (hn : i < nL := by decide) (kk : G E d X nL R σ (pc + 3) (stL L i (.int v)) (st)) : G E d X nL R σ (pc) (L) (st) := fun H locs ls hP hS hl => by
  obtain ⟨k, hk⟩ := lookup_get hx
  exact lv_iinc C.1 C.2.1 hdg hl hk hv hn rfl (fun ls h => kk H locs ls hP hS h)
theorem g_iinc1 (C : Cx E X cc own nL ret) {i a : Nat} (hdg : decode cc pc = .ok (.iinc i 1, 3)) (hx : L.lookup i = some (.int (nI a))) (hn : i < nL := by decide) (kk : G E d X nL R σ (pc + 3) (stL L i (.int (nI (a + 1)))) (st)) : G E d X nL R σ (pc) (L) (st) := g_iinc C (nI (a + 1)) hdg hx (nI_1 a) hn kk
theorem g_pop1 (C : Cx E X cc own nL ret) {v : Int32} (hdg : decode cc pc = .ok (.pop, 1))  (k : G E d X nL R σ (pc + 1) (L) (st)) : G E d X nL R σ (pc) (L) (.int v :: st) := fun H locs ls hP hS hl => lv_pop C.1 C.2.1 hdg rfl (k H locs ls hP hS hl)
theorem g_dup (C : Cx E X cc own nL ret) {v : Value} (hdg : decode cc pc = .ok (.dup, 1)) (hc : v.category = 1) (k : G E d X nL R σ (pc + 1) (L) (v :: v :: st)) : G E d X nL R σ (pc) (L) (v :: st) := fun H locs ls hP hS hl => lv_dup C.1 C.2.1 hdg hc (k H locs ls hP hS hl)
theorem g_dup_x1 (C : Cx E X cc own nL ret) {v w : Value} (hdg : decode cc pc = .ok (.dup_x1, 1)) (hc : v.category = 1) (hw : w.category = 1) (k : G E d X nL R σ (pc + 1) (L) (v :: w :: v :: st)) : G E d X nL R σ (pc) (L) (v :: w :: st) := fun H locs ls hP hS hl => lv_dup_x1 C.1 C.2.1 hdg hc hw (k H locs ls hP hS hl)
theorem g_dup2 (C : Cx E X cc own nL ret) {v w : Value} (hdg : decode cc pc = .ok (.dup2, 1)) (hc : v.category = 1) (hw : w.category = 1) (k : G E d X nL R σ (pc + 1) (L) (v :: w :: v :: w :: st)) : G E d X nL R σ (pc) (L) (v :: w :: st) := fun H locs ls hP hS hl => lv_dup2_11 C.1 C.2.1 hdg hc hw (k H locs ls hP hS hl)
theorem g_iadd (C : Cx E X cc own nL ret) {x y : Int32} (hdg : decode cc pc = .ok (.iadd, 1))  (k : G E d X nL R σ (pc + 1) (L) (.int (x + y) :: st)) : G E d X nL R σ (pc) (L) (.int y :: .int x :: st) := fun H locs ls hP hS hl => lv_iadd C.1 C.2.1 hdg  (k H locs ls hP hS hl)
theorem g_isub (C : Cx E X cc own nL ret) {x y : Int32} (hdg : decode cc pc = .ok (.isub, 1))  (k : G E d X nL R σ (pc + 1) (L) (.int (x - y) :: st)) : G E d X nL R σ (pc) (L) (.int y :: .int x :: st) := fun H locs ls hP hS hl => lv_isub C.1 C.2.1 hdg  (k H locs ls hP hS hl)
theorem g_imul (C : Cx E X cc own nL ret) {x y : Int32} (hdg : decode cc pc = .ok (.imul, 1))  (k : G E d X nL R σ (pc + 1) (L) (.int (x * y) :: st)) : G E d X nL R σ (pc) (L) (.int y :: .int x :: st) := fun H locs ls hP hS hl => lv_imul C.1 C.2.1 hdg  (k H locs ls hP hS hl)
theorem g_iand (C : Cx E X cc own nL ret) {x y : Int32} (hdg : decode cc pc = .ok (.iand, 1))  (k : G E d X nL R σ (pc + 1) (L) (.int (x &&& y) :: st)) : G E d X nL R σ (pc) (L) (.int y :: .int x :: st) := fun H locs ls hP hS hl => lv_iand C.1 C.2.1 hdg  (k H locs ls hP hS hl)
theorem g_ior (C : Cx E X cc own nL ret) {x y : Int32} (hdg : decode cc pc = .ok (.ior, 1))  (k : G E d X nL R σ (pc + 1) (L) (.int (x ||| y) :: st)) : G E d X nL R σ (pc) (L) (.int y :: .int x :: st) := fun H locs ls hP hS hl => lv_ior C.1 C.2.1 hdg  (k H locs ls hP hS hl)
theorem g_ixor (C : Cx E X cc own nL ret) {x y : Int32} (hdg : decode cc pc = .ok (.ixor, 1))  (k : G E d X nL R σ (pc + 1) (L) (.int (x ^^^ y) :: st)) : G E d X nL R σ (pc) (L) (.int y :: .int x :: st) := fun H locs ls hP hS hl => lv_ixor C.1 C.2.1 hdg  (k H locs ls hP hS hl)
theorem g_ishl (C : Cx E X cc own nL ret) {x y : Int32} (hdg : decode cc pc = .ok (.ishl, 1))  (k : G E d X nL R σ (pc + 1) (L) (.int (x <<< (y &&& 31)) :: st)) : G E d X nL R σ (pc) (L) (.int y :: .int x :: st) := fun H locs ls hP hS hl => lv_ishl C.1 C.2.1 hdg  (k H locs ls hP hS hl)
theorem g_ishr (C : Cx E X cc own nL ret) {x y : Int32} (hdg : decode cc pc = .ok (.ishr, 1))  (k : G E d X nL R σ (pc + 1) (L) (.int (x >>> (y &&& 31)) :: st)) : G E d X nL R σ (pc) (L) (.int y :: .int x :: st) := fun H locs ls hP hS hl => lv_ishr C.1 C.2.1 hdg  (k H locs ls hP hS hl)
theorem g_iushr (C : Cx E X cc own nL ret) {x y : Int32} (hdg : decode cc pc = .ok (.iushr, 1))  (k : G E d X nL R σ (pc + 1) (L) (.int ((x.toUInt32 >>> (y.toUInt32 &&& Int32.toUInt32 31)).toInt32) :: st)) : G E d X nL R σ (pc) (L) (.int y :: .int x :: st) := fun H locs ls hP hS hl => lv_iushr C.1 C.2.1 hdg rfl (k H locs ls hP hS hl)
theorem g_ineg (C : Cx E X cc own nL ret) {x : Int32} (hdg : decode cc pc = .ok (.ineg, 1))  (k : G E d X nL R σ (pc + 1) (L) (.int (-x) :: st)) : G E d X nL R σ (pc) (L) (.int x :: st) := fun H locs ls hP hS hl => lv_ineg C.1 C.2.1 hdg  (k H locs ls hP hS hl)
theorem g_idiv (C : Cx E X cc own nL ret) {x y : Int32} (hdg : decode cc pc = .ok (.idiv, 1)) (hne : ¬ y = 0) (k : G E d X nL R σ (pc + 1) (L) (.int (x / y) :: st)) : G E d X nL R σ (pc) (L) (.int y :: .int x :: st) := fun H locs ls hP hS hl => lv_idiv C.1 C.2.1 hdg hne (k H locs ls hP hS hl)
theorem g_irem (C : Cx E X cc own nL ret) {x y : Int32} (hdg : decode cc pc = .ok (.irem, 1)) (hne : ¬ y = 0) (k : G E d X nL R σ (pc + 1) (L) (.int (x - x / y * y) :: st)) : G E d X nL R σ (pc) (L) (.int y :: .int x :: st) := fun H locs ls hP hS hl => lv_irem C.1 C.2.1 hdg hne (k H locs ls hP hS hl)
theorem g_ldiv (C : Cx E X cc own nL ret) {x y : Int64} (hdg : decode cc pc = .ok (.ldiv, 1)) (hne : ¬ y = 0) (k : G E d X nL R σ (pc + 1) (L) (.long (x / y) :: st)) : G E d X nL R σ (pc) (L) (.long y :: .long x :: st) := fun H locs ls hP hS hl => lv_ldiv C.1 C.2.1 hdg hne (k H locs ls hP hS hl)
theorem g_lrem (C : Cx E X cc own nL ret) {x y : Int64} (hdg : decode cc pc = .ok (.lrem, 1)) (hne : ¬ y = 0) (k : G E d X nL R σ (pc + 1) (L) (.long (x - x / y * y) :: st)) : G E d X nL R σ (pc) (L) (.long y :: .long x :: st) := fun H locs ls hP hS hl => lv_lrem C.1 C.2.1 hdg hne (k H locs ls hP hS hl)
theorem g_ladd (C : Cx E X cc own nL ret) {x y : Int64} (hdg : decode cc pc = .ok (.ladd, 1))  (k : G E d X nL R σ (pc + 1) (L) (.long (x + y) :: st)) : G E d X nL R σ (pc) (L) (.long y :: .long x :: st) := fun H locs ls hP hS hl => lv_ladd C.1 C.2.1 hdg  (k H locs ls hP hS hl)
theorem g_lsub (C : Cx E X cc own nL ret) {x y : Int64} (hdg : decode cc pc = .ok (.lsub, 1))  (k : G E d X nL R σ (pc + 1) (L) (.long (x - y) :: st)) : G E d X nL R σ (pc) (L) (.long y :: .long x :: st) := fun H locs ls hP hS hl => lv_lsub C.1 C.2.1 hdg  (k H locs ls hP hS hl)
theorem g_lmul (C : Cx E X cc own nL ret) {x y : Int64} (hdg : decode cc pc = .ok (.lmul, 1))  (k : G E d X nL R σ (pc + 1) (L) (.long (x * y) :: st)) : G E d X nL R σ (pc) (L) (.long y :: .long x :: st) := fun H locs ls hP hS hl => lv_lmul C.1 C.2.1 hdg  (k H locs ls hP hS hl)
theorem g_land (C : Cx E X cc own nL ret) {x y : Int64} (hdg : decode cc pc = .ok (.land, 1))  (k : G E d X nL R σ (pc + 1) (L) (.long (x &&& y) :: st)) : G E d X nL R σ (pc) (L) (.long y :: .long x :: st) := fun H locs ls hP hS hl => lv_land C.1 C.2.1 hdg  (k H locs ls hP hS hl)
theorem g_lor (C : Cx E X cc own nL ret) {x y : Int64} (hdg : decode cc pc = .ok (.lor, 1))  (k : G E d X nL R σ (pc + 1) (L) (.long (x ||| y) :: st)) : G E d X nL R σ (pc) (L) (.long y :: .long x :: st) := fun H locs ls hP hS hl => lv_lor C.1 C.2.1 hdg  (k H locs ls hP hS hl)
theorem g_lshl (C : Cx E X cc own nL ret) {x : Int64} {y : Int32} (hdg : decode cc pc = .ok (.lshl, 1))  (k : G E d X nL R σ (pc + 1) (L) (.long (x <<< (y.toInt64 &&& 63)) :: st)) : G E d X nL R σ (pc) (L) (.int y :: .long x :: st) := fun H locs ls hP hS hl => lv_lshl C.1 C.2.1 hdg rfl (k H locs ls hP hS hl)
theorem g_i2l (C : Cx E X cc own nL ret) {x : Int32} (v : Int64) (hdg : decode cc pc = .ok (.i2l, 1)) (hv : x.toInt64 = v) (k : G E d X nL R σ (pc + 1) (L) (.long v :: st)) : G E d X nL R σ (pc) (L) (.int x :: st) := fun H locs ls hP hS hl => lv_i2l C.1 C.2.1 hdg hv (k H locs ls hP hS hl)
theorem g_l2i (C : Cx E X cc own nL ret) {x : Int64} (v : Int32) (hdg : decode cc pc = .ok (.l2i, 1)) (hv : x.toInt32 = v) (k : G E d X nL R σ (pc + 1) (L) (.int v :: st)) : G E d X nL R σ (pc) (L) (.long x :: st) := fun H locs ls hP hS hl => lv_l2i C.1 C.2.1 hdg hv (k H locs ls hP hS hl)
theorem g_i2b (C : Cx E X cc own nL ret) {x : Int32} (v : Int32) (hdg : decode cc pc = .ok (.i2b, 1)) (hv : x.toInt8.toInt32 = v) (k : G E d X nL R σ (pc + 1) (L) (.int v :: st)) : G E d X nL R σ (pc) (L) (.int x :: st) := fun H locs ls hP hS hl => lv_i2b C.1 C.2.1 hdg hv (k H locs ls hP hS hl)
theorem g_i2s (C : Cx E X cc own nL ret) {x : Int32} (v : Int32) (hdg : decode cc pc = .ok (.i2s, 1)) (hv : x.toInt16.toInt32 = v) (k : G E d X nL R σ (pc + 1) (L) (.int v :: st)) : G E d X nL R σ (pc) (L) (.int x :: st) := fun H locs ls hP hS hl => lv_i2s C.1 C.2.1 hdg hv (k H locs ls hP hS hl)
theorem g_i2c (C : Cx E X cc own nL ret) {x : Int32} (v : Int32) (hdg : decode cc pc = .ok (.i2c, 1)) (hv : (x.toUInt32 % 65536).toInt32 = v) (k : G E d X nL R σ (pc + 1) (L) (.int v :: st)) : G E d X nL R σ (pc) (L) (.int x :: st) := fun H locs ls hP hS hl => lv_i2c C.1 C.2.1 hdg hv (k H locs ls hP hS hl)
theorem g_lcmp (C : Cx E X cc own nL ret) {x y : Int64} (hdg : decode cc pc = .ok (.lcmp, 1))  (k : G E d X nL R σ (pc + 1) (L) (.int (lg_cmp x y) :: st)) : G E d X nL R σ (pc) (L) (.long y :: .long x :: st) := fun H locs ls hP hS hl => W.lcmp C.1 C.2.1 hdg  (k H locs ls hP hS hl)
theorem g_iaddN (C : Cx E X cc own nL ret) {a b : Nat} (hdg : decode cc pc = .ok (.iadd, 1)) (k : G E d X nL R σ (pc + 1) (L) (.int (nI (a + b)) :: st)) : G E d X nL R σ (pc) (L) (.int (nI b) :: .int (nI a) :: st) := g_iadd C hdg (nI_add a b ▸ k)
theorem g_imulN (C : Cx E X cc own nL ret) {a b : Nat} (hdg : decode cc pc = .ok (.imul, 1)) (k : G E d X nL R σ (pc + 1) (L) (.int (nI (a * b)) :: st)) : G E d X nL R σ (pc) (L) (.int (nI b) :: .int (nI a) :: st) := g_imul C hdg (pk_mul a b ▸ k)
theorem g_isubN (C : Cx E X cc own nL ret) {a b : Nat} (hdg : decode cc pc = .ok (.isub, 1)) (h : b ≤ a) (k : G E d X nL R σ (pc + 1) (L) (.int (nI (a - b)) :: st)) : G E d X nL R σ (pc) (L) (.int (nI b) :: .int (nI a) :: st) := g_isub C hdg (pk_sub h ▸ k)
theorem g_idivN (C : Cx E X cc own nL ret) {a b : Nat} (hdg : decode cc pc = .ok (.idiv, 1)) (ha : a < 2 ^ 31) (h0 : 0 < b) (hb : b < 2 ^ 31) (k : G E d X nL R σ (pc + 1) (L) (.int (nI (a / b)) :: st)) : G E d X nL R σ (pc) (L) (.int (nI b) :: .int (nI a) :: st) := g_idiv C hdg (nI_ne0 h0 hb) (pk_div ha h0 hb ▸ k)
theorem g_iremN (C : Cx E X cc own nL ret) {a b : Nat} (hdg : decode cc pc = .ok (.irem, 1)) (ha : a < 2 ^ 31) (h0 : 0 < b) (hb : b < 2 ^ 31) (k : G E d X nL R σ (pc + 1) (L) (.int (nI (a % b)) :: st)) : G E d X nL R σ (pc) (L) (.int (nI b) :: .int (nI a) :: st) := g_irem C hdg (nI_ne0 h0 hb) (pk_rem ha h0 hb ▸ k)
theorem g_ifeq (C : Cx E X cc own nL ret) {x : Int32} {off : Int} (tgt : Nat) (hdg : decode cc pc = .ok (.ifCond .eq off, 3)) (ht : (pc : Int) + off = (tgt : Int)) (kt : x = 0 → G E d X nL R σ (tgt) (L) (st)) (kf : ¬ x = 0 → G E d X nL R σ (pc + 3) (L) (st)) : G E d X nL R σ (pc) (L) (.int x :: st) := fun H locs ls hP hS hl => lv_if_eq C.1 C.2.1 hdg ht (fun q => kt q H locs ls hP hS hl) (fun q => kf q H locs ls hP hS hl)
theorem g_ifne (C : Cx E X cc own nL ret) {x : Int32} {off : Int} (tgt : Nat) (hdg : decode cc pc = .ok (.ifCond .ne off, 3)) (ht : (pc : Int) + off = (tgt : Int)) (kt : ¬ x = 0 → G E d X nL R σ (tgt) (L) (st)) (kf : x = 0 → G E d X nL R σ (pc + 3) (L) (st)) : G E d X nL R σ (pc) (L) (.int x :: st) := fun H locs ls hP hS hl => lv_if_ne C.1 C.2.1 hdg ht (fun q => kt q H locs ls hP hS hl) (fun q => kf q H locs ls hP hS hl)
theorem g_iflt (C : Cx E X cc own nL ret) {x : Int32} {off : Int} (tgt : Nat) (hdg : decode cc pc = .ok (.ifCond .lt off, 3)) (ht : (pc : Int) + off = (tgt : Int)) (kt : x < 0 → G E d X nL R σ (tgt) (L) (st)) (kf : ¬ x < 0 → G E d X nL R σ (pc + 3) (L) (st)) : G E d X nL R σ (pc) (L) (.int x :: st) := fun H locs ls hP hS hl => lv_if_lt C.1 C.2.1 hdg ht (fun q => kt q H locs ls hP hS hl) (fun q => kf q H locs ls hP hS hl)
theorem g_ifge (C : Cx E X cc own nL ret) {x : Int32} {off : Int} (tgt : Nat) (hdg : decode cc pc = .ok (.ifCond .ge off, 3)) (ht : (pc : Int) + off = (tgt : Int)) (kt : 0 ≤ x → G E d X nL R σ (tgt) (L) (st)) (kf : ¬ 0 ≤ x → G E d X nL R σ (pc + 3) (L) (st)) : G E d X nL R σ (pc) (L) (.int x :: st) := fun H locs ls hP hS hl => lv_if_ge C.1 C.2.1 hdg ht (fun q => kt q H locs ls hP hS hl) (fun q => kf q H locs ls hP hS hl)
theorem g_ifgt (C : Cx E X cc own nL ret) {x : Int32} {off : Int} (tgt : Nat) (hdg : decode cc pc = .ok (.ifCond .gt off, 3)) (ht : (pc : Int) + off = (tgt : Int)) (kt : 0 < x → G E d X nL R σ (tgt) (L) (st)) (kf : ¬ 0 < x → G E d X nL R σ (pc + 3) (L) (st)) : G E d X nL R σ (pc) (L) (.int x :: st) := fun H locs ls hP hS hl => lv_if_gt C.1 C.2.1 hdg ht (fun q => kt q H locs ls hP hS hl) (fun q => kf q H locs ls hP hS hl)
theorem g_ifle (C : Cx E X cc own nL ret) {x : Int32} {off : Int} (tgt : Nat) (hdg : decode cc pc = .ok (.ifCond .le off, 3)) (ht : (pc : Int) + off = (tgt : Int)) (kt : x ≤ 0 → G E d X nL R σ (tgt) (L) (st)) (kf : ¬ x ≤ 0 → G E d X nL R σ (pc + 3) (L) (st)) : G E d X nL R σ (pc) (L) (.int x :: st) := fun H locs ls hP hS hl => lv_if_le C.1 C.2.1 hdg ht (fun q => kt q H locs ls hP hS hl) (fun q => kf q H locs ls hP hS hl)
theorem g_iceq (C : Cx E X cc own nL ret) {x y : Int32} {off : Int} (tgt : Nat) (hdg : decode cc pc = .ok (.if_icmp .eq off, 3)) (ht : (pc : Int) + off = (tgt : Int)) (kt : x = y → G E d X nL R σ (tgt) (L) (st)) (kf : ¬ x = y → G E d X nL R σ (pc + 3) (L) (st)) : G E d X nL R σ (pc) (L) (.int y :: .int x :: st) := fun H locs ls hP hS hl => lv_icmp_eq C.1 C.2.1 hdg ht (fun q => kt q H locs ls hP hS hl) (fun q => kf q H locs ls hP hS hl)
theorem g_iceqN (C : Cx E X cc own nL ret) {a b : Nat} {off : Int} (tgt : Nat) (hdg : decode cc pc = .ok (.if_icmp .eq off, 3)) (ht : (pc : Int) + off = (tgt : Int)) (ha : a < 2 ^ 31) (hb : b < 2 ^ 31) (kt : a = b → G E d X nL R σ (tgt) (L) (st)) (kf : ¬ a = b → G E d X nL R σ (pc + 3) (L) (st)) : G E d X nL R σ (pc) (L) (.int (nI b) :: .int (nI a) :: st) := g_iceq C tgt hdg ht (fun q => kt ((nI_eq ha hb).mp q)) (fun q => kf ((fun z => q ((nI_eq ha hb).mpr z))))
theorem g_icne (C : Cx E X cc own nL ret) {x y : Int32} {off : Int} (tgt : Nat) (hdg : decode cc pc = .ok (.if_icmp .ne off, 3)) (ht : (pc : Int) + off = (tgt : Int)) (kt : ¬ x = y → G E d X nL R σ (tgt) (L) (st)) (kf : x = y → G E d X nL R σ (pc + 3) (L) (st)) : G E d X nL R σ (pc) (L) (.int y :: .int x :: st) := fun H locs ls hP hS hl => lv_icmp_ne C.1 C.2.1 hdg ht (fun q => kt q H locs ls hP hS hl) (fun q => kf q H locs ls hP hS hl)
theorem g_icneN (C : Cx E X cc own nL ret) {a b : Nat} {off : Int} (tgt : Nat) (hdg : decode cc pc = .ok (.if_icmp .ne off, 3)) (ht : (pc : Int) + off = (tgt : Int)) (ha : a < 2 ^ 31) (hb : b < 2 ^ 31) (kt : ¬ a = b → G E d X nL R σ (tgt) (L) (st)) (kf : a = b → G E d X nL R σ (pc + 3) (L) (st)) : G E d X nL R σ (pc) (L) (.int (nI b) :: .int (nI a) :: st) := g_icne C tgt hdg ht (fun q => kt ((fun z => q ((nI_eq ha hb).mpr z)))) (fun q => kf ((nI_eq ha hb).mp q))
theorem g_iclt (C : Cx E X cc own nL ret) {x y : Int32} {off : Int} (tgt : Nat) (hdg : decode cc pc = .ok (.if_icmp .lt off, 3)) (ht : (pc : Int) + off = (tgt : Int)) (kt : x < y → G E d X nL R σ (tgt) (L) (st)) (kf : ¬ x < y → G E d X nL R σ (pc + 3) (L) (st)) : G E d X nL R σ (pc) (L) (.int y :: .int x :: st) := fun H locs ls hP hS hl => lv_icmp_lt C.1 C.2.1 hdg ht (fun q => kt q H locs ls hP hS hl) (fun q => kf q H locs ls hP hS hl)
theorem g_icltN (C : Cx E X cc own nL ret) {a b : Nat} {off : Int} (tgt : Nat) (hdg : decode cc pc = .ok (.if_icmp .lt off, 3)) (ht : (pc : Int) + off = (tgt : Int)) (ha : a < 2 ^ 31) (hb : b < 2 ^ 31) (kt : a < b → G E d X nL R σ (tgt) (L) (st)) (kf : b ≤ a → G E d X nL R σ (pc + 3) (L) (st)) : G E d X nL R σ (pc) (L) (.int (nI b) :: .int (nI a) :: st) := g_iclt C tgt hdg ht (fun q => kt (((nI_ltI ha hb).mp q))) (fun q => kf ((Nat.not_lt.mp (fun z => q ((nI_ltI ha hb).mpr z)))))
theorem g_icge (C : Cx E X cc own nL ret) {x y : Int32} {off : Int} (tgt : Nat) (hdg : decode cc pc = .ok (.if_icmp .ge off, 3)) (ht : (pc : Int) + off = (tgt : Int)) (kt : y ≤ x → G E d X nL R σ (tgt) (L) (st)) (kf : ¬ y ≤ x → G E d X nL R σ (pc + 3) (L) (st)) : G E d X nL R σ (pc) (L) (.int y :: .int x :: st) := fun H locs ls hP hS hl => lv_icmp_ge C.1 C.2.1 hdg ht (fun q => kt q H locs ls hP hS hl) (fun q => kf q H locs ls hP hS hl)
theorem g_icgeN (C : Cx E X cc own nL ret) {a b : Nat} {off : Int} (tgt : Nat) (hdg : decode cc pc = .ok (.if_icmp .ge off, 3)) (ht : (pc : Int) + off = (tgt : Int)) (ha : a < 2 ^ 31) (hb : b < 2 ^ 31) (kt : b ≤ a → G E d X nL R σ (tgt) (L) (st)) (kf : a < b → G E d X nL R σ (pc + 3) (L) (st)) : G E d X nL R σ (pc) (L) (.int (nI b) :: .int (nI a) :: st) := g_icge C tgt hdg ht (fun q => kt (((nI_leI hb ha).mp q))) (fun q => kf ((Nat.not_le.mp (fun z => q ((nI_leI hb ha).mpr z)))))
theorem g_icgt (C : Cx E X cc own nL ret) {x y : Int32} {off : Int} (tgt : Nat) (hdg : decode cc pc = .ok (.if_icmp .gt off, 3)) (ht : (pc : Int) + off = (tgt : Int)) (kt : y < x → G E d X nL R σ (tgt) (L) (st)) (kf : ¬ y < x → G E d X nL R σ (pc + 3) (L) (st)) : G E d X nL R σ (pc) (L) (.int y :: .int x :: st) := fun H locs ls hP hS hl => lv_icmp_gt C.1 C.2.1 hdg ht (fun q => kt q H locs ls hP hS hl) (fun q => kf q H locs ls hP hS hl)
theorem g_icgtN (C : Cx E X cc own nL ret) {a b : Nat} {off : Int} (tgt : Nat) (hdg : decode cc pc = .ok (.if_icmp .gt off, 3)) (ht : (pc : Int) + off = (tgt : Int)) (ha : a < 2 ^ 31) (hb : b < 2 ^ 31) (kt : b < a → G E d X nL R σ (tgt) (L) (st)) (kf : a ≤ b → G E d X nL R σ (pc + 3) (L) (st)) : G E d X nL R σ (pc) (L) (.int (nI b) :: .int (nI a) :: st) := g_icgt C tgt hdg ht (fun q => kt (((nI_ltI hb ha).mp q))) (fun q => kf ((Nat.not_lt.mp (fun z => q ((nI_ltI hb ha).mpr z)))))
theorem g_icle (C : Cx E X cc own nL ret) {x y : Int32} {off : Int} (tgt : Nat) (hdg : decode cc pc = .ok (.if_icmp .le off, 3)) (ht : (pc : Int) + off = (tgt : Int)) (kt : x ≤ y → G E d X nL R σ (tgt) (L) (st)) (kf : ¬ x ≤ y → G E d X nL R σ (pc + 3) (L) (st)) : G E d X nL R σ (pc) (L) (.int y :: .int x :: st) := fun H locs ls hP hS hl => lv_icmp_le C.1 C.2.1 hdg ht (fun q => kt q H locs ls hP hS hl) (fun q => kf q H locs ls hP hS hl)
theorem g_icleN (C : Cx E X cc own nL ret) {a b : Nat} {off : Int} (tgt : Nat) (hdg : decode cc pc = .ok (.if_icmp .le off, 3)) (ht : (pc : Int) + off = (tgt : Int)) (ha : a < 2 ^ 31) (hb : b < 2 ^ 31) (kt : a ≤ b → G E d X nL R σ (tgt) (L) (st)) (kf : b < a → G E d X nL R σ (pc + 3) (L) (st)) : G E d X nL R σ (pc) (L) (.int (nI b) :: .int (nI a) :: st) := g_icle C tgt hdg ht (fun q => kt (((nI_leI ha hb).mp q))) (fun q => kf ((Nat.not_le.mp (fun z => q ((nI_leI ha hb).mpr z)))))
theorem bI_eq0 {b : Bool} : bI b = 0 ↔ b = false := by cases b <;> decide
theorem bI_01 (b : Bool) : bI b = 0 ∨ bI b = 1 := by cases b <;> decide
theorem g_ifeqB (C : Cx E X cc own nL ret) {b : Bool} {off : Int} (tgt : Nat) (hdg : decode cc pc = .ok (.ifCond .eq off, 3)) (ht : (pc : Int) + off = (tgt : Int)) (kt : b = false → G E d X nL R σ (tgt) (L) (st)) (kf : b = true → G E d X nL R σ (pc + 3) (L) (st)) : G E d X nL R σ (pc) (L) (.int (bI b) :: st) := g_ifeq C tgt hdg ht (fun q => kt (bI_eq0.mp q)) (fun q => kf (by cases b with | false => exact absurd rfl q | true => rfl))
theorem g_ifneB (C : Cx E X cc own nL ret) {b : Bool} {off : Int} (tgt : Nat) (hdg : decode cc pc = .ok (.ifCond .ne off, 3)) (ht : (pc : Int) + off = (tgt : Int)) (kt : b = true → G E d X nL R σ (tgt) (L) (st)) (kf : b = false → G E d X nL R σ (pc + 3) (L) (st)) : G E d X nL R σ (pc) (L) (.int (bI b) :: st) := g_ifne C tgt hdg ht (fun q => kt (by cases b with | false => exact absurd rfl q | true => rfl)) (fun q => kf (bI_eq0.mp q))
theorem g_ifeqN (C : Cx E X cc own nL ret) {a : Nat} {off : Int} (tgt : Nat) (hdg : decode cc pc = .ok (.ifCond .eq off, 3)) (ht : (pc : Int) + off = (tgt : Int)) (ha : a < 2 ^ 31) (kt : a = 0 → G E d X nL R σ (tgt) (L) (st)) (kf : ¬ a = 0 → G E d X nL R σ (pc + 3) (L) (st)) : G E d X nL R σ (pc) (L) (.int (nI a) :: st) := g_ifeq C tgt hdg ht (fun q => kt ((nI_eq ha (by decide)).mp q)) (fun q => kf (fun z => q ((nI_eq ha (by decide)).mpr z)))
theorem g_ifneN (C : Cx E X cc own nL ret) {a : Nat} {off : Int} (tgt : Nat) (hdg : decode cc pc = .ok (.ifCond .ne off, 3)) (ht : (pc : Int) + off = (tgt : Int)) (ha : a < 2 ^ 31) (kt : ¬ a = 0 → G E d X nL R σ (tgt) (L) (st)) (kf : a = 0 → G E d X nL R σ (pc + 3) (L) (st)) : G E d X nL R σ (pc) (L) (.int (nI a) :: st) := g_ifne C tgt hdg ht (fun q => kt (fun z => q ((nI_eq ha (by decide)).mpr z))) (fun q => kf ((nI_eq ha (by decide)).mp q))
theorem g_goto (C : Cx E X cc own nL ret) {off : Int} (tgt : Nat) (hdg : decode cc pc = .ok (.goto off, 3)) (ht : (pc : Int) + off = (tgt : Int)) (k : G E d X nL R σ (tgt) (L) (st)) : G E d X nL R σ (pc) (L) (st) := fun H locs ls hP hS hl => lv_goto C.1 C.2.1 hdg ht (k H locs ls hP hS hl)
theorem g_tsOut (C : Cx E X cc own nL ret) {x : Int32} {df lo hi : Int} {offs : Array Int} {len : Nat} (tgt : Nat) (hdg : decode cc pc = .ok (.tableswitch df lo hi offs, len)) (h : x.toInt < lo ∨ hi < x.toInt) (ht : (pc : Int) + df = (tgt : Int)) (k : G E d X nL R σ (tgt) (L) (st)) : G E d X nL R σ (pc) (L) (.int x :: st) := fun H locs ls hP hS hl => lv_tableOut C.1 C.2.1 hdg h ht (k H locs ls hP hS hl)
theorem g_tsIn (C : Cx E X cc own nL ret) {x : Int32} {df lo hi off : Int} {offs : Array Int} {len : Nat} (tgt : Nat) (hdg : decode cc pc = .ok (.tableswitch df lo hi offs, len)) (h1 : ¬ x.toInt < lo) (h2 : ¬ hi < x.toInt) (ho : offs[(x.toInt - lo).toNat]? = some off) (ht : (pc : Int) + off = (tgt : Int)) (k : G E d X nL R σ (tgt) (L) (st)) : G E d X nL R σ (pc) (L) (.int x :: st) := fun H locs ls hP hS hl => lv_tableIn C.1 C.2.1 hdg h1 h2 ho ht (k H locs ls hP hS hl)
theorem g_lsw (C : Cx E X cc own nL ret) {x : Int32} {df off : Int} {ps : Array (Int × Int)} {len : Nat} (tgt : Nat) (hdg : decode cc pc = .ok (.lookupswitch df ps, len)) (hp : (ps.toList.zip (ps.toList.drop 1)).all (fun (a, next) => a.1 < next.1) = true) (ho : Op.lookupswitch.offset ps.toList df x.toInt = off) (ht : (pc : Int) + off = (tgt : Int)) (k : G E d X nL R σ (tgt) (L) (st)) : G E d X nL R σ (pc) (L) (.int x :: st) := fun H locs ls hP hS hl => lv_lookup C.1 C.2.1 hdg hp ho ht (k H locs ls hP hS hl)
theorem va_S.Fx {A : Nat → Prop} {s t : State} {H : Heap} {locs : List Loc} (h : va_S A s.heap H locs) (ht : t.heap = H) : va_F A s t := h.F ht
theorem g_iret (C : Cx E X cc own nL (some .int)) {v : Int32} (hdg : decode cc pc = .ok (.ireturn, 1)) (h : R (some (.int v)) σ) : G E d X nL R σ pc L [.int v] := fun H locs ls hP hS hl => W.iret C.1 C.2.1 C.2.2.1 (fun t ht _ => ⟨⟨_, _, rfl, h, by rw [ht]; exact hP⟩, hS.F ht⟩) hS.2.2 hdg C.2.2.2.1
theorem g_zret (C : Cx E X cc own nL (some .boolean)) {v : Int32} (hv : v = 0 ∨ v = 1) (hdg : decode cc pc = .ok (.ireturn, 1)) (h : R (some (.int v)) σ) : G E d X nL R σ pc L [.int v] := fun H locs ls hP hS hl => W.zret C.1 C.2.1 C.2.2.1 (by rcases hv with rfl | rfl <;> rfl) (fun t ht _ => ⟨⟨_, _, rfl, h, by rw [ht]; exact hP⟩, hS.F ht⟩) hS.2.2 hdg C.2.2.2.1
theorem g_cret (C : Cx E X cc own nL (some .char)) {v : Int32} (hv : narrow .char (.int v) = .int v) (hdg : decode cc pc = .ok (.ireturn, 1)) (h : R (some (.int v)) σ) : G E d X nL R σ pc L [.int v] := fun H locs ls hP hS hl => W.zret C.1 C.2.1 C.2.2.1 hv (fun t ht _ => ⟨⟨_, _, rfl, h, by rw [ht]; exact hP⟩, hS.F ht⟩) hS.2.2 hdg C.2.2.2.1
theorem g_lret (C : Cx E X cc own nL (some .long)) {v : Int64} (hdg : decode cc pc = .ok (.lreturn, 1)) (h : R (some (.long v)) σ) : G E d X nL R σ pc L [.long v] := fun H locs ls hP hS hl => W.lret C.1 C.2.1 C.2.2.1 (fun t ht _ => ⟨⟨_, _, rfl, h, by rw [ht]; exact hP⟩, hS.F ht⟩) hS.2.2 hdg C.2.2.2.1
theorem g_aret {n : String} (C : Cx E X cc own nL (some (.object n))) {v : Nat} (hdg : decode cc pc = .ok (.areturn, 1)) (h : R (some (.ref v)) σ) : G E d X nL R σ pc L [.ref v] := fun H locs ls hP hS hl => W.aret C.1 C.2.1 C.2.2.1 (Or.inl ⟨_, rfl⟩) (Or.inr ⟨_, rfl⟩) (fun t ht _ => ⟨⟨_, _, rfl, h, by rw [ht]; exact hP⟩, hS.F ht⟩) hS.2.2 hdg C.2.2.2.1
theorem g_vret (C : Cx E X cc own nL none) (hdg : decode cc pc = .ok (.return_, 1)) (h : R none σ) : G E d X nL R σ pc L [] := fun H locs ls hP hS hl => W.vret C.1 C.2.1 C.2.2.1 (fun t ht _ => ⟨⟨_, _, rfl, h, by rw [ht]; exact hP⟩, hS.F ht⟩) hS.2.2 hdg C.2.2.2.1
theorem g_get (C : Cx E X cc own nL ret) {b ci k N ix : Nat} {Cn ref : String} {T : u_T} {fs : List Value} {v : Value} (hb : b < 79) (hcell : cellE E (kd b).1 (kd b).2 b (σ.1 b) (σ.2 b) = .inr (ci, fs)) (hci : vwCl[ci]? = some (Cn, T, N)) (hin : ∀ w ∈ u_ws Cn T N, w ∈ lw_g) (hk : k < N) (hl : Cond.fieldLink own ix ref (T k).2.1 (T k).2.2.1 ∈ lw_tbl) (href : ref = (T k).1) (hv : fs[k]? = some v) (hdg : decode cc pc = .ok (.getfield ix, 3)) (kk : G E d X nL R σ (pc + 3) L (v :: st)) : G E d X nL R σ pc L (.ref (ev_a E b) :: st) := by
  subst href
  exact fun H locs ls hP hS hlv => va_get C.1 C.2.1 C.2.2.2.2.2.2.1 hin C.2.2.2.2.2.1 C.2.2.2.2.2.2.2.1 hP b (by rw [wd_get hb, hcell]) hci k hk (C.2.2.2.2.2.2.1 _ (mg hl rfl)) (fun _ h => h) hv hdg (kk H locs ls hP hS hlv)
theorem g_getN (C : Cx E X cc own nL ret) {b ci k N ix : Nat} {Cn ref host : String} {T : u_T} {fs : List Value} {v : Value} (hb : b < 79) (hcell : cellE E (kd b).1 (kd b).2 b (σ.1 b) (σ.2 b) = .inr (ci, fs)) (hci : vwCl[ci]? = some (Cn, T, N)) (hin : ∀ w ∈ u_ws Cn T N, w ∈ lw_g) (hk : k < N) (hl : Cond.fieldLinkNest own ix ref (T k).2.1 (T k).2.2.1 host ∈ nestW) (href : ref = (T k).1) (hv : fs[k]? = some v) (hdg : decode cc pc = .ok (.getfield ix, 3)) (kk : G E d X nL R σ (pc + 3) L (v :: st)) : G E d X nL R σ pc L (.ref (ev_a E b) :: st) := by
  subst href
  exact fun H locs ls hP hS hlv => va_getN C.1 C.2.1 C.2.2.2.2.2.2.1 hin C.2.2.2.2.2.1 C.2.2.2.2.2.2.2.1 hP b (by rw [wd_get hb, hcell]) hci k hk (va_Nw.use rfl (C.2.2.2.2.2.2.2.2.1.2.2.2.2.2.2.2.2.2 _ hl)) (fun _ h => h) hv hdg (kk H locs ls hP hS hlv)
theorem g_put (C : Cx E X cc own nL ret) {b ci k N ix : Nat} {Cn ref : String} {T : u_T} {ty0 : Nat → FieldType} {fs : List Value} {v : Int32} {f : Nat → Int32} (hb : b < 79) (hcell : cellE E (kd b).1 (kd b).2 b (σ.1 b) (σ.2 b) = .inr (ci, fs)) (hci : vwCl[ci]? = some (Cn, T, N)) (hin : ∀ w ∈ u_ws Cn T N, w ∈ lw_g) (hty : ∀ k, k < N → parseFieldDescriptor (T k).2.2.1 = some (ty0 k)) (hnm : ∀ a, a < N → ∀ b, b < N → a ≠ b → (T a).2.1 ≠ (T b).2.1) (hk : k < N) (hl : Cond.fieldLink own ix ref (T k).2.1 (T k).2.2.1 ∈ lw_tbl) (href : ref = (T k).1) (hfin : (T k).2.2.2 = false) (hn : narrow (ty0 k) (.int v) = .int v) (hf : fits (ty0 k) (.int v) = true) (hlen : k < fs.length) (hset : .inr (ci, fs.set k (.int v)) = cellE E (kd b).1 (kd b).2 b f (σ.2 b)) (hdg : decode cc pc = .ok (.putfield ix, 3)) (kk : G E d X nL R (sI σ b f) (pc + 3) L st) : G E d X nL R σ pc L (.int v :: .ref (ev_a E b) :: st) := by
  subst href
  refine fun H locs ls hP hS hlv => va_put C.1 C.2.1 C.2.2.2.2.2.2.1 hin ty0 hty hnm C.2.2.2.2.2.1 C.2.2.2.2.2.2.2.1 hP (C.2.2.2.2.2.2.2.2.2.D σ) hS b (by rw [wd_get hb, hcell]) hci k hk (C.2.2.2.2.2.2.1 _ (mg hl rfl)) (fun _ h => h) hfin (hty k hk) hn hf hlen hdg (fun H1 locs1 hP1 _ hS1 => ?_)
  rw [wd_set (σ' := sI σ b f) hb (fun q hq => ⟨sI_ne hq, rfl⟩) (by rw [sI_self]; exact hset)] at hP1
  exact kk H1 locs1 ls hP1 hS1 hlv
theorem g_putN (C : Cx E X cc own nL ret) {b ci k N ix : Nat} {Cn ref host : String} {T : u_T} {ty0 : Nat → FieldType} {fs : List Value} {v : Int32} {f : Nat → Int32} (hb : b < 79) (hcell : cellE E (kd b).1 (kd b).2 b (σ.1 b) (σ.2 b) = .inr (ci, fs)) (hci : vwCl[ci]? = some (Cn, T, N)) (hin : ∀ w ∈ u_ws Cn T N, w ∈ lw_g) (hty : ∀ k, k < N → parseFieldDescriptor (T k).2.2.1 = some (ty0 k)) (hnm : ∀ a, a < N → ∀ b, b < N → a ≠ b → (T a).2.1 ≠ (T b).2.1) (hk : k < N) (hl : Cond.fieldLinkNest own ix ref (T k).2.1 (T k).2.2.1 host ∈ nestW) (href : ref = (T k).1) (hfin : (T k).2.2.2 = false) (hn : narrow (ty0 k) (.int v) = .int v) (hf : fits (ty0 k) (.int v) = true) (hlen : k < fs.length) (hset : .inr (ci, fs.set k (.int v)) = cellE E (kd b).1 (kd b).2 b f (σ.2 b)) (hdg : decode cc pc = .ok (.putfield ix, 3)) (kk : G E d X nL R (sI σ b f) (pc + 3) L st) : G E d X nL R σ pc L (.int v :: .ref (ev_a E b) :: st) := by
  subst href
  refine fun H locs ls hP hS hlv => va_putN C.1 C.2.1 C.2.2.2.2.2.2.1 hin ty0 hty hnm C.2.2.2.2.2.1 C.2.2.2.2.2.2.2.1 hP (C.2.2.2.2.2.2.2.2.2.D σ) hS b (by rw [wd_get hb, hcell]) hci k hk (va_Nw.use rfl (C.2.2.2.2.2.2.2.2.1.2.2.2.2.2.2.2.2.2 _ hl)) (fun _ h => h) hfin (hty k hk) hn hf hlen hdg (fun H1 locs1 hP1 _ hS1 => ?_)
  rw [wd_set (σ' := sI σ b f) hb (fun q hq => ⟨sI_ne hq, rfl⟩) (by rw [sI_self]; exact hset)] at hP1
  exact kk H1 locs1 ls hP1 hS1 hlv
theorem g_iald (C : Cx E X cc own nL ret) {a n : Nat} {i : Int32} (hk : kd a = (12, n)) (hin : vp_in i n) (hdg : decode cc pc = .ok (.iaload, 1)) (kk : G E d X nL R σ (pc + 1) L (.int (σ.1 a i.toNatClampNeg) :: st)) : G E d X nL R σ pc L (.int i :: .ref (ev_a E a) :: st) :=
  fun H locs ls hP hS hl => va_iald C.1 C.2.1 C.2.2.2.2.2.2.2.1 hP a 2 (by rw [wd_get (kd_lt2 hk (by decide)), hk]; rfl) rfl hin hdg (kk H locs ls hP hS hl)
theorem g_ialdN (C : Cx E X cc own nL ret) {a n j : Nat} (hk : kd a = (12, n)) (hj : j < n) (hn : n < 2 ^ 31) (hdg : decode cc pc = .ok (.iaload, 1)) (kk : G E d X nL R σ (pc + 1) L (.int (σ.1 a j) :: st)) : G E d X nL R σ pc L (.int (nI j) :: .ref (ev_a E a) :: st) :=
  g_iald C hk (vp_in_nI hj hn) hdg (by rw [nI_clamp (Nat.lt_trans hj hn)]; exact kk)
theorem g_zald (C : Cx E X cc own nL ret) {a n : Nat} {i : Int32} (hk : kd a = (10, n)) (hin : vp_in i n) (hdg : decode cc pc = .ok (.baload, 1)) (kk : G E d X nL R σ (pc + 1) L (.int (σ.1 a i.toNatClampNeg) :: st)) : G E d X nL R σ pc L (.int i :: .ref (ev_a E a) :: st) :=
  fun H locs ls hP hS hl => va_zald C.1 C.2.1 C.2.2.2.2.2.2.2.1 hP a 0 (by rw [wd_get (kd_lt2 hk (by decide)), hk]; rfl) rfl hin hdg (kk H locs ls hP hS hl)
theorem g_zaldN (C : Cx E X cc own nL ret) {a n j : Nat} (hk : kd a = (10, n)) (hj : j < n) (hn : n < 2 ^ 31) (hdg : decode cc pc = .ok (.baload, 1)) (kk : G E d X nL R σ (pc + 1) L (.int (σ.1 a j) :: st)) : G E d X nL R σ pc L (.int (nI j) :: .ref (ev_a E a) :: st) :=
  g_zald C hk (vp_in_nI hj hn) hdg (by rw [nI_clamp (Nat.lt_trans hj hn)]; exact kk)
theorem g_bald (C : Cx E X cc own nL ret) {a n : Nat} {i : Int32} (hk : kd a = (11, n)) (hin : vp_in i n) (hdg : decode cc pc = .ok (.baload, 1)) (kk : G E d X nL R σ (pc + 1) L (.int (σ.1 a i.toNatClampNeg) :: st)) : G E d X nL R σ pc L (.int i :: .ref (ev_a E a) :: st) :=
  fun H locs ls hP hS hl => va_bald C.1 C.2.1 C.2.2.2.2.2.2.2.1 hP a 1 (by rw [wd_get (kd_lt2 hk (by decide)), hk]; rfl) rfl hin hdg (kk H locs ls hP hS hl)
theorem g_baldN (C : Cx E X cc own nL ret) {a n j : Nat} (hk : kd a = (11, n)) (hj : j < n) (hn : n < 2 ^ 31) (hdg : decode cc pc = .ok (.baload, 1)) (kk : G E d X nL R σ (pc + 1) L (.int (σ.1 a j) :: st)) : G E d X nL R σ pc L (.int (nI j) :: .ref (ev_a E a) :: st) :=
  g_bald C hk (vp_in_nI hj hn) hdg (by rw [nI_clamp (Nat.lt_trans hj hn)]; exact kk)
theorem g_lald (C : Cx E X cc own nL ret) {a n : Nat} {i : Int32} (hk : kd a = (13, n)) (hin : vp_in i n) (hdg : decode cc pc = .ok (.laload, 1)) (kk : G E d X nL R σ (pc + 1) L (.long (σ.2 a i.toNatClampNeg) :: st)) : G E d X nL R σ pc L (.int i :: .ref (ev_a E a) :: st) :=
  fun H locs ls hP hS hl => va_lald C.1 C.2.1 C.2.2.2.2.2.2.2.1 hP a 3 (by rw [wd_get (kd_lt2 hk (by decide)), hk]; rfl) rfl hin hdg (kk H locs ls hP hS hl)
theorem g_laldN (C : Cx E X cc own nL ret) {a n j : Nat} (hk : kd a = (13, n)) (hj : j < n) (hn : n < 2 ^ 31) (hdg : decode cc pc = .ok (.laload, 1)) (kk : G E d X nL R σ (pc + 1) L (.long (σ.2 a j) :: st)) : G E d X nL R σ pc L (.int (nI j) :: .ref (ev_a E a) :: st) :=
  g_lald C hk (vp_in_nI hj hn) hdg (by rw [nI_clamp (Nat.lt_trans hj hn)]; exact kk)
theorem g_aaldN (C : Cx E X cc own nL ret) {j : Nat} (hj : j < 6) (hdg : decode cc pc = .ok (.aaload, 1)) (kk : G E d X nL R σ (pc + 1) L (.ref (ev_a E (52 + 2 * j)) :: st)) : G E d X nL R σ pc L (.int (nI j) :: .ref (ev_a E 51) :: st) :=
  fun H locs ls hP hS hl => va_aldq C.1 C.2.1 C.2.2.2.2.2.2.2.1 hP 51 4 (f := fun i => some (ev_a E (52 + 2 * i))) (n := 6) (by rw [wd_get (by decide)]; rfl) rfl (vp_in_nI hj (by decide)) hdg (by rw [nI_clamp (Nat.lt_trans hj (by decide))]; exact kk H locs ls hP hS hl)
theorem g_alen (C : Cx E X cc own nL ret) {a n : Nat} (k : Nat) (hk : kd a = (k, n)) (h10 : k = 10 ∨ k = 11 ∨ k = 12 ∨ k = 13) (hdg : decode cc pc = .ok (.arraylength, 1)) (kk : G E d X nL R σ (pc + 1) L (.int (nI n) :: st)) : G E d X nL R σ pc L (.ref (ev_a E a) :: st) := by
  have hlt : a < 79 := kd_lt2 hk (by omega)
  intro H locs ls hP hS hl
  rcases h10 with rfl | rfl | rfl | rfl
  · exact va_alen C.1 C.2.1 C.2.2.2.2.2.2.2.1 hP a 0 (x := (n, .inl (σ.1 a))) (by rw [wd_get hlt, hk]; rfl) rfl rfl hdg (kk H locs ls hP hS hl)
  · exact va_alen C.1 C.2.1 C.2.2.2.2.2.2.2.1 hP a 1 (x := (n, .inl (σ.1 a))) (by rw [wd_get hlt, hk]; rfl) rfl rfl hdg (kk H locs ls hP hS hl)
  · exact va_alen C.1 C.2.1 C.2.2.2.2.2.2.2.1 hP a 2 (x := (n, .inl (σ.1 a))) (by rw [wd_get hlt, hk]; rfl) rfl rfl hdg (kk H locs ls hP hS hl)
  · exact va_alen C.1 C.2.1 C.2.2.2.2.2.2.2.1 hP a 3 (x := (n, .inr (.inl (σ.2 a)))) (by rw [wd_get hlt, hk]; rfl) rfl rfl hdg (kk H locs ls hP hS hl)
theorem g_iast (C : Cx E X cc own nL ret) {a n : Nat} {i x : Int32} (hk : kd a = (12, n)) (hin : vp_in i n) (hdg : decode cc pc = .ok (.iastore, 1)) (kk : G E d X nL R (sI σ a (upd (σ.1 a) i.toNatClampNeg x)) (pc + 1) L st) : G E d X nL R σ pc L (.int x :: .int i :: .ref (ev_a E a) :: st) := by
  have hlt : a < 79 := kd_lt2 hk (by decide)
  refine fun H locs ls hP hS hl => va_iast C.1 C.2.1 C.2.2.2.2.2.2.2.1 hP (C.2.2.2.2.2.2.2.2.2.D σ) hS a 2 (n := n) (f := σ.1 a) (by rw [wd_get hlt, hk]; rfl) rfl hin hdg (fun H1 locs1 hP1 _ hS1 => ?_)
  rw [wd_set (σ' := sI σ a (upd (σ.1 a) i.toNatClampNeg x)) hlt (fun q hq => ⟨sI_ne hq, rfl⟩) (by rw [sI_self, hk]; rfl)] at hP1
  exact kk H1 locs1 ls hP1 hS1 hl
theorem g_iastN (C : Cx E X cc own nL ret) {a n j : Nat} {x : Int32} (hk : kd a = (12, n)) (hj : j < n) (hn : n < 2 ^ 31) (hdg : decode cc pc = .ok (.iastore, 1)) (kk : G E d X nL R (sI σ a (upd (σ.1 a) j x)) (pc + 1) L st) : G E d X nL R σ pc L (.int x :: .int (nI j) :: .ref (ev_a E a) :: st) :=
  g_iast C hk (vp_in_nI hj hn) hdg (by rw [nI_clamp (Nat.lt_trans hj hn)]; exact kk)
theorem g_zast (C : Cx E X cc own nL ret) {a n : Nat} {i x : Int32} (hk : kd a = (10, n)) (hin : vp_in i n) (hdg : decode cc pc = .ok (.bastore, 1)) (kk : G E d X nL R (sI σ a (upd (σ.1 a) i.toNatClampNeg (vp_nar .boolean x))) (pc + 1) L st) : G E d X nL R σ pc L (.int x :: .int i :: .ref (ev_a E a) :: st) := by
  have hlt : a < 79 := kd_lt2 hk (by decide)
  refine fun H locs ls hP hS hl => va_zast C.1 C.2.1 C.2.2.2.2.2.2.2.1 hP (C.2.2.2.2.2.2.2.2.2.D σ) hS a 0 (n := n) (f := σ.1 a) (by rw [wd_get hlt, hk]; rfl) rfl hin hdg (fun H1 locs1 hP1 _ hS1 => ?_)
  rw [wd_set (σ' := sI σ a (upd (σ.1 a) i.toNatClampNeg (vp_nar .boolean x))) hlt (fun q hq => ⟨sI_ne hq, rfl⟩) (by rw [sI_self, hk]; rfl)] at hP1
  exact kk H1 locs1 ls hP1 hS1 hl
theorem g_zastN (C : Cx E X cc own nL ret) {a n j : Nat} {x : Int32} (hk : kd a = (10, n)) (hj : j < n) (hn : n < 2 ^ 31) (hdg : decode cc pc = .ok (.bastore, 1)) (kk : G E d X nL R (sI σ a (upd (σ.1 a) j (vp_nar .boolean x))) (pc + 1) L st) : G E d X nL R σ pc L (.int x :: .int (nI j) :: .ref (ev_a E a) :: st) :=
  g_zast C hk (vp_in_nI hj hn) hdg (by rw [nI_clamp (Nat.lt_trans hj hn)]; exact kk)
theorem g_bast (C : Cx E X cc own nL ret) {a n : Nat} {i x : Int32} (hk : kd a = (11, n)) (hin : vp_in i n) (hdg : decode cc pc = .ok (.bastore, 1)) (kk : G E d X nL R (sI σ a (upd (σ.1 a) i.toNatClampNeg (vp_nar .byte x))) (pc + 1) L st) : G E d X nL R σ pc L (.int x :: .int i :: .ref (ev_a E a) :: st) := by
  have hlt : a < 79 := kd_lt2 hk (by decide)
  refine fun H locs ls hP hS hl => va_bast C.1 C.2.1 C.2.2.2.2.2.2.2.1 hP (C.2.2.2.2.2.2.2.2.2.D σ) hS a 1 (n := n) (f := σ.1 a) (by rw [wd_get hlt, hk]; rfl) rfl hin hdg (fun H1 locs1 hP1 _ hS1 => ?_)
  rw [wd_set (σ' := sI σ a (upd (σ.1 a) i.toNatClampNeg (vp_nar .byte x))) hlt (fun q hq => ⟨sI_ne hq, rfl⟩) (by rw [sI_self, hk]; rfl)] at hP1
  exact kk H1 locs1 ls hP1 hS1 hl
theorem g_bastN (C : Cx E X cc own nL ret) {a n j : Nat} {x : Int32} (hk : kd a = (11, n)) (hj : j < n) (hn : n < 2 ^ 31) (hdg : decode cc pc = .ok (.bastore, 1)) (kk : G E d X nL R (sI σ a (upd (σ.1 a) j (vp_nar .byte x))) (pc + 1) L st) : G E d X nL R σ pc L (.int x :: .int (nI j) :: .ref (ev_a E a) :: st) :=
  g_bast C hk (vp_in_nI hj hn) hdg (by rw [nI_clamp (Nat.lt_trans hj hn)]; exact kk)
theorem nar_b (b : Bool) : vp_nar .boolean (bI b) = bI b := by cases b <;> rfl
theorem nar_01 {x : Int32} (h : x = 0 ∨ x = 1) : vp_nar .boolean x = x := by rcases h with rfl | rfl <;> rfl
theorem g_last (C : Cx E X cc own nL ret) {a n : Nat} {i : Int32} {x : Int64} (hk : kd a = (13, n)) (hin : vp_in i n) (hdg : decode cc pc = .ok (.lastore, 1)) (kk : G E d X nL R (sL σ a (vp_updL (σ.2 a) i.toNatClampNeg x)) (pc + 1) L st) : G E d X nL R σ pc L (.long x :: .int i :: .ref (ev_a E a) :: st) := by
  have hlt : a < 79 := kd_lt2 hk (by decide)
  refine fun H locs ls hP hS hl => va_last C.1 C.2.1 C.2.2.2.2.2.2.2.1 hP (C.2.2.2.2.2.2.2.2.2.D σ) hS a 3 (n := n) (f := σ.2 a) (by rw [wd_get hlt, hk]; rfl) rfl hin hdg (fun H1 locs1 hP1 _ hS1 => ?_)
  rw [wd_set (σ := σ) (σ' := sL σ a (vp_updL (σ.2 a) i.toNatClampNeg x)) hlt (fun q hq => ⟨rfl, sL_ne hq⟩) (by rw [sL_self, hk]; rfl)] at hP1
  exact kk H1 locs1 ls hP1 hS1 hl
theorem g_lastN (C : Cx E X cc own nL ret) {a n j : Nat} {x : Int64} (hk : kd a = (13, n)) (hj : j < n) (hn : n < 2 ^ 31) (hdg : decode cc pc = .ok (.lastore, 1)) (kk : G E d X nL R (sL σ a (vp_updL (σ.2 a) j x)) (pc + 1) L st) : G E d X nL R σ pc L (.long x :: .int (nI j) :: .ref (ev_a E a) :: st) :=
  g_last C hk (vp_in_nI hj hn) hdg (by rw [nI_clamp (Nat.lt_trans hj hn)]; exact kk)
theorem g_gs0 (C : Cx E X cc own nL ret) {ix : Nat} (hl : Cond.fieldLink own ix "ShapeMoves$Moves" "WAYS" "[I" ∈ lw_tbl) (hdg : decode cc pc = .ok (.getstatic ix, 3)) (kk : G E d X nL R σ (pc + 3) L (.ref (ev_s E 0) :: st)) : G E d X nL R σ pc L st :=
  fun H locs ls hP hS hlv => va_gets C.1 C.2.1 C.2.2.2.2.2.2.2.2.1.1 hS C.2.2.2.2.2.1 (C.2.2.2.2.2.2.1 _ (mg hl rfl)) (fun _ h => h) hdg (kk H locs ls hP hS hlv)
theorem g_ts0 (C : Cx E X cc own nL ret) {j : Nat} (hj : j < 18) (hdg : decode cc pc = .ok (.iaload, 1)) (kk : G E d X nL R σ (pc + 1) L (.int (jw_WAYS.getD j 0) :: st)) : G E d X nL R σ pc L (.int (nI j) :: .ref (ev_s E 0) :: st) :=
  fun H locs ls hP hS hlv => va_ti C.1 C.2.1 C.2.2.2.2.2.2.2.2.1.2.1 hS (vp_in_nI hj (by decide)) (by rw [nI_clamp (Nat.lt_trans hj (by decide))]) hdg (kk H locs ls hP hS hlv)
theorem g_gs1 (C : Cx E X cc own nL ret) {ix : Nat} (hl : Cond.fieldLink own ix "ShapeMoves$Moves" "TURN_OF_WAY" "[I" ∈ lw_tbl) (hdg : decode cc pc = .ok (.getstatic ix, 3)) (kk : G E d X nL R σ (pc + 3) L (.ref (ev_s E 1) :: st)) : G E d X nL R σ pc L st :=
  fun H locs ls hP hS hlv => va_gets C.1 C.2.1 C.2.2.2.2.2.2.2.2.1.2.2.1 hS C.2.2.2.2.2.1 (C.2.2.2.2.2.2.1 _ (mg hl rfl)) (fun _ h => h) hdg (kk H locs ls hP hS hlv)
theorem g_ts1 (C : Cx E X cc own nL ret) {j : Nat} (hj : j < 6) (hdg : decode cc pc = .ok (.iaload, 1)) (kk : G E d X nL R σ (pc + 1) L (.int (jw_TURN.getD j 0) :: st)) : G E d X nL R σ pc L (.int (nI j) :: .ref (ev_s E 1) :: st) :=
  fun H locs ls hP hS hlv => va_ti C.1 C.2.1 C.2.2.2.2.2.2.2.2.1.2.2.2.1 hS (vp_in_nI hj (by decide)) (by rw [nI_clamp (Nat.lt_trans hj (by decide))]) hdg (kk H locs ls hP hS hlv)
theorem g_gs2 (C : Cx E X cc own nL ret) {ix : Nat} (hl : Cond.fieldLink own ix "ShapeMoves$Moves" "WAY_BACK" "[I" ∈ lw_tbl) (hdg : decode cc pc = .ok (.getstatic ix, 3)) (kk : G E d X nL R σ (pc + 3) L (.ref (ev_s E 2) :: st)) : G E d X nL R σ pc L st :=
  fun H locs ls hP hS hlv => va_gets C.1 C.2.1 C.2.2.2.2.2.2.2.2.1.2.2.2.2.1 hS C.2.2.2.2.2.1 (C.2.2.2.2.2.2.1 _ (mg hl rfl)) (fun _ h => h) hdg (kk H locs ls hP hS hlv)
theorem g_ts2 (C : Cx E X cc own nL ret) {j : Nat} (hj : j < 6) (hdg : decode cc pc = .ok (.iaload, 1)) (kk : G E d X nL R σ (pc + 1) L (.int (jw_BACK.getD j 0) :: st)) : G E d X nL R σ pc L (.int (nI j) :: .ref (ev_s E 2) :: st) :=
  fun H locs ls hP hS hlv => va_ti C.1 C.2.1 C.2.2.2.2.2.2.2.2.1.2.2.2.2.2.1 hS (vp_in_nI hj (by decide)) (by rw [nI_clamp (Nat.lt_trans hj (by decide))]) hdg (kk H locs ls hP hS hlv)
theorem g_min (C : Cx E X cc own nL ret) {ix : Nat} {x y : Int32} (hl : Cond.methodLink own ix Lib.Math.min.name ∈ lw_tbl) (h1 : Cond.static Lib.Math.min.name ∈ lw_tbl) (h2 : Cond.initialized "java/lang/Math" ∈ lw_tbl) (h3 : Cond.code Lib.Math.min.name Lib.Math.min.code 2 (some .int) ∈ lw_tbl) (hd : 1 ≤ d) (hr : (st.map fun v => v.category).sum ≤ 8) (hdg : decode cc pc = .ok (.invokestatic ix, 3)) (kk : G E d X nL R σ (pc + 3) L (.int (if y < x then y else x) :: st)) : G E d X nL R σ pc L (.int y :: .int x :: st) :=
  fun H locs ls hP hS hlv => va_mmin C.1 C.2.1 (C.2.2.2.2.1.trans hlv.1.symm) C.2.2.2.2.2.1 (C.2.2.2.2.2.2.1 _ (mg hl rfl)) (C.2.2.2.2.2.2.1 _ (mg h1 rfl)) (C.2.2.2.2.2.2.1 _ (mg h2 rfl)) (C.2.2.2.2.2.2.1 _ (mg h3 rfl)) hd (by show _ ≤ 38 * d; omega) (Nat.zero_le _) (Nat.zero_le _) hdg (kk H locs ls hP hS hlv)
theorem g_max (C : Cx E X cc own nL ret) {ix : Nat} {x y : Int32} (hl : Cond.methodLink own ix Lib.Math.max.name ∈ lw_tbl) (h1 : Cond.static Lib.Math.max.name ∈ lw_tbl) (h2 : Cond.initialized "java/lang/Math" ∈ lw_tbl) (h3 : Cond.code Lib.Math.max.name Lib.Math.max.code 2 (some .int) ∈ lw_tbl) (hd : 1 ≤ d) (hr : (st.map fun v => v.category).sum ≤ 8) (hdg : decode cc pc = .ok (.invokestatic ix, 3)) (kk : G E d X nL R σ (pc + 3) L (.int (if x < y then y else x) :: st)) : G E d X nL R σ pc L (.int y :: .int x :: st) :=
  fun H locs ls hP hS hlv => va_mmax C.1 C.2.1 (C.2.2.2.2.1.trans hlv.1.symm) C.2.2.2.2.2.1 (C.2.2.2.2.2.2.1 _ (mg hl rfl)) (C.2.2.2.2.2.2.1 _ (mg h1 rfl)) (C.2.2.2.2.2.2.1 _ (mg h2 rfl)) (C.2.2.2.2.2.2.1 _ (mg h3 rfl)) hd (by show _ ≤ 38 * d; omega) (Nat.zero_le _) (Nat.zero_le _) hdg (kk H locs ls hP hS hlv)
theorem ws_in {y : MethodName} {b : ByteArray} {n : Nat} {r : Option FieldType} (hc : Cond.code y b n r ∈ lw_tbl) : GoodIn lw_g (Cond.code y b n r :: lw_g) := fun w hw => by
  have h : w ∈ lw_g := by
    rcases List.mem_cons.mp hw with rfl | h
    · exact mg hc rfl
    · exact h
  exact ⟨h, good_of_word (lw_g_good w h)⟩
/-- a cell that is an object of that class -/
def obj (b : Nat) (Cn : String) : Prop := b < 79 ∧ ∃ (ci : Nat) (T : u_T) (N : Nat), vwCl[ci]? = some (Cn, T, N) ∧ ∀ (E : Ev) (f : Nat → Int32) (g : Nat → Int64), ∃ fs : List Value, cellE E (kd b).1 (kd b).2 b f g = .inr (ci, fs)
def Det (v : Option Value) (σ1 : St) : Option Value → St → Prop := fun r σ' => r = v ∧ σ' = σ1
theorem run_go {E : Ev} {d : Nat} {X : Mx} {nL : Nat} {R R' : Option Value → St → Prop} {pc : Nat} {L : List (Nat × Value)} {stk st : List Value} {a : Array Value} {H : Heap} {locs : List Loc} {ls : Array Slot} (hS : va_S (ev_A E) X.2.2.1.heap H locs) (hl : lv_has ls nL L)
    (hr : va_Run X.1 (ev_l E) X.2.1 (rmD d) X.2.2.1 X.2.2.2.1 X.2.2.2.2.1 X.2.2.2.2.2.1 X.2.2.2.2.2.2.1 X.2.2.2.2.2.2.2 H locs 0 0 0 0 (F0 X.2.2.2.1 pc ls stk) st (Qg E R' a) (ev_A E))
    (kk : ∀ r σ', R' r σ' → G E d X nL R σ' (pc + 3) L (r.toList ++ st)) : W X.1 (ev_l E) X.2.1 (rmD d) X.2.2.1 X.2.2.2.1 X.2.2.2.2.1 X.2.2.2.2.2.1 X.2.2.2.2.2.2.1 X.2.2.2.2.2.2.2 H locs 0 0 (MQ X.2.2.2.2.2.1 (Qg E R) X.2.2.2.2.1 X.2.2.1 0 0 (ev_A E)) (F0 X.2.2.2.1 pc ls stk) := by
  intro T hT XX
  obtain ⟨v, st₀, t, T', Lc, h0, X', hL, e1, e2, ⟨⟨r, σ', hv, hp, hP'⟩, hz, hk⟩, go⟩ := hr T hT XX
  cases hv
  rw [h0] at hz hk
  have hS' : va_S (ev_A E) X.2.2.1.heap T'.heap (locs ++ Lc) := ⟨Nat.le_trans hS.1 (by rw [e1]; exact hz), fun q h1 h2 => by rw [e1, hk q (Nat.lt_of_lt_of_le h1 hS.1) h2]; exact hS.2.1 q h1 h2, fun q hq => by
    rcases List.mem_append.mp hq with h | h
    · exact hS.2.2 q h
    · exact hL q h⟩
  obtain ⟨t2, a1, b1⟩ := kk v σ' hp T'.heap (locs ++ Lc) ls (by rw [e1]; exact hP') hS' hl T' rfl X'
  exact ⟨t2, go t2 a1, b1⟩
theorem g_callS (C : Cx E X cc own nL ret) {y : MethodName} {bytes : ByteArray} {maxL d1 ix : Nat} {ret1 : Option FieldType} {av stk : List Value} {R1 : Option Value → St → Prop} (hM : Con E d1 y bytes maxL ret1 av σ R1) (hdg : decode cc pc = .ok (.invokestatic ix, 3)) (hl : Cond.methodLink own ix y ∈ lw_tbl) (hn : Cond.initialized y.cls ∈ lw_tbl) (hc : Cond.code y bytes maxL ret1 ∈ lw_tbl) (hs : Cond.static y ∈ lw_tbl) (hd : d1 + 1 ≤ d) (hm : maxL ≤ 19) (hy : y.cls ≠ "java/lang/invoke/MethodHandle" ∧ y.cls ≠ "java/lang/invoke/VarHandle" ∧ (parseMethodDescriptor y.desc).map (fun d => d.parameters.length) = some av.length) (hst : stk = av.reverse ++ st) (hr : (st.map fun v => v.category).sum ≤ 8) (kk : ∀ r σ1, R1 r σ1 → G E d X nL R σ1 (pc + 3) L (r.toList ++ st)) : G E d X nL R σ pc L stk := fun H locs ls hP hS hlv => run_go hS hlv (va_runS ⟨C.1, C.2.1, C.2.2.2.2.1, C.2.2.2.2.2.1, C.2.2.2.2.2.2.1⟩ hM ⟨callB_of av.length C.2.2.2.2.2.2.1 (ws_in hc) rfl rfl rfl (C.2.2.2.2.2.2.1 _ (mg hn rfl)) (C.2.2.2.2.2.2.1 _ (mg hl rfl)) hy ⟨hd, by show 8 + (maxL + 11) + 38 * d1 ≤ 38 * d; omega⟩, C.2.2.2.2.2.2.1 _ (mg hs rfl)⟩ ⟨pc_blind, fun U hU hW => ⟨rfl, by rw [hU]; exact hP, Sx.go C.2.2.2.2.2.2.2 hS hW hU⟩⟩ rfl rfl hlv.1 hst (lv_room hr) hdg ⟨Nat.zero_le _, Nat.zero_le _⟩) kk
theorem g_callV (C : Cx E X cc own nL ret) {y : MethodName} {bytes : ByteArray} {maxL d1 ix : Nat} {ret1 : Option FieldType} {av stk : List Value} {R1 : Option Value → St → Prop} {b : Nat} (ho : obj b y.cls) (hM : Con E d1 y bytes maxL ret1 (.ref (ev_a E b) :: av) σ R1) (hdg : decode cc pc = .ok (.invokevirtual ix, 3)) (hl : Cond.methodLink own ix y ∈ lw_tbl) (hn : Cond.initialized y.cls ∈ lw_tbl) (hc : Cond.code y bytes maxL ret1 ∈ lw_tbl) (hi : Cond.instanceMethod y ∈ lw_tbl) (hx : Cond.selects y.cls y y ∈ lw_tbl) (hd : d1 + 1 ≤ d) (hm : maxL ≤ 19) (hy : y.cls ≠ "java/lang/invoke/MethodHandle" ∧ y.cls ≠ "java/lang/invoke/VarHandle" ∧ (parseMethodDescriptor y.desc).map (fun d => d.parameters.length) = some av.length) (hst : stk = av.reverse ++ (.ref (ev_a E b) :: st)) (hr : (st.map fun v => v.category).sum ≤ 8) (kk : ∀ r σ1, R1 r σ1 → G E d X nL R σ1 (pc + 3) L (r.toList ++ st)) : G E d X nL R σ pc L stk := by
  obtain ⟨hb, ci, T, N, hci, hf⟩ := ho
  intro H locs ls hP hS hlv
  obtain ⟨fs, hcell⟩ := hf E (σ.1 b) (σ.2 b)
  exact run_go hS hlv (va_runV (C := y.cls) ⟨C.1, C.2.1, C.2.2.2.2.1, C.2.2.2.2.2.1, C.2.2.2.2.2.2.1⟩ hM ⟨callB_of av.length C.2.2.2.2.2.2.1 (ws_in hc) rfl rfl rfl (C.2.2.2.2.2.2.1 _ (mg hn rfl)) (C.2.2.2.2.2.2.1 _ (mg hl rfl)) hy ⟨hd, by show 8 + (maxL + 11) + 38 * d1 ≤ 38 * d; omega⟩, C.2.2.2.2.2.2.1 _ (mg hi rfl), C.2.2.2.2.2.2.1 _ (mg hx rfl)⟩ ⟨pc_blind, va_recv C.2.2.2.2.2.2.2.1 hP hci (by rw [wd_get hb, hcell]), fun U hU hW => ⟨rfl, by rw [hU]; exact hP, Sx.go C.2.2.2.2.2.2.2 hS hW hU⟩⟩ rfl rfl hlv.1 hst (lv_room hr) hdg ⟨Nat.zero_le _, Nat.zero_le _⟩) kk
theorem g_callSp (C : Cx E X cc own nL ret) {y : MethodName} {bytes : ByteArray} {maxL d1 ix : Nat} {ret1 : Option FieldType} {av stk : List Value} {v : Value} {σ1 : St} (hM : Con E d1 y bytes maxL ret1 av σ (Det (some v) σ1)) (hdg : decode cc pc = .ok (.invokestatic ix, 3)) (hl : Cond.methodLink own ix y ∈ lw_tbl) (hn : Cond.initialized y.cls ∈ lw_tbl) (hc : Cond.code y bytes maxL ret1 ∈ lw_tbl) (hs : Cond.static y ∈ lw_tbl) (hd : d1 + 1 ≤ d) (hm : maxL ≤ 19) (hy : y.cls ≠ "java/lang/invoke/MethodHandle" ∧ y.cls ≠ "java/lang/invoke/VarHandle" ∧ (parseMethodDescriptor y.desc).map (fun d => d.parameters.length) = some av.length) (hst : stk = av.reverse ++ st) (hr : (st.map fun v => v.category).sum ≤ 8) (kk : G E d X nL R σ1 (pc + 3) L (v :: st)) : G E d X nL R σ pc L stk := g_callS C hM hdg hl hn hc hs hd hm hy hst hr (fun r s h => by obtain ⟨h1, h2⟩ := h; subst h1; subst h2; exact kk)
theorem g_callVp (C : Cx E X cc own nL ret) {y : MethodName} {bytes : ByteArray} {maxL d1 ix : Nat} {ret1 : Option FieldType} {av stk : List Value} {v : Value} {σ1 : St} {b : Nat} (ho : obj b y.cls) (hM : Con E d1 y bytes maxL ret1 (.ref (ev_a E b) :: av) σ (Det (some v) σ1)) (hdg : decode cc pc = .ok (.invokevirtual ix, 3)) (hl : Cond.methodLink own ix y ∈ lw_tbl) (hn : Cond.initialized y.cls ∈ lw_tbl) (hc : Cond.code y bytes maxL ret1 ∈ lw_tbl) (hi : Cond.instanceMethod y ∈ lw_tbl) (hx : Cond.selects y.cls y y ∈ lw_tbl) (hd : d1 + 1 ≤ d) (hm : maxL ≤ 19) (hy : y.cls ≠ "java/lang/invoke/MethodHandle" ∧ y.cls ≠ "java/lang/invoke/VarHandle" ∧ (parseMethodDescriptor y.desc).map (fun d => d.parameters.length) = some av.length) (hst : stk = av.reverse ++ (.ref (ev_a E b) :: st)) (hr : (st.map fun v => v.category).sum ≤ 8) (kk : G E d X nL R σ1 (pc + 3) L (v :: st)) : G E d X nL R σ pc L stk := g_callV C ho hM hdg hl hn hc hi hx hd hm hy hst hr (fun r s h => by obtain ⟨h1, h2⟩ := h; subst h1; subst h2; exact kk)
theorem g_callSd (C : Cx E X cc own nL ret) {y : MethodName} {bytes : ByteArray} {maxL d1 ix : Nat} {ret1 : Option FieldType} {av stk : List Value} {v : Option Value} {σ1 : St} (hM : Con E d1 y bytes maxL ret1 av σ (Det v σ1)) (hdg : decode cc pc = .ok (.invokestatic ix, 3)) (hl : Cond.methodLink own ix y ∈ lw_tbl) (hn : Cond.initialized y.cls ∈ lw_tbl) (hc : Cond.code y bytes maxL ret1 ∈ lw_tbl) (hs : Cond.static y ∈ lw_tbl) (hd : d1 + 1 ≤ d) (hm : maxL ≤ 19) (hy : y.cls ≠ "java/lang/invoke/MethodHandle" ∧ y.cls ≠ "java/lang/invoke/VarHandle" ∧ (parseMethodDescriptor y.desc).map (fun d => d.parameters.length) = some av.length) (hst : stk = av.reverse ++ st) (hr : (st.map fun v => v.category).sum ≤ 8) (kk : G E d X nL R σ1 (pc + 3) L (v.toList ++ st)) : G E d X nL R σ pc L stk := g_callS C hM hdg hl hn hc hs hd hm hy hst hr (fun r s h => by obtain ⟨h1, h2⟩ := h; subst h1; subst h2; exact kk)
theorem g_callVd (C : Cx E X cc own nL ret) {y : MethodName} {bytes : ByteArray} {maxL d1 ix : Nat} {ret1 : Option FieldType} {av stk : List Value} {v : Option Value} {σ1 : St} {b : Nat} (ho : obj b y.cls) (hM : Con E d1 y bytes maxL ret1 (.ref (ev_a E b) :: av) σ (Det v σ1)) (hdg : decode cc pc = .ok (.invokevirtual ix, 3)) (hl : Cond.methodLink own ix y ∈ lw_tbl) (hn : Cond.initialized y.cls ∈ lw_tbl) (hc : Cond.code y bytes maxL ret1 ∈ lw_tbl) (hi : Cond.instanceMethod y ∈ lw_tbl) (hx : Cond.selects y.cls y y ∈ lw_tbl) (hd : d1 + 1 ≤ d) (hm : maxL ≤ 19) (hy : y.cls ≠ "java/lang/invoke/MethodHandle" ∧ y.cls ≠ "java/lang/invoke/VarHandle" ∧ (parseMethodDescriptor y.desc).map (fun d => d.parameters.length) = some av.length) (hst : stk = av.reverse ++ (.ref (ev_a E b) :: st)) (hr : (st.map fun v => v.category).sum ≤ 8) (kk : G E d X nL R σ1 (pc + 3) L (v.toList ++ st)) : G E d X nL R σ pc L stk := g_callV C ho hM hdg hl hn hc hi hx hd hm hy hst hr (fun r s h => by obtain ⟨h1, h2⟩ := h; subst h1; subst h2; exact kk)
theorem g_callSu (C : Cx E X cc own nL ret) {y : MethodName} {bytes : ByteArray} {maxL d1 ix : Nat} {ret1 : Option FieldType} {av stk : List Value} {σ1 : St} (hM : Con E d1 y bytes maxL ret1 av σ (Det none σ1)) (hdg : decode cc pc = .ok (.invokestatic ix, 3)) (hl : Cond.methodLink own ix y ∈ lw_tbl) (hn : Cond.initialized y.cls ∈ lw_tbl) (hc : Cond.code y bytes maxL ret1 ∈ lw_tbl) (hs : Cond.static y ∈ lw_tbl) (hd : d1 + 1 ≤ d) (hm : maxL ≤ 19) (hy : y.cls ≠ "java/lang/invoke/MethodHandle" ∧ y.cls ≠ "java/lang/invoke/VarHandle" ∧ (parseMethodDescriptor y.desc).map (fun d => d.parameters.length) = some av.length) (hst : stk = av.reverse ++ st) (hr : (st.map fun v => v.category).sum ≤ 8) (kk : G E d X nL R σ1 (pc + 3) L (st)) : G E d X nL R σ pc L stk := g_callS C hM hdg hl hn hc hs hd hm hy hst hr (fun r s h => by obtain ⟨h1, h2⟩ := h; subst h1; subst h2; exact kk)
theorem g_callVu (C : Cx E X cc own nL ret) {y : MethodName} {bytes : ByteArray} {maxL d1 ix : Nat} {ret1 : Option FieldType} {av stk : List Value} {σ1 : St} {b : Nat} (ho : obj b y.cls) (hM : Con E d1 y bytes maxL ret1 (.ref (ev_a E b) :: av) σ (Det none σ1)) (hdg : decode cc pc = .ok (.invokevirtual ix, 3)) (hl : Cond.methodLink own ix y ∈ lw_tbl) (hn : Cond.initialized y.cls ∈ lw_tbl) (hc : Cond.code y bytes maxL ret1 ∈ lw_tbl) (hi : Cond.instanceMethod y ∈ lw_tbl) (hx : Cond.selects y.cls y y ∈ lw_tbl) (hd : d1 + 1 ≤ d) (hm : maxL ≤ 19) (hy : y.cls ≠ "java/lang/invoke/MethodHandle" ∧ y.cls ≠ "java/lang/invoke/VarHandle" ∧ (parseMethodDescriptor y.desc).map (fun d => d.parameters.length) = some av.length) (hst : stk = av.reverse ++ (.ref (ev_a E b) :: st)) (hr : (st.map fun v => v.category).sum ≤ 8) (kk : G E d X nL R σ1 (pc + 3) L (st)) : G E d X nL R σ pc L stk := g_callV C ho hM hdg hl hn hc hi hx hd hm hy hst hr (fun r s h => by obtain ⟨h1, h2⟩ := h; subst h1; subst h2; exact kk)
theorem con_post {y : MethodName} {cc : ByteArray} {av : List Value} {R' : Option Value → St → Prop} (h : Con E d y cc nL ret av σ R) (hR : ∀ r σ', R r σ' → R' r σ') : Con E d y cc nL ret av σ R' := by
  intro p e ha hc hk s m args below hf hA hP ht
  obtain ⟨k, o, h1, h2, h3, ⟨⟨r, σ', c1, c2, c3⟩, c4⟩, h5⟩ := h p e ha hc hk s m args below hf hA hP ht
  exact ⟨k, o, h1, h2, h3, ⟨⟨r, σ', c1, hR r σ' c2, c3⟩, c4⟩, h5⟩
end RU
theorem inG0 : ∀ w ∈ wsX00, w ∈ lw_g := fun w h => mg (inX0 w h) (List.all_eq_true.mp (by decide +kernel : wsX00.all goodWord = true) w h)
theorem inG2 : ∀ w ∈ wsX20, w ∈ lw_g := fun w h => mg (inX2 w h) (List.all_eq_true.mp (by decide +kernel : wsX20.all goodWord = true) w h)
theorem inG3 : ∀ w ∈ wsX30, w ∈ lw_g := fun w h => mg (inX3 w h) (List.all_eq_true.mp (by decide +kernel : wsX30.all goodWord = true) w h)
theorem inG4 : ∀ w ∈ wsX40, w ∈ lw_g := fun w h => mg (inX4 w h) (List.all_eq_true.mp (by decide +kernel : wsX40.all goodWord = true) w h)
theorem inG5 : ∀ w ∈ wsX50, w ∈ lw_g := fun w h => mg (inX5 w h) (List.all_eq_true.mp (by decide +kernel : wsX50.all goodWord = true) w h)
theorem inG6 : ∀ w ∈ wsX60, w ∈ lw_g := fun w h => mg (inX6 w h) (List.all_eq_true.mp (by decide +kernel : wsX60.all goodWord = true) w h)
theorem inG7 : ∀ w ∈ wsX70, w ∈ lw_g := fun w h => mg (inX7 w h) (List.all_eq_true.mp (by decide +kernel : wsX70.all goodWord = true) w h)
theorem inG8 : ∀ w ∈ wsX80, w ∈ lw_g := fun w h => mg (inX8 w h) (List.all_eq_true.mp (by decide +kernel : wsX80.all goodWord = true) w h)
end
section
/-! A row for each field (made by wip/whole/gen/fields.py) -/
theorem nw_X7_11 : Cond.methodLinkNest RX7 11 yX3_init "ShapeMoves" ∈ nestW := List.mem_of_getElem? (i := 0) rfl
theorem nw_X3_9 : Cond.methodLinkNest RX3 9 yX4_init "ShapeMoves" ∈ nestW := List.mem_of_getElem? (i := 1) rfl
theorem nw_X7_100 : Cond.fieldLinkNest RX7 100 "ShapeMoves$Shape" "places" "[I" "ShapeMoves" ∈ nestW := List.mem_of_getElem? (i := 2) rfl
theorem nw_X7_85 : Cond.fieldLinkNest RX7 85 "ShapeMoves$Shape" "marks" "[I" "ShapeMoves" ∈ nestW := List.mem_of_getElem? (i := 3) rfl
theorem nw_X7_74 : Cond.fieldLinkNest RX7 74 "ShapeMoves$Shape" "size" "I" "ShapeMoves" ∈ nestW := List.mem_of_getElem? (i := 4) rfl
theorem nw_X0_66 : Cond.fieldLinkNest RX0 66 "ShapeMoves$Shape" "size" "I" "ShapeMoves" ∈ nestW := List.mem_of_getElem? (i := 5) rfl
theorem nw_X7_235 : Cond.fieldLinkNest RX7 235 "ShapeMoves$Rows" "first" "[I" "ShapeMoves" ∈ nestW := List.mem_of_getElem? (i := 6) rfl
theorem nw_X7_232 : Cond.fieldLinkNest RX7 232 "ShapeMoves$Rows" "second" "[I" "ShapeMoves" ∈ nestW := List.mem_of_getElem? (i := 7) rfl
theorem nw_X7_231 : Cond.fieldLinkNest RX7 231 "ShapeMoves$Rows" "size" "I" "ShapeMoves" ∈ nestW := List.mem_of_getElem? (i := 8) rfl
theorem nw_X7_67 : Cond.fieldLinkNest RX7 67 "ShapeMoves$Setup" "shape" "LShapeMoves$Shape;" "ShapeMoves" ∈ nestW := List.mem_of_getElem? (i := 9) rfl
theorem nw_X7_209 : Cond.fieldLinkNest RX7 209 "ShapeMoves$Setup" "seen" "LShapeMoves$Rows;" "ShapeMoves" ∈ nestW := List.mem_of_getElem? (i := 10) rfl
theorem nw_X7_252 : Cond.fieldLinkNest RX7 252 "ShapeMoves$Setup" "events" "LShapeMoves$Rows;" "ShapeMoves" ∈ nestW := List.mem_of_getElem? (i := 11) rfl
theorem nw_X7_266 : Cond.fieldLinkNest RX7 266 "ShapeMoves$Setup" "book" "LShapeMoves$Rows;" "ShapeMoves" ∈ nestW := List.mem_of_getElem? (i := 12) rfl
theorem nw_X7_27 : Cond.methodLinkNest RX7 27 yX0_init "ShapeMoves" ∈ nestW := List.mem_of_getElem? (i := 13) rfl
theorem nw_X7_170 : Cond.fieldLinkNest RX7 170 "ShapeMoves$Group" "members" "[Z" "ShapeMoves" ∈ nestW := List.mem_of_getElem? (i := 14) rfl
theorem nw_X7_181 : Cond.fieldLinkNest RX7 181 "ShapeMoves$Group" "byNumber" "[I" "ShapeMoves" ∈ nestW := List.mem_of_getElem? (i := 15) rfl
theorem nw_X7_159 : Cond.fieldLinkNest RX7 159 "ShapeMoves$Group" "size" "I" "ShapeMoves" ∈ nestW := List.mem_of_getElem? (i := 16) rfl
theorem nw_X7_97 : Cond.fieldLinkNest RX7 97 "ShapeMoves$Group" "orbits" "[I" "ShapeMoves" ∈ nestW := List.mem_of_getElem? (i := 17) rfl
theorem nw_X7_163 : Cond.fieldLinkNest RX7 163 "ShapeMoves$Group" "orbitsInAll" "I" "ShapeMoves" ∈ nestW := List.mem_of_getElem? (i := 18) rfl
theorem nw_X7_184 : Cond.fieldLinkNest RX7 184 "ShapeMoves$Group" "classLeast" "[I" "ShapeMoves" ∈ nestW := List.mem_of_getElem? (i := 19) rfl
theorem nw_X7_190 : Cond.fieldLinkNest RX7 190 "ShapeMoves$Group" "classList" "[I" "ShapeMoves" ∈ nestW := List.mem_of_getElem? (i := 20) rfl
theorem nw_X7_160 : Cond.fieldLinkNest RX7 160 "ShapeMoves$Group" "classes" "I" "ShapeMoves" ∈ nestW := List.mem_of_getElem? (i := 21) rfl
theorem nw_X7_37 : Cond.methodLinkNest RX7 37 yX4_init "ShapeMoves" ∈ nestW := List.mem_of_getElem? (i := 22) rfl
theorem nw_X7_47 : Cond.methodLinkNest RX7 47 yX6_init "ShapeMoves" ∈ nestW := List.mem_of_getElem? (i := 23) rfl
theorem nw_X7_103 : Cond.fieldLinkNest RX7 103 "ShapeMoves$Text" "size" "I" "ShapeMoves" ∈ nestW := List.mem_of_getElem? (i := 24) rfl
theorem nw_X7_111 : Cond.fieldLinkNest RX7 111 "ShapeMoves$Text" "clauses" "I" "ShapeMoves" ∈ nestW := List.mem_of_getElem? (i := 25) rfl
theorem nw_X7_58 : Cond.methodLinkNest RX7 58 yX5_init "ShapeMoves" ∈ nestW := List.mem_of_getElem? (i := 26) rfl
theorem nw_X7_278 : Cond.fieldLinkNest RX7 278 "ShapeMoves$Tape" "items" "[J" "ShapeMoves" ∈ nestW := List.mem_of_getElem? (i := 27) rfl
theorem nw_X7_272 : Cond.fieldLinkNest RX7 272 "ShapeMoves$Tape" "sort" "I" "ShapeMoves" ∈ nestW := List.mem_of_getElem? (i := 28) rfl
section FI
variable {E : Ev} {d : Nat} {X : Mx} {cc : ByteArray} {own : String} {nL : Nat} {ret : Option FieldType} {R : Option Value → St → Prop} {σ : St} {pc : Nat} {L : List (Nat × Value)} {st : List Value}
theorem gf_X7_now (C : Cx E X cc own nL ret) {b ix : Nat} (hk : kd b = (0, 0)) (hdg : decode cc pc = .ok (.getfield ix, 3)) (hl : Cond.fieldLink own ix "ShapeMoves" "now" "LShapeMoves$Setup;" ∈ lw_tbl) (kk : G E d X nL R σ (pc + 3) L (.ref (ev_a E (1)) :: st)) : G E d X nL R σ pc L (.ref (ev_a E b) :: st) := g_get C (k := 0) (N := 9) (T := TX7) (ci := 6) (kd_lt2 hk (by decide)) (by rw [hk]; rfl) rfl inG7 (by decide) hl rfl rfl hdg kk
theorem gn_X7_now (C : Cx E X cc own nL ret) {b ix : Nat} (hk : kd b = (0, 0)) (hdg : decode cc pc = .ok (.getfield ix, 3)) (hl : Cond.fieldLinkNest own ix "ShapeMoves" "now" "LShapeMoves$Setup;" "ShapeMoves" ∈ nestW) (kk : G E d X nL R σ (pc + 3) L (.ref (ev_a E (1)) :: st)) : G E d X nL R σ pc L (.ref (ev_a E b) :: st) := g_getN C (k := 0) (N := 9) (T := TX7) (ci := 6) (kd_lt2 hk (by decide)) (by rw [hk]; rfl) rfl inG7 (by decide) hl rfl rfl hdg kk
theorem gf_X7_imaged (C : Cx E X cc own nL ret) {b ix : Nat} (hk : kd b = (0, 0)) (hdg : decode cc pc = .ok (.getfield ix, 3)) (hl : Cond.fieldLink own ix "ShapeMoves" "imaged" "LShapeMoves$Setup;" ∈ lw_tbl) (kk : G E d X nL R σ (pc + 3) L (.ref (ev_a E (2)) :: st)) : G E d X nL R σ pc L (.ref (ev_a E b) :: st) := g_get C (k := 1) (N := 9) (T := TX7) (ci := 6) (kd_lt2 hk (by decide)) (by rw [hk]; rfl) rfl inG7 (by decide) hl rfl rfl hdg kk
theorem gn_X7_imaged (C : Cx E X cc own nL ret) {b ix : Nat} (hk : kd b = (0, 0)) (hdg : decode cc pc = .ok (.getfield ix, 3)) (hl : Cond.fieldLinkNest own ix "ShapeMoves" "imaged" "LShapeMoves$Setup;" "ShapeMoves" ∈ nestW) (kk : G E d X nL R σ (pc + 3) L (.ref (ev_a E (2)) :: st)) : G E d X nL R σ pc L (.ref (ev_a E b) :: st) := g_getN C (k := 1) (N := 9) (T := TX7) (ci := 6) (kd_lt2 hk (by decide)) (by rw [hk]; rfl) rfl inG7 (by decide) hl rfl rfl hdg kk
theorem gf_X7_isImaged (C : Cx E X cc own nL ret) {b ix : Nat} (hk : kd b = (0, 0)) (hdg : decode cc pc = .ok (.getfield ix, 3)) (hl : Cond.fieldLink own ix "ShapeMoves" "isImaged" "Z" ∈ lw_tbl) (kk : G E d X nL R σ (pc + 3) L (.int (σ.1 b 2) :: st)) : G E d X nL R σ pc L (.ref (ev_a E b) :: st) := g_get C (k := 2) (N := 9) (T := TX7) (ci := 6) (kd_lt2 hk (by decide)) (by rw [hk]; rfl) rfl inG7 (by decide) hl rfl rfl hdg kk
theorem gp_X7_isImaged (C : Cx E X cc own nL ret) {b ix : Nat} (hk : kd b = (0, 0)) {v : Int32} (hv : v = 0 ∨ v = 1) (hdg : decode cc pc = .ok (.putfield ix, 3)) (hl : Cond.fieldLink own ix "ShapeMoves" "isImaged" "Z" ∈ lw_tbl) (kk : G E d X nL R (sI σ b (upd (σ.1 b) 2 v)) (pc + 3) L st) : G E d X nL R σ pc L (.int v :: .ref (ev_a E b) :: st) := g_put C (k := 2) (N := 9) (T := TX7) (ci := 6) (kd_lt2 hk (by decide)) (by rw [hk]; rfl) rfl inG7 tyX7_ok nmX7 (by decide) hl rfl rfl (by rcases hv with rfl | rfl <;> rfl) (by rcases hv with rfl | rfl <;> rfl) (Nat.le_of_ble_eq_true rfl) (by rw [hk]; rfl) hdg kk
theorem gn_X7_isImaged (C : Cx E X cc own nL ret) {b ix : Nat} (hk : kd b = (0, 0)) (hdg : decode cc pc = .ok (.getfield ix, 3)) (hl : Cond.fieldLinkNest own ix "ShapeMoves" "isImaged" "Z" "ShapeMoves" ∈ nestW) (kk : G E d X nL R σ (pc + 3) L (.int (σ.1 b 2) :: st)) : G E d X nL R σ pc L (.ref (ev_a E b) :: st) := g_getN C (k := 2) (N := 9) (T := TX7) (ci := 6) (kd_lt2 hk (by decide)) (by rw [hk]; rfl) rfl inG7 (by decide) hl rfl rfl hdg kk
theorem gq_X7_isImaged (C : Cx E X cc own nL ret) {b ix : Nat} (hk : kd b = (0, 0)) {v : Int32} (hv : v = 0 ∨ v = 1) (hdg : decode cc pc = .ok (.putfield ix, 3)) (hl : Cond.fieldLinkNest own ix "ShapeMoves" "isImaged" "Z" "ShapeMoves" ∈ nestW) (kk : G E d X nL R (sI σ b (upd (σ.1 b) 2 v)) (pc + 3) L st) : G E d X nL R σ pc L (.int v :: .ref (ev_a E b) :: st) := g_putN C (k := 2) (N := 9) (T := TX7) (ci := 6) (kd_lt2 hk (by decide)) (by rw [hk]; rfl) rfl inG7 tyX7_ok nmX7 (by decide) hl rfl rfl (by rcases hv with rfl | rfl <;> rfl) (by rcases hv with rfl | rfl <;> rfl) (Nat.le_of_ble_eq_true rfl) (by rw [hk]; rfl) hdg kk
theorem gf_X7_nowGroup (C : Cx E X cc own nL ret) {b ix : Nat} (hk : kd b = (0, 0)) (hdg : decode cc pc = .ok (.getfield ix, 3)) (hl : Cond.fieldLink own ix "ShapeMoves" "nowGroup" "LShapeMoves$Group;" ∈ lw_tbl) (kk : G E d X nL R σ (pc + 3) L (.ref (ev_a E (30)) :: st)) : G E d X nL R σ pc L (.ref (ev_a E b) :: st) := g_get C (k := 3) (N := 9) (T := TX7) (ci := 6) (kd_lt2 hk (by decide)) (by rw [hk]; rfl) rfl inG7 (by decide) hl rfl rfl hdg kk
theorem gn_X7_nowGroup (C : Cx E X cc own nL ret) {b ix : Nat} (hk : kd b = (0, 0)) (hdg : decode cc pc = .ok (.getfield ix, 3)) (hl : Cond.fieldLinkNest own ix "ShapeMoves" "nowGroup" "LShapeMoves$Group;" "ShapeMoves" ∈ nestW) (kk : G E d X nL R σ (pc + 3) L (.ref (ev_a E (30)) :: st)) : G E d X nL R σ pc L (.ref (ev_a E b) :: st) := g_getN C (k := 3) (N := 9) (T := TX7) (ci := 6) (kd_lt2 hk (by decide)) (by rw [hk]; rfl) rfl inG7 (by decide) hl rfl rfl hdg kk
theorem gf_X7_isGroupOld (C : Cx E X cc own nL ret) {b ix : Nat} (hk : kd b = (0, 0)) (hdg : decode cc pc = .ok (.getfield ix, 3)) (hl : Cond.fieldLink own ix "ShapeMoves" "isGroupOld" "Z" ∈ lw_tbl) (kk : G E d X nL R σ (pc + 3) L (.int (σ.1 b 4) :: st)) : G E d X nL R σ pc L (.ref (ev_a E b) :: st) := g_get C (k := 4) (N := 9) (T := TX7) (ci := 6) (kd_lt2 hk (by decide)) (by rw [hk]; rfl) rfl inG7 (by decide) hl rfl rfl hdg kk
theorem gp_X7_isGroupOld (C : Cx E X cc own nL ret) {b ix : Nat} (hk : kd b = (0, 0)) {v : Int32} (hv : v = 0 ∨ v = 1) (hdg : decode cc pc = .ok (.putfield ix, 3)) (hl : Cond.fieldLink own ix "ShapeMoves" "isGroupOld" "Z" ∈ lw_tbl) (kk : G E d X nL R (sI σ b (upd (σ.1 b) 4 v)) (pc + 3) L st) : G E d X nL R σ pc L (.int v :: .ref (ev_a E b) :: st) := g_put C (k := 4) (N := 9) (T := TX7) (ci := 6) (kd_lt2 hk (by decide)) (by rw [hk]; rfl) rfl inG7 tyX7_ok nmX7 (by decide) hl rfl rfl (by rcases hv with rfl | rfl <;> rfl) (by rcases hv with rfl | rfl <;> rfl) (Nat.le_of_ble_eq_true rfl) (by rw [hk]; rfl) hdg kk
theorem gn_X7_isGroupOld (C : Cx E X cc own nL ret) {b ix : Nat} (hk : kd b = (0, 0)) (hdg : decode cc pc = .ok (.getfield ix, 3)) (hl : Cond.fieldLinkNest own ix "ShapeMoves" "isGroupOld" "Z" "ShapeMoves" ∈ nestW) (kk : G E d X nL R σ (pc + 3) L (.int (σ.1 b 4) :: st)) : G E d X nL R σ pc L (.ref (ev_a E b) :: st) := g_getN C (k := 4) (N := 9) (T := TX7) (ci := 6) (kd_lt2 hk (by decide)) (by rw [hk]; rfl) rfl inG7 (by decide) hl rfl rfl hdg kk
theorem gq_X7_isGroupOld (C : Cx E X cc own nL ret) {b ix : Nat} (hk : kd b = (0, 0)) {v : Int32} (hv : v = 0 ∨ v = 1) (hdg : decode cc pc = .ok (.putfield ix, 3)) (hl : Cond.fieldLinkNest own ix "ShapeMoves" "isGroupOld" "Z" "ShapeMoves" ∈ nestW) (kk : G E d X nL R (sI σ b (upd (σ.1 b) 4 v)) (pc + 3) L st) : G E d X nL R σ pc L (.int v :: .ref (ev_a E b) :: st) := g_putN C (k := 4) (N := 9) (T := TX7) (ci := 6) (kd_lt2 hk (by decide)) (by rw [hk]; rfl) rfl inG7 tyX7_ok nmX7 (by decide) hl rfl rfl (by rcases hv with rfl | rfl <;> rfl) (by rcases hv with rfl | rfl <;> rfl) (Nat.le_of_ble_eq_true rfl) (by rw [hk]; rfl) hdg kk
theorem gf_X7_trial (C : Cx E X cc own nL ret) {b ix : Nat} (hk : kd b = (0, 0)) (hdg : decode cc pc = .ok (.getfield ix, 3)) (hl : Cond.fieldLink own ix "ShapeMoves" "trial" "LShapeMoves$Shape;" ∈ lw_tbl) (kk : G E d X nL R σ (pc + 3) L (.ref (ev_a E (9)) :: st)) : G E d X nL R σ pc L (.ref (ev_a E b) :: st) := g_get C (k := 5) (N := 9) (T := TX7) (ci := 6) (kd_lt2 hk (by decide)) (by rw [hk]; rfl) rfl inG7 (by decide) hl rfl rfl hdg kk
theorem gn_X7_trial (C : Cx E X cc own nL ret) {b ix : Nat} (hk : kd b = (0, 0)) (hdg : decode cc pc = .ok (.getfield ix, 3)) (hl : Cond.fieldLinkNest own ix "ShapeMoves" "trial" "LShapeMoves$Shape;" "ShapeMoves" ∈ nestW) (kk : G E d X nL R σ (pc + 3) L (.ref (ev_a E (9)) :: st)) : G E d X nL R σ pc L (.ref (ev_a E b) :: st) := g_getN C (k := 5) (N := 9) (T := TX7) (ci := 6) (kd_lt2 hk (by decide)) (by rw [hk]; rfl) rfl inG7 (by decide) hl rfl rfl hdg kk
theorem gf_X7_trialGroup (C : Cx E X cc own nL ret) {b ix : Nat} (hk : kd b = (0, 0)) (hdg : decode cc pc = .ok (.getfield ix, 3)) (hl : Cond.fieldLink own ix "ShapeMoves" "trialGroup" "LShapeMoves$Group;" ∈ lw_tbl) (kk : G E d X nL R σ (pc + 3) L (.ref (ev_a E (39)) :: st)) : G E d X nL R σ pc L (.ref (ev_a E b) :: st) := g_get C (k := 6) (N := 9) (T := TX7) (ci := 6) (kd_lt2 hk (by decide)) (by rw [hk]; rfl) rfl inG7 (by decide) hl rfl rfl hdg kk
theorem gn_X7_trialGroup (C : Cx E X cc own nL ret) {b ix : Nat} (hk : kd b = (0, 0)) (hdg : decode cc pc = .ok (.getfield ix, 3)) (hl : Cond.fieldLinkNest own ix "ShapeMoves" "trialGroup" "LShapeMoves$Group;" "ShapeMoves" ∈ nestW) (kk : G E d X nL R σ (pc + 3) L (.ref (ev_a E (39)) :: st)) : G E d X nL R σ pc L (.ref (ev_a E b) :: st) := g_getN C (k := 6) (N := 9) (T := TX7) (ci := 6) (kd_lt2 hk (by decide)) (by rw [hk]; rfl) rfl inG7 (by decide) hl rfl rfl hdg kk
theorem gf_X7_text (C : Cx E X cc own nL ret) {b ix : Nat} (hk : kd b = (0, 0)) (hdg : decode cc pc = .ok (.getfield ix, 3)) (hl : Cond.fieldLink own ix "ShapeMoves" "text" "LShapeMoves$Text;" ∈ lw_tbl) (kk : G E d X nL R σ (pc + 3) L (.ref (ev_a E (48)) :: st)) : G E d X nL R σ pc L (.ref (ev_a E b) :: st) := g_get C (k := 7) (N := 9) (T := TX7) (ci := 6) (kd_lt2 hk (by decide)) (by rw [hk]; rfl) rfl inG7 (by decide) hl rfl rfl hdg kk
theorem gn_X7_text (C : Cx E X cc own nL ret) {b ix : Nat} (hk : kd b = (0, 0)) (hdg : decode cc pc = .ok (.getfield ix, 3)) (hl : Cond.fieldLinkNest own ix "ShapeMoves" "text" "LShapeMoves$Text;" "ShapeMoves" ∈ nestW) (kk : G E d X nL R σ (pc + 3) L (.ref (ev_a E (48)) :: st)) : G E d X nL R σ pc L (.ref (ev_a E b) :: st) := g_getN C (k := 7) (N := 9) (T := TX7) (ci := 6) (kd_lt2 hk (by decide)) (by rw [hk]; rfl) rfl inG7 (by decide) hl rfl rfl hdg kk
theorem gf_X7_tapes (C : Cx E X cc own nL ret) {b ix : Nat} (hk : kd b = (0, 0)) (hdg : decode cc pc = .ok (.getfield ix, 3)) (hl : Cond.fieldLink own ix "ShapeMoves" "tapes" "[LShapeMoves$Tape;" ∈ lw_tbl) (kk : G E d X nL R σ (pc + 3) L (.ref (ev_a E (51)) :: st)) : G E d X nL R σ pc L (.ref (ev_a E b) :: st) := g_get C (k := 8) (N := 9) (T := TX7) (ci := 6) (kd_lt2 hk (by decide)) (by rw [hk]; rfl) rfl inG7 (by decide) hl rfl rfl hdg kk
theorem gn_X7_tapes (C : Cx E X cc own nL ret) {b ix : Nat} (hk : kd b = (0, 0)) (hdg : decode cc pc = .ok (.getfield ix, 3)) (hl : Cond.fieldLinkNest own ix "ShapeMoves" "tapes" "[LShapeMoves$Tape;" "ShapeMoves" ∈ nestW) (kk : G E d X nL R σ (pc + 3) L (.ref (ev_a E (51)) :: st)) : G E d X nL R σ pc L (.ref (ev_a E b) :: st) := g_getN C (k := 8) (N := 9) (T := TX7) (ci := 6) (kd_lt2 hk (by decide)) (by rw [hk]; rfl) rfl inG7 (by decide) hl rfl rfl hdg kk
theorem gf_X3_shape (C : Cx E X cc own nL ret) {b ix : Nat} (hk : kd b = (1, 0)) (hdg : decode cc pc = .ok (.getfield ix, 3)) (hl : Cond.fieldLink own ix "ShapeMoves$Setup" "shape" "LShapeMoves$Shape;" ∈ lw_tbl) (kk : G E d X nL R σ (pc + 3) L (.ref (ev_a E (3 * b)) :: st)) : G E d X nL R σ pc L (.ref (ev_a E b) :: st) := g_get C (k := 0) (N := 4) (T := TX3) (ci := 2) (kd_lt2 hk (by decide)) (by rw [hk]; rfl) rfl inG3 (by decide) hl rfl rfl hdg kk
theorem gn_X3_shape (C : Cx E X cc own nL ret) {b ix : Nat} (hk : kd b = (1, 0)) (hdg : decode cc pc = .ok (.getfield ix, 3)) (hl : Cond.fieldLinkNest own ix "ShapeMoves$Setup" "shape" "LShapeMoves$Shape;" "ShapeMoves" ∈ nestW) (kk : G E d X nL R σ (pc + 3) L (.ref (ev_a E (3 * b)) :: st)) : G E d X nL R σ pc L (.ref (ev_a E b) :: st) := g_getN C (k := 0) (N := 4) (T := TX3) (ci := 2) (kd_lt2 hk (by decide)) (by rw [hk]; rfl) rfl inG3 (by decide) hl rfl rfl hdg kk
theorem gf_X3_seen (C : Cx E X cc own nL ret) {b ix : Nat} (hk : kd b = (1, 0)) (hdg : decode cc pc = .ok (.getfield ix, 3)) (hl : Cond.fieldLink own ix "ShapeMoves$Setup" "seen" "LShapeMoves$Rows;" ∈ lw_tbl) (kk : G E d X nL R σ (pc + 3) L (.ref (ev_a E (9 * b + 3)) :: st)) : G E d X nL R σ pc L (.ref (ev_a E b) :: st) := g_get C (k := 1) (N := 4) (T := TX3) (ci := 2) (kd_lt2 hk (by decide)) (by rw [hk]; rfl) rfl inG3 (by decide) hl rfl rfl hdg kk
theorem gn_X3_seen (C : Cx E X cc own nL ret) {b ix : Nat} (hk : kd b = (1, 0)) (hdg : decode cc pc = .ok (.getfield ix, 3)) (hl : Cond.fieldLinkNest own ix "ShapeMoves$Setup" "seen" "LShapeMoves$Rows;" "ShapeMoves" ∈ nestW) (kk : G E d X nL R σ (pc + 3) L (.ref (ev_a E (9 * b + 3)) :: st)) : G E d X nL R σ pc L (.ref (ev_a E b) :: st) := g_getN C (k := 1) (N := 4) (T := TX3) (ci := 2) (kd_lt2 hk (by decide)) (by rw [hk]; rfl) rfl inG3 (by decide) hl rfl rfl hdg kk
theorem gf_X3_events (C : Cx E X cc own nL ret) {b ix : Nat} (hk : kd b = (1, 0)) (hdg : decode cc pc = .ok (.getfield ix, 3)) (hl : Cond.fieldLink own ix "ShapeMoves$Setup" "events" "LShapeMoves$Rows;" ∈ lw_tbl) (kk : G E d X nL R σ (pc + 3) L (.ref (ev_a E (9 * b + 6)) :: st)) : G E d X nL R σ pc L (.ref (ev_a E b) :: st) := g_get C (k := 2) (N := 4) (T := TX3) (ci := 2) (kd_lt2 hk (by decide)) (by rw [hk]; rfl) rfl inG3 (by decide) hl rfl rfl hdg kk
theorem gn_X3_events (C : Cx E X cc own nL ret) {b ix : Nat} (hk : kd b = (1, 0)) (hdg : decode cc pc = .ok (.getfield ix, 3)) (hl : Cond.fieldLinkNest own ix "ShapeMoves$Setup" "events" "LShapeMoves$Rows;" "ShapeMoves" ∈ nestW) (kk : G E d X nL R σ (pc + 3) L (.ref (ev_a E (9 * b + 6)) :: st)) : G E d X nL R σ pc L (.ref (ev_a E b) :: st) := g_getN C (k := 2) (N := 4) (T := TX3) (ci := 2) (kd_lt2 hk (by decide)) (by rw [hk]; rfl) rfl inG3 (by decide) hl rfl rfl hdg kk
theorem gf_X3_book (C : Cx E X cc own nL ret) {b ix : Nat} (hk : kd b = (1, 0)) (hdg : decode cc pc = .ok (.getfield ix, 3)) (hl : Cond.fieldLink own ix "ShapeMoves$Setup" "book" "LShapeMoves$Rows;" ∈ lw_tbl) (kk : G E d X nL R σ (pc + 3) L (.ref (ev_a E (9 * b + 9)) :: st)) : G E d X nL R σ pc L (.ref (ev_a E b) :: st) := g_get C (k := 3) (N := 4) (T := TX3) (ci := 2) (kd_lt2 hk (by decide)) (by rw [hk]; rfl) rfl inG3 (by decide) hl rfl rfl hdg kk
theorem gn_X3_book (C : Cx E X cc own nL ret) {b ix : Nat} (hk : kd b = (1, 0)) (hdg : decode cc pc = .ok (.getfield ix, 3)) (hl : Cond.fieldLinkNest own ix "ShapeMoves$Setup" "book" "LShapeMoves$Rows;" "ShapeMoves" ∈ nestW) (kk : G E d X nL R σ (pc + 3) L (.ref (ev_a E (9 * b + 9)) :: st)) : G E d X nL R σ pc L (.ref (ev_a E b) :: st) := g_getN C (k := 3) (N := 4) (T := TX3) (ci := 2) (kd_lt2 hk (by decide)) (by rw [hk]; rfl) rfl inG3 (by decide) hl rfl rfl hdg kk
theorem gf_X4_places (C : Cx E X cc own nL ret) {b ix : Nat} (hk : kd b = (2, 0)) (hdg : decode cc pc = .ok (.getfield ix, 3)) (hl : Cond.fieldLink own ix "ShapeMoves$Shape" "places" "[I" ∈ lw_tbl) (kk : G E d X nL R σ (pc + 3) L (.ref (ev_a E (b + 1)) :: st)) : G E d X nL R σ pc L (.ref (ev_a E b) :: st) := g_get C (k := 0) (N := 3) (T := TX4) (ci := 3) (kd_lt2 hk (by decide)) (by rw [hk]; rfl) rfl inG4 (by decide) hl rfl rfl hdg kk
theorem gn_X4_places (C : Cx E X cc own nL ret) {b ix : Nat} (hk : kd b = (2, 0)) (hdg : decode cc pc = .ok (.getfield ix, 3)) (hl : Cond.fieldLinkNest own ix "ShapeMoves$Shape" "places" "[I" "ShapeMoves" ∈ nestW) (kk : G E d X nL R σ (pc + 3) L (.ref (ev_a E (b + 1)) :: st)) : G E d X nL R σ pc L (.ref (ev_a E b) :: st) := g_getN C (k := 0) (N := 3) (T := TX4) (ci := 3) (kd_lt2 hk (by decide)) (by rw [hk]; rfl) rfl inG4 (by decide) hl rfl rfl hdg kk
theorem gf_X4_marks (C : Cx E X cc own nL ret) {b ix : Nat} (hk : kd b = (2, 0)) (hdg : decode cc pc = .ok (.getfield ix, 3)) (hl : Cond.fieldLink own ix "ShapeMoves$Shape" "marks" "[I" ∈ lw_tbl) (kk : G E d X nL R σ (pc + 3) L (.ref (ev_a E (b + 2)) :: st)) : G E d X nL R σ pc L (.ref (ev_a E b) :: st) := g_get C (k := 1) (N := 3) (T := TX4) (ci := 3) (kd_lt2 hk (by decide)) (by rw [hk]; rfl) rfl inG4 (by decide) hl rfl rfl hdg kk
theorem gn_X4_marks (C : Cx E X cc own nL ret) {b ix : Nat} (hk : kd b = (2, 0)) (hdg : decode cc pc = .ok (.getfield ix, 3)) (hl : Cond.fieldLinkNest own ix "ShapeMoves$Shape" "marks" "[I" "ShapeMoves" ∈ nestW) (kk : G E d X nL R σ (pc + 3) L (.ref (ev_a E (b + 2)) :: st)) : G E d X nL R σ pc L (.ref (ev_a E b) :: st) := g_getN C (k := 1) (N := 3) (T := TX4) (ci := 3) (kd_lt2 hk (by decide)) (by rw [hk]; rfl) rfl inG4 (by decide) hl rfl rfl hdg kk
theorem gf_X4_size (C : Cx E X cc own nL ret) {b ix : Nat} (hk : kd b = (2, 0)) (hdg : decode cc pc = .ok (.getfield ix, 3)) (hl : Cond.fieldLink own ix "ShapeMoves$Shape" "size" "I" ∈ lw_tbl) (kk : G E d X nL R σ (pc + 3) L (.int (σ.1 b 2) :: st)) : G E d X nL R σ pc L (.ref (ev_a E b) :: st) := g_get C (k := 2) (N := 3) (T := TX4) (ci := 3) (kd_lt2 hk (by decide)) (by rw [hk]; rfl) rfl inG4 (by decide) hl rfl rfl hdg kk
theorem gp_X4_size (C : Cx E X cc own nL ret) {b ix : Nat} (hk : kd b = (2, 0)) {v : Int32} (hdg : decode cc pc = .ok (.putfield ix, 3)) (hl : Cond.fieldLink own ix "ShapeMoves$Shape" "size" "I" ∈ lw_tbl) (kk : G E d X nL R (sI σ b (upd (σ.1 b) 2 v)) (pc + 3) L st) : G E d X nL R σ pc L (.int v :: .ref (ev_a E b) :: st) := g_put C (k := 2) (N := 3) (T := TX4) (ci := 3) (kd_lt2 hk (by decide)) (by rw [hk]; rfl) rfl inG4 tyX4_ok nmX4 (by decide) hl rfl rfl rfl rfl (Nat.le_of_ble_eq_true rfl) (by rw [hk]; rfl) hdg kk
theorem gn_X4_size (C : Cx E X cc own nL ret) {b ix : Nat} (hk : kd b = (2, 0)) (hdg : decode cc pc = .ok (.getfield ix, 3)) (hl : Cond.fieldLinkNest own ix "ShapeMoves$Shape" "size" "I" "ShapeMoves" ∈ nestW) (kk : G E d X nL R σ (pc + 3) L (.int (σ.1 b 2) :: st)) : G E d X nL R σ pc L (.ref (ev_a E b) :: st) := g_getN C (k := 2) (N := 3) (T := TX4) (ci := 3) (kd_lt2 hk (by decide)) (by rw [hk]; rfl) rfl inG4 (by decide) hl rfl rfl hdg kk
theorem gq_X4_size (C : Cx E X cc own nL ret) {b ix : Nat} (hk : kd b = (2, 0)) {v : Int32} (hdg : decode cc pc = .ok (.putfield ix, 3)) (hl : Cond.fieldLinkNest own ix "ShapeMoves$Shape" "size" "I" "ShapeMoves" ∈ nestW) (kk : G E d X nL R (sI σ b (upd (σ.1 b) 2 v)) (pc + 3) L st) : G E d X nL R σ pc L (.int v :: .ref (ev_a E b) :: st) := g_putN C (k := 2) (N := 3) (T := TX4) (ci := 3) (kd_lt2 hk (by decide)) (by rw [hk]; rfl) rfl inG4 tyX4_ok nmX4 (by decide) hl rfl rfl rfl rfl (Nat.le_of_ble_eq_true rfl) (by rw [hk]; rfl) hdg kk
theorem gf_X2_first (C : Cx E X cc own nL ret) {b ix : Nat} (hk : kd b = (3, 0)) (hdg : decode cc pc = .ok (.getfield ix, 3)) (hl : Cond.fieldLink own ix "ShapeMoves$Rows" "first" "[I" ∈ lw_tbl) (kk : G E d X nL R σ (pc + 3) L (.ref (ev_a E (b + 1)) :: st)) : G E d X nL R σ pc L (.ref (ev_a E b) :: st) := g_get C (k := 0) (N := 3) (T := TX2) (ci := 1) (kd_lt2 hk (by decide)) (by rw [hk]; rfl) rfl inG2 (by decide) hl rfl rfl hdg kk
theorem gn_X2_first (C : Cx E X cc own nL ret) {b ix : Nat} (hk : kd b = (3, 0)) (hdg : decode cc pc = .ok (.getfield ix, 3)) (hl : Cond.fieldLinkNest own ix "ShapeMoves$Rows" "first" "[I" "ShapeMoves" ∈ nestW) (kk : G E d X nL R σ (pc + 3) L (.ref (ev_a E (b + 1)) :: st)) : G E d X nL R σ pc L (.ref (ev_a E b) :: st) := g_getN C (k := 0) (N := 3) (T := TX2) (ci := 1) (kd_lt2 hk (by decide)) (by rw [hk]; rfl) rfl inG2 (by decide) hl rfl rfl hdg kk
theorem gf_X2_second (C : Cx E X cc own nL ret) {b ix : Nat} (hk : kd b = (3, 0)) (hdg : decode cc pc = .ok (.getfield ix, 3)) (hl : Cond.fieldLink own ix "ShapeMoves$Rows" "second" "[I" ∈ lw_tbl) (kk : G E d X nL R σ (pc + 3) L (.ref (ev_a E (b + 2)) :: st)) : G E d X nL R σ pc L (.ref (ev_a E b) :: st) := g_get C (k := 1) (N := 3) (T := TX2) (ci := 1) (kd_lt2 hk (by decide)) (by rw [hk]; rfl) rfl inG2 (by decide) hl rfl rfl hdg kk
theorem gn_X2_second (C : Cx E X cc own nL ret) {b ix : Nat} (hk : kd b = (3, 0)) (hdg : decode cc pc = .ok (.getfield ix, 3)) (hl : Cond.fieldLinkNest own ix "ShapeMoves$Rows" "second" "[I" "ShapeMoves" ∈ nestW) (kk : G E d X nL R σ (pc + 3) L (.ref (ev_a E (b + 2)) :: st)) : G E d X nL R σ pc L (.ref (ev_a E b) :: st) := g_getN C (k := 1) (N := 3) (T := TX2) (ci := 1) (kd_lt2 hk (by decide)) (by rw [hk]; rfl) rfl inG2 (by decide) hl rfl rfl hdg kk
theorem gf_X2_size (C : Cx E X cc own nL ret) {b ix : Nat} (hk : kd b = (3, 0)) (hdg : decode cc pc = .ok (.getfield ix, 3)) (hl : Cond.fieldLink own ix "ShapeMoves$Rows" "size" "I" ∈ lw_tbl) (kk : G E d X nL R σ (pc + 3) L (.int (σ.1 b 2) :: st)) : G E d X nL R σ pc L (.ref (ev_a E b) :: st) := g_get C (k := 2) (N := 3) (T := TX2) (ci := 1) (kd_lt2 hk (by decide)) (by rw [hk]; rfl) rfl inG2 (by decide) hl rfl rfl hdg kk
theorem gp_X2_size (C : Cx E X cc own nL ret) {b ix : Nat} (hk : kd b = (3, 0)) {v : Int32} (hdg : decode cc pc = .ok (.putfield ix, 3)) (hl : Cond.fieldLink own ix "ShapeMoves$Rows" "size" "I" ∈ lw_tbl) (kk : G E d X nL R (sI σ b (upd (σ.1 b) 2 v)) (pc + 3) L st) : G E d X nL R σ pc L (.int v :: .ref (ev_a E b) :: st) := g_put C (k := 2) (N := 3) (T := TX2) (ci := 1) (kd_lt2 hk (by decide)) (by rw [hk]; rfl) rfl inG2 tyX2_ok nmX2 (by decide) hl rfl rfl rfl rfl (Nat.le_of_ble_eq_true rfl) (by rw [hk]; rfl) hdg kk
theorem gn_X2_size (C : Cx E X cc own nL ret) {b ix : Nat} (hk : kd b = (3, 0)) (hdg : decode cc pc = .ok (.getfield ix, 3)) (hl : Cond.fieldLinkNest own ix "ShapeMoves$Rows" "size" "I" "ShapeMoves" ∈ nestW) (kk : G E d X nL R σ (pc + 3) L (.int (σ.1 b 2) :: st)) : G E d X nL R σ pc L (.ref (ev_a E b) :: st) := g_getN C (k := 2) (N := 3) (T := TX2) (ci := 1) (kd_lt2 hk (by decide)) (by rw [hk]; rfl) rfl inG2 (by decide) hl rfl rfl hdg kk
theorem gq_X2_size (C : Cx E X cc own nL ret) {b ix : Nat} (hk : kd b = (3, 0)) {v : Int32} (hdg : decode cc pc = .ok (.putfield ix, 3)) (hl : Cond.fieldLinkNest own ix "ShapeMoves$Rows" "size" "I" "ShapeMoves" ∈ nestW) (kk : G E d X nL R (sI σ b (upd (σ.1 b) 2 v)) (pc + 3) L st) : G E d X nL R σ pc L (.int v :: .ref (ev_a E b) :: st) := g_putN C (k := 2) (N := 3) (T := TX2) (ci := 1) (kd_lt2 hk (by decide)) (by rw [hk]; rfl) rfl inG2 tyX2_ok nmX2 (by decide) hl rfl rfl rfl rfl (Nat.le_of_ble_eq_true rfl) (by rw [hk]; rfl) hdg kk
theorem gf_X0_members (C : Cx E X cc own nL ret) {b ix : Nat} (hk : kd b = (4, 0)) (hdg : decode cc pc = .ok (.getfield ix, 3)) (hl : Cond.fieldLink own ix "ShapeMoves$Group" "members" "[Z" ∈ lw_tbl) (kk : G E d X nL R σ (pc + 3) L (.ref (ev_a E (b + 1)) :: st)) : G E d X nL R σ pc L (.ref (ev_a E b) :: st) := g_get C (k := 0) (N := 13) (T := TX0) (ci := 0) (kd_lt2 hk (by decide)) (by rw [hk]; rfl) rfl inG0 (by decide) hl rfl rfl hdg kk
theorem gn_X0_members (C : Cx E X cc own nL ret) {b ix : Nat} (hk : kd b = (4, 0)) (hdg : decode cc pc = .ok (.getfield ix, 3)) (hl : Cond.fieldLinkNest own ix "ShapeMoves$Group" "members" "[Z" "ShapeMoves" ∈ nestW) (kk : G E d X nL R σ (pc + 3) L (.ref (ev_a E (b + 1)) :: st)) : G E d X nL R σ pc L (.ref (ev_a E b) :: st) := g_getN C (k := 0) (N := 13) (T := TX0) (ci := 0) (kd_lt2 hk (by decide)) (by rw [hk]; rfl) rfl inG0 (by decide) hl rfl rfl hdg kk
theorem gf_X0_byNumber (C : Cx E X cc own nL ret) {b ix : Nat} (hk : kd b = (4, 0)) (hdg : decode cc pc = .ok (.getfield ix, 3)) (hl : Cond.fieldLink own ix "ShapeMoves$Group" "byNumber" "[I" ∈ lw_tbl) (kk : G E d X nL R σ (pc + 3) L (.ref (ev_a E (b + 2)) :: st)) : G E d X nL R σ pc L (.ref (ev_a E b) :: st) := g_get C (k := 1) (N := 13) (T := TX0) (ci := 0) (kd_lt2 hk (by decide)) (by rw [hk]; rfl) rfl inG0 (by decide) hl rfl rfl hdg kk
theorem gn_X0_byNumber (C : Cx E X cc own nL ret) {b ix : Nat} (hk : kd b = (4, 0)) (hdg : decode cc pc = .ok (.getfield ix, 3)) (hl : Cond.fieldLinkNest own ix "ShapeMoves$Group" "byNumber" "[I" "ShapeMoves" ∈ nestW) (kk : G E d X nL R σ (pc + 3) L (.ref (ev_a E (b + 2)) :: st)) : G E d X nL R σ pc L (.ref (ev_a E b) :: st) := g_getN C (k := 1) (N := 13) (T := TX0) (ci := 0) (kd_lt2 hk (by decide)) (by rw [hk]; rfl) rfl inG0 (by decide) hl rfl rfl hdg kk
theorem gf_X0_size (C : Cx E X cc own nL ret) {b ix : Nat} (hk : kd b = (4, 0)) (hdg : decode cc pc = .ok (.getfield ix, 3)) (hl : Cond.fieldLink own ix "ShapeMoves$Group" "size" "I" ∈ lw_tbl) (kk : G E d X nL R σ (pc + 3) L (.int (σ.1 b 2) :: st)) : G E d X nL R σ pc L (.ref (ev_a E b) :: st) := g_get C (k := 2) (N := 13) (T := TX0) (ci := 0) (kd_lt2 hk (by decide)) (by rw [hk]; rfl) rfl inG0 (by decide) hl rfl rfl hdg kk
theorem gp_X0_size (C : Cx E X cc own nL ret) {b ix : Nat} (hk : kd b = (4, 0)) {v : Int32} (hdg : decode cc pc = .ok (.putfield ix, 3)) (hl : Cond.fieldLink own ix "ShapeMoves$Group" "size" "I" ∈ lw_tbl) (kk : G E d X nL R (sI σ b (upd (σ.1 b) 2 v)) (pc + 3) L st) : G E d X nL R σ pc L (.int v :: .ref (ev_a E b) :: st) := g_put C (k := 2) (N := 13) (T := TX0) (ci := 0) (kd_lt2 hk (by decide)) (by rw [hk]; rfl) rfl inG0 tyX0_ok nmX0 (by decide) hl rfl rfl rfl rfl (Nat.le_of_ble_eq_true rfl) (by rw [hk]; rfl) hdg kk
theorem gn_X0_size (C : Cx E X cc own nL ret) {b ix : Nat} (hk : kd b = (4, 0)) (hdg : decode cc pc = .ok (.getfield ix, 3)) (hl : Cond.fieldLinkNest own ix "ShapeMoves$Group" "size" "I" "ShapeMoves" ∈ nestW) (kk : G E d X nL R σ (pc + 3) L (.int (σ.1 b 2) :: st)) : G E d X nL R σ pc L (.ref (ev_a E b) :: st) := g_getN C (k := 2) (N := 13) (T := TX0) (ci := 0) (kd_lt2 hk (by decide)) (by rw [hk]; rfl) rfl inG0 (by decide) hl rfl rfl hdg kk
theorem gq_X0_size (C : Cx E X cc own nL ret) {b ix : Nat} (hk : kd b = (4, 0)) {v : Int32} (hdg : decode cc pc = .ok (.putfield ix, 3)) (hl : Cond.fieldLinkNest own ix "ShapeMoves$Group" "size" "I" "ShapeMoves" ∈ nestW) (kk : G E d X nL R (sI σ b (upd (σ.1 b) 2 v)) (pc + 3) L st) : G E d X nL R σ pc L (.int v :: .ref (ev_a E b) :: st) := g_putN C (k := 2) (N := 13) (T := TX0) (ci := 0) (kd_lt2 hk (by decide)) (by rw [hk]; rfl) rfl inG0 tyX0_ok nmX0 (by decide) hl rfl rfl rfl rfl (Nat.le_of_ble_eq_true rfl) (by rw [hk]; rfl) hdg kk
theorem gf_X0_stay (C : Cx E X cc own nL ret) {b ix : Nat} (hk : kd b = (4, 0)) (hdg : decode cc pc = .ok (.getfield ix, 3)) (hl : Cond.fieldLink own ix "ShapeMoves$Group" "stay" "[I" ∈ lw_tbl) (kk : G E d X nL R σ (pc + 3) L (.ref (ev_a E (b + 3)) :: st)) : G E d X nL R σ pc L (.ref (ev_a E b) :: st) := g_get C (k := 3) (N := 13) (T := TX0) (ci := 0) (kd_lt2 hk (by decide)) (by rw [hk]; rfl) rfl inG0 (by decide) hl rfl rfl hdg kk
theorem gn_X0_stay (C : Cx E X cc own nL ret) {b ix : Nat} (hk : kd b = (4, 0)) (hdg : decode cc pc = .ok (.getfield ix, 3)) (hl : Cond.fieldLinkNest own ix "ShapeMoves$Group" "stay" "[I" "ShapeMoves" ∈ nestW) (kk : G E d X nL R σ (pc + 3) L (.ref (ev_a E (b + 3)) :: st)) : G E d X nL R σ pc L (.ref (ev_a E b) :: st) := g_getN C (k := 3) (N := 13) (T := TX0) (ci := 0) (kd_lt2 hk (by decide)) (by rw [hk]; rfl) rfl inG0 (by decide) hl rfl rfl hdg kk
theorem gf_X0_orbits (C : Cx E X cc own nL ret) {b ix : Nat} (hk : kd b = (4, 0)) (hdg : decode cc pc = .ok (.getfield ix, 3)) (hl : Cond.fieldLink own ix "ShapeMoves$Group" "orbits" "[I" ∈ lw_tbl) (kk : G E d X nL R σ (pc + 3) L (.ref (ev_a E (b + 4)) :: st)) : G E d X nL R σ pc L (.ref (ev_a E b) :: st) := g_get C (k := 4) (N := 13) (T := TX0) (ci := 0) (kd_lt2 hk (by decide)) (by rw [hk]; rfl) rfl inG0 (by decide) hl rfl rfl hdg kk
theorem gn_X0_orbits (C : Cx E X cc own nL ret) {b ix : Nat} (hk : kd b = (4, 0)) (hdg : decode cc pc = .ok (.getfield ix, 3)) (hl : Cond.fieldLinkNest own ix "ShapeMoves$Group" "orbits" "[I" "ShapeMoves" ∈ nestW) (kk : G E d X nL R σ (pc + 3) L (.ref (ev_a E (b + 4)) :: st)) : G E d X nL R σ pc L (.ref (ev_a E b) :: st) := g_getN C (k := 4) (N := 13) (T := TX0) (ci := 0) (kd_lt2 hk (by decide)) (by rw [hk]; rfl) rfl inG0 (by decide) hl rfl rfl hdg kk
theorem gf_X0_orbitsInAll (C : Cx E X cc own nL ret) {b ix : Nat} (hk : kd b = (4, 0)) (hdg : decode cc pc = .ok (.getfield ix, 3)) (hl : Cond.fieldLink own ix "ShapeMoves$Group" "orbitsInAll" "I" ∈ lw_tbl) (kk : G E d X nL R σ (pc + 3) L (.int (σ.1 b 5) :: st)) : G E d X nL R σ pc L (.ref (ev_a E b) :: st) := g_get C (k := 5) (N := 13) (T := TX0) (ci := 0) (kd_lt2 hk (by decide)) (by rw [hk]; rfl) rfl inG0 (by decide) hl rfl rfl hdg kk
theorem gp_X0_orbitsInAll (C : Cx E X cc own nL ret) {b ix : Nat} (hk : kd b = (4, 0)) {v : Int32} (hdg : decode cc pc = .ok (.putfield ix, 3)) (hl : Cond.fieldLink own ix "ShapeMoves$Group" "orbitsInAll" "I" ∈ lw_tbl) (kk : G E d X nL R (sI σ b (upd (σ.1 b) 5 v)) (pc + 3) L st) : G E d X nL R σ pc L (.int v :: .ref (ev_a E b) :: st) := g_put C (k := 5) (N := 13) (T := TX0) (ci := 0) (kd_lt2 hk (by decide)) (by rw [hk]; rfl) rfl inG0 tyX0_ok nmX0 (by decide) hl rfl rfl rfl rfl (Nat.le_of_ble_eq_true rfl) (by rw [hk]; rfl) hdg kk
theorem gn_X0_orbitsInAll (C : Cx E X cc own nL ret) {b ix : Nat} (hk : kd b = (4, 0)) (hdg : decode cc pc = .ok (.getfield ix, 3)) (hl : Cond.fieldLinkNest own ix "ShapeMoves$Group" "orbitsInAll" "I" "ShapeMoves" ∈ nestW) (kk : G E d X nL R σ (pc + 3) L (.int (σ.1 b 5) :: st)) : G E d X nL R σ pc L (.ref (ev_a E b) :: st) := g_getN C (k := 5) (N := 13) (T := TX0) (ci := 0) (kd_lt2 hk (by decide)) (by rw [hk]; rfl) rfl inG0 (by decide) hl rfl rfl hdg kk
theorem gq_X0_orbitsInAll (C : Cx E X cc own nL ret) {b ix : Nat} (hk : kd b = (4, 0)) {v : Int32} (hdg : decode cc pc = .ok (.putfield ix, 3)) (hl : Cond.fieldLinkNest own ix "ShapeMoves$Group" "orbitsInAll" "I" "ShapeMoves" ∈ nestW) (kk : G E d X nL R (sI σ b (upd (σ.1 b) 5 v)) (pc + 3) L st) : G E d X nL R σ pc L (.int v :: .ref (ev_a E b) :: st) := g_putN C (k := 5) (N := 13) (T := TX0) (ci := 0) (kd_lt2 hk (by decide)) (by rw [hk]; rfl) rfl inG0 tyX0_ok nmX0 (by decide) hl rfl rfl rfl rfl (Nat.le_of_ble_eq_true rfl) (by rw [hk]; rfl) hdg kk
theorem gf_X0_classLeast (C : Cx E X cc own nL ret) {b ix : Nat} (hk : kd b = (4, 0)) (hdg : decode cc pc = .ok (.getfield ix, 3)) (hl : Cond.fieldLink own ix "ShapeMoves$Group" "classLeast" "[I" ∈ lw_tbl) (kk : G E d X nL R σ (pc + 3) L (.ref (ev_a E (b + 5)) :: st)) : G E d X nL R σ pc L (.ref (ev_a E b) :: st) := g_get C (k := 6) (N := 13) (T := TX0) (ci := 0) (kd_lt2 hk (by decide)) (by rw [hk]; rfl) rfl inG0 (by decide) hl rfl rfl hdg kk
theorem gn_X0_classLeast (C : Cx E X cc own nL ret) {b ix : Nat} (hk : kd b = (4, 0)) (hdg : decode cc pc = .ok (.getfield ix, 3)) (hl : Cond.fieldLinkNest own ix "ShapeMoves$Group" "classLeast" "[I" "ShapeMoves" ∈ nestW) (kk : G E d X nL R σ (pc + 3) L (.ref (ev_a E (b + 5)) :: st)) : G E d X nL R σ pc L (.ref (ev_a E b) :: st) := g_getN C (k := 6) (N := 13) (T := TX0) (ci := 0) (kd_lt2 hk (by decide)) (by rw [hk]; rfl) rfl inG0 (by decide) hl rfl rfl hdg kk
theorem gf_X0_classList (C : Cx E X cc own nL ret) {b ix : Nat} (hk : kd b = (4, 0)) (hdg : decode cc pc = .ok (.getfield ix, 3)) (hl : Cond.fieldLink own ix "ShapeMoves$Group" "classList" "[I" ∈ lw_tbl) (kk : G E d X nL R σ (pc + 3) L (.ref (ev_a E (b + 6)) :: st)) : G E d X nL R σ pc L (.ref (ev_a E b) :: st) := g_get C (k := 7) (N := 13) (T := TX0) (ci := 0) (kd_lt2 hk (by decide)) (by rw [hk]; rfl) rfl inG0 (by decide) hl rfl rfl hdg kk
theorem gn_X0_classList (C : Cx E X cc own nL ret) {b ix : Nat} (hk : kd b = (4, 0)) (hdg : decode cc pc = .ok (.getfield ix, 3)) (hl : Cond.fieldLinkNest own ix "ShapeMoves$Group" "classList" "[I" "ShapeMoves" ∈ nestW) (kk : G E d X nL R σ (pc + 3) L (.ref (ev_a E (b + 6)) :: st)) : G E d X nL R σ pc L (.ref (ev_a E b) :: st) := g_getN C (k := 7) (N := 13) (T := TX0) (ci := 0) (kd_lt2 hk (by decide)) (by rw [hk]; rfl) rfl inG0 (by decide) hl rfl rfl hdg kk
theorem gf_X0_classes (C : Cx E X cc own nL ret) {b ix : Nat} (hk : kd b = (4, 0)) (hdg : decode cc pc = .ok (.getfield ix, 3)) (hl : Cond.fieldLink own ix "ShapeMoves$Group" "classes" "I" ∈ lw_tbl) (kk : G E d X nL R σ (pc + 3) L (.int (σ.1 b 8) :: st)) : G E d X nL R σ pc L (.ref (ev_a E b) :: st) := g_get C (k := 8) (N := 13) (T := TX0) (ci := 0) (kd_lt2 hk (by decide)) (by rw [hk]; rfl) rfl inG0 (by decide) hl rfl rfl hdg kk
theorem gp_X0_classes (C : Cx E X cc own nL ret) {b ix : Nat} (hk : kd b = (4, 0)) {v : Int32} (hdg : decode cc pc = .ok (.putfield ix, 3)) (hl : Cond.fieldLink own ix "ShapeMoves$Group" "classes" "I" ∈ lw_tbl) (kk : G E d X nL R (sI σ b (upd (σ.1 b) 8 v)) (pc + 3) L st) : G E d X nL R σ pc L (.int v :: .ref (ev_a E b) :: st) := g_put C (k := 8) (N := 13) (T := TX0) (ci := 0) (kd_lt2 hk (by decide)) (by rw [hk]; rfl) rfl inG0 tyX0_ok nmX0 (by decide) hl rfl rfl rfl rfl (Nat.le_of_ble_eq_true rfl) (by rw [hk]; rfl) hdg kk
theorem gn_X0_classes (C : Cx E X cc own nL ret) {b ix : Nat} (hk : kd b = (4, 0)) (hdg : decode cc pc = .ok (.getfield ix, 3)) (hl : Cond.fieldLinkNest own ix "ShapeMoves$Group" "classes" "I" "ShapeMoves" ∈ nestW) (kk : G E d X nL R σ (pc + 3) L (.int (σ.1 b 8) :: st)) : G E d X nL R σ pc L (.ref (ev_a E b) :: st) := g_getN C (k := 8) (N := 13) (T := TX0) (ci := 0) (kd_lt2 hk (by decide)) (by rw [hk]; rfl) rfl inG0 (by decide) hl rfl rfl hdg kk
theorem gq_X0_classes (C : Cx E X cc own nL ret) {b ix : Nat} (hk : kd b = (4, 0)) {v : Int32} (hdg : decode cc pc = .ok (.putfield ix, 3)) (hl : Cond.fieldLinkNest own ix "ShapeMoves$Group" "classes" "I" "ShapeMoves" ∈ nestW) (kk : G E d X nL R (sI σ b (upd (σ.1 b) 8 v)) (pc + 3) L st) : G E d X nL R σ pc L (.int v :: .ref (ev_a E b) :: st) := g_putN C (k := 8) (N := 13) (T := TX0) (ci := 0) (kd_lt2 hk (by decide)) (by rw [hk]; rfl) rfl inG0 tyX0_ok nmX0 (by decide) hl rfl rfl rfl rfl (Nat.le_of_ble_eq_true rfl) (by rw [hk]; rfl) hdg kk
theorem gf_X0_parts (C : Cx E X cc own nL ret) {b ix : Nat} (hk : kd b = (4, 0)) (hdg : decode cc pc = .ok (.getfield ix, 3)) (hl : Cond.fieldLink own ix "ShapeMoves$Group" "parts" "[I" ∈ lw_tbl) (kk : G E d X nL R σ (pc + 3) L (.ref (ev_a E (b + 7)) :: st)) : G E d X nL R σ pc L (.ref (ev_a E b) :: st) := g_get C (k := 9) (N := 13) (T := TX0) (ci := 0) (kd_lt2 hk (by decide)) (by rw [hk]; rfl) rfl inG0 (by decide) hl rfl rfl hdg kk
theorem gn_X0_parts (C : Cx E X cc own nL ret) {b ix : Nat} (hk : kd b = (4, 0)) (hdg : decode cc pc = .ok (.getfield ix, 3)) (hl : Cond.fieldLinkNest own ix "ShapeMoves$Group" "parts" "[I" "ShapeMoves" ∈ nestW) (kk : G E d X nL R σ (pc + 3) L (.ref (ev_a E (b + 7)) :: st)) : G E d X nL R σ pc L (.ref (ev_a E b) :: st) := g_getN C (k := 9) (N := 13) (T := TX0) (ci := 0) (kd_lt2 hk (by decide)) (by rw [hk]; rfl) rfl inG0 (by decide) hl rfl rfl hdg kk
theorem gf_X0_reached (C : Cx E X cc own nL ret) {b ix : Nat} (hk : kd b = (4, 0)) (hdg : decode cc pc = .ok (.getfield ix, 3)) (hl : Cond.fieldLink own ix "ShapeMoves$Group" "reached" "[I" ∈ lw_tbl) (kk : G E d X nL R σ (pc + 3) L (.ref (ev_a E (b + 8)) :: st)) : G E d X nL R σ pc L (.ref (ev_a E b) :: st) := g_get C (k := 10) (N := 13) (T := TX0) (ci := 0) (kd_lt2 hk (by decide)) (by rw [hk]; rfl) rfl inG0 (by decide) hl rfl rfl hdg kk
theorem gn_X0_reached (C : Cx E X cc own nL ret) {b ix : Nat} (hk : kd b = (4, 0)) (hdg : decode cc pc = .ok (.getfield ix, 3)) (hl : Cond.fieldLinkNest own ix "ShapeMoves$Group" "reached" "[I" "ShapeMoves" ∈ nestW) (kk : G E d X nL R σ (pc + 3) L (.ref (ev_a E (b + 8)) :: st)) : G E d X nL R σ pc L (.ref (ev_a E b) :: st) := g_getN C (k := 10) (N := 13) (T := TX0) (ci := 0) (kd_lt2 hk (by decide)) (by rw [hk]; rfl) rfl inG0 (by decide) hl rfl rfl hdg kk
theorem gf_X0_reachedInAll (C : Cx E X cc own nL ret) {b ix : Nat} (hk : kd b = (4, 0)) (hdg : decode cc pc = .ok (.getfield ix, 3)) (hl : Cond.fieldLink own ix "ShapeMoves$Group" "reachedInAll" "I" ∈ lw_tbl) (kk : G E d X nL R σ (pc + 3) L (.int (σ.1 b 11) :: st)) : G E d X nL R σ pc L (.ref (ev_a E b) :: st) := g_get C (k := 11) (N := 13) (T := TX0) (ci := 0) (kd_lt2 hk (by decide)) (by rw [hk]; rfl) rfl inG0 (by decide) hl rfl rfl hdg kk
theorem gp_X0_reachedInAll (C : Cx E X cc own nL ret) {b ix : Nat} (hk : kd b = (4, 0)) {v : Int32} (hdg : decode cc pc = .ok (.putfield ix, 3)) (hl : Cond.fieldLink own ix "ShapeMoves$Group" "reachedInAll" "I" ∈ lw_tbl) (kk : G E d X nL R (sI σ b (upd (σ.1 b) 11 v)) (pc + 3) L st) : G E d X nL R σ pc L (.int v :: .ref (ev_a E b) :: st) := g_put C (k := 11) (N := 13) (T := TX0) (ci := 0) (kd_lt2 hk (by decide)) (by rw [hk]; rfl) rfl inG0 tyX0_ok nmX0 (by decide) hl rfl rfl rfl rfl (Nat.le_of_ble_eq_true rfl) (by rw [hk]; rfl) hdg kk
theorem gn_X0_reachedInAll (C : Cx E X cc own nL ret) {b ix : Nat} (hk : kd b = (4, 0)) (hdg : decode cc pc = .ok (.getfield ix, 3)) (hl : Cond.fieldLinkNest own ix "ShapeMoves$Group" "reachedInAll" "I" "ShapeMoves" ∈ nestW) (kk : G E d X nL R σ (pc + 3) L (.int (σ.1 b 11) :: st)) : G E d X nL R σ pc L (.ref (ev_a E b) :: st) := g_getN C (k := 11) (N := 13) (T := TX0) (ci := 0) (kd_lt2 hk (by decide)) (by rw [hk]; rfl) rfl inG0 (by decide) hl rfl rfl hdg kk
theorem gq_X0_reachedInAll (C : Cx E X cc own nL ret) {b ix : Nat} (hk : kd b = (4, 0)) {v : Int32} (hdg : decode cc pc = .ok (.putfield ix, 3)) (hl : Cond.fieldLinkNest own ix "ShapeMoves$Group" "reachedInAll" "I" "ShapeMoves" ∈ nestW) (kk : G E d X nL R (sI σ b (upd (σ.1 b) 11 v)) (pc + 3) L st) : G E d X nL R σ pc L (.int v :: .ref (ev_a E b) :: st) := g_putN C (k := 11) (N := 13) (T := TX0) (ci := 0) (kd_lt2 hk (by decide)) (by rw [hk]; rfl) rfl inG0 tyX0_ok nmX0 (by decide) hl rfl rfl rfl rfl (Nat.le_of_ble_eq_true rfl) (by rw [hk]; rfl) hdg kk
theorem gf_X0_signs (C : Cx E X cc own nL ret) {b ix : Nat} (hk : kd b = (4, 0)) (hdg : decode cc pc = .ok (.getfield ix, 3)) (hl : Cond.fieldLink own ix "ShapeMoves$Group" "signs" "I" ∈ lw_tbl) (kk : G E d X nL R σ (pc + 3) L (.int (σ.1 b 12) :: st)) : G E d X nL R σ pc L (.ref (ev_a E b) :: st) := g_get C (k := 12) (N := 13) (T := TX0) (ci := 0) (kd_lt2 hk (by decide)) (by rw [hk]; rfl) rfl inG0 (by decide) hl rfl rfl hdg kk
theorem gp_X0_signs (C : Cx E X cc own nL ret) {b ix : Nat} (hk : kd b = (4, 0)) {v : Int32} (hdg : decode cc pc = .ok (.putfield ix, 3)) (hl : Cond.fieldLink own ix "ShapeMoves$Group" "signs" "I" ∈ lw_tbl) (kk : G E d X nL R (sI σ b (upd (σ.1 b) 12 v)) (pc + 3) L st) : G E d X nL R σ pc L (.int v :: .ref (ev_a E b) :: st) := g_put C (k := 12) (N := 13) (T := TX0) (ci := 0) (kd_lt2 hk (by decide)) (by rw [hk]; rfl) rfl inG0 tyX0_ok nmX0 (by decide) hl rfl rfl rfl rfl (Nat.le_of_ble_eq_true rfl) (by rw [hk]; rfl) hdg kk
theorem gn_X0_signs (C : Cx E X cc own nL ret) {b ix : Nat} (hk : kd b = (4, 0)) (hdg : decode cc pc = .ok (.getfield ix, 3)) (hl : Cond.fieldLinkNest own ix "ShapeMoves$Group" "signs" "I" "ShapeMoves" ∈ nestW) (kk : G E d X nL R σ (pc + 3) L (.int (σ.1 b 12) :: st)) : G E d X nL R σ pc L (.ref (ev_a E b) :: st) := g_getN C (k := 12) (N := 13) (T := TX0) (ci := 0) (kd_lt2 hk (by decide)) (by rw [hk]; rfl) rfl inG0 (by decide) hl rfl rfl hdg kk
theorem gq_X0_signs (C : Cx E X cc own nL ret) {b ix : Nat} (hk : kd b = (4, 0)) {v : Int32} (hdg : decode cc pc = .ok (.putfield ix, 3)) (hl : Cond.fieldLinkNest own ix "ShapeMoves$Group" "signs" "I" "ShapeMoves" ∈ nestW) (kk : G E d X nL R (sI σ b (upd (σ.1 b) 12 v)) (pc + 3) L st) : G E d X nL R σ pc L (.int v :: .ref (ev_a E b) :: st) := g_putN C (k := 12) (N := 13) (T := TX0) (ci := 0) (kd_lt2 hk (by decide)) (by rw [hk]; rfl) rfl inG0 tyX0_ok nmX0 (by decide) hl rfl rfl rfl rfl (Nat.le_of_ble_eq_true rfl) (by rw [hk]; rfl) hdg kk
theorem gf_X6_signs (C : Cx E X cc own nL ret) {b ix : Nat} (hk : kd b = (5, 0)) (hdg : decode cc pc = .ok (.getfield ix, 3)) (hl : Cond.fieldLink own ix "ShapeMoves$Text" "signs" "[B" ∈ lw_tbl) (kk : G E d X nL R σ (pc + 3) L (.ref (ev_a E (49)) :: st)) : G E d X nL R σ pc L (.ref (ev_a E b) :: st) := g_get C (k := 0) (N := 5) (T := TX6) (ci := 5) (kd_lt2 hk (by decide)) (by rw [hk]; rfl) rfl inG6 (by decide) hl rfl rfl hdg kk
theorem gn_X6_signs (C : Cx E X cc own nL ret) {b ix : Nat} (hk : kd b = (5, 0)) (hdg : decode cc pc = .ok (.getfield ix, 3)) (hl : Cond.fieldLinkNest own ix "ShapeMoves$Text" "signs" "[B" "ShapeMoves" ∈ nestW) (kk : G E d X nL R σ (pc + 3) L (.ref (ev_a E (49)) :: st)) : G E d X nL R σ pc L (.ref (ev_a E b) :: st) := g_getN C (k := 0) (N := 5) (T := TX6) (ci := 5) (kd_lt2 hk (by decide)) (by rw [hk]; rfl) rfl inG6 (by decide) hl rfl rfl hdg kk
theorem gf_X6_size (C : Cx E X cc own nL ret) {b ix : Nat} (hk : kd b = (5, 0)) (hdg : decode cc pc = .ok (.getfield ix, 3)) (hl : Cond.fieldLink own ix "ShapeMoves$Text" "size" "I" ∈ lw_tbl) (kk : G E d X nL R σ (pc + 3) L (.int (σ.1 b 1) :: st)) : G E d X nL R σ pc L (.ref (ev_a E b) :: st) := g_get C (k := 1) (N := 5) (T := TX6) (ci := 5) (kd_lt2 hk (by decide)) (by rw [hk]; rfl) rfl inG6 (by decide) hl rfl rfl hdg kk
theorem gp_X6_size (C : Cx E X cc own nL ret) {b ix : Nat} (hk : kd b = (5, 0)) {v : Int32} (hdg : decode cc pc = .ok (.putfield ix, 3)) (hl : Cond.fieldLink own ix "ShapeMoves$Text" "size" "I" ∈ lw_tbl) (kk : G E d X nL R (sI σ b (upd (σ.1 b) 1 v)) (pc + 3) L st) : G E d X nL R σ pc L (.int v :: .ref (ev_a E b) :: st) := g_put C (k := 1) (N := 5) (T := TX6) (ci := 5) (kd_lt2 hk (by decide)) (by rw [hk]; rfl) rfl inG6 tyX6_ok nmX6 (by decide) hl rfl rfl rfl rfl (Nat.le_of_ble_eq_true rfl) (by rw [hk]; rfl) hdg kk
theorem gn_X6_size (C : Cx E X cc own nL ret) {b ix : Nat} (hk : kd b = (5, 0)) (hdg : decode cc pc = .ok (.getfield ix, 3)) (hl : Cond.fieldLinkNest own ix "ShapeMoves$Text" "size" "I" "ShapeMoves" ∈ nestW) (kk : G E d X nL R σ (pc + 3) L (.int (σ.1 b 1) :: st)) : G E d X nL R σ pc L (.ref (ev_a E b) :: st) := g_getN C (k := 1) (N := 5) (T := TX6) (ci := 5) (kd_lt2 hk (by decide)) (by rw [hk]; rfl) rfl inG6 (by decide) hl rfl rfl hdg kk
theorem gq_X6_size (C : Cx E X cc own nL ret) {b ix : Nat} (hk : kd b = (5, 0)) {v : Int32} (hdg : decode cc pc = .ok (.putfield ix, 3)) (hl : Cond.fieldLinkNest own ix "ShapeMoves$Text" "size" "I" "ShapeMoves" ∈ nestW) (kk : G E d X nL R (sI σ b (upd (σ.1 b) 1 v)) (pc + 3) L st) : G E d X nL R σ pc L (.int v :: .ref (ev_a E b) :: st) := g_putN C (k := 1) (N := 5) (T := TX6) (ci := 5) (kd_lt2 hk (by decide)) (by rw [hk]; rfl) rfl inG6 tyX6_ok nmX6 (by decide) hl rfl rfl rfl rfl (Nat.le_of_ble_eq_true rfl) (by rw [hk]; rfl) hdg kk
theorem gf_X6_place (C : Cx E X cc own nL ret) {b ix : Nat} (hk : kd b = (5, 0)) (hdg : decode cc pc = .ok (.getfield ix, 3)) (hl : Cond.fieldLink own ix "ShapeMoves$Text" "place" "I" ∈ lw_tbl) (kk : G E d X nL R σ (pc + 3) L (.int (σ.1 b 2) :: st)) : G E d X nL R σ pc L (.ref (ev_a E b) :: st) := g_get C (k := 2) (N := 5) (T := TX6) (ci := 5) (kd_lt2 hk (by decide)) (by rw [hk]; rfl) rfl inG6 (by decide) hl rfl rfl hdg kk
theorem gp_X6_place (C : Cx E X cc own nL ret) {b ix : Nat} (hk : kd b = (5, 0)) {v : Int32} (hdg : decode cc pc = .ok (.putfield ix, 3)) (hl : Cond.fieldLink own ix "ShapeMoves$Text" "place" "I" ∈ lw_tbl) (kk : G E d X nL R (sI σ b (upd (σ.1 b) 2 v)) (pc + 3) L st) : G E d X nL R σ pc L (.int v :: .ref (ev_a E b) :: st) := g_put C (k := 2) (N := 5) (T := TX6) (ci := 5) (kd_lt2 hk (by decide)) (by rw [hk]; rfl) rfl inG6 tyX6_ok nmX6 (by decide) hl rfl rfl rfl rfl (Nat.le_of_ble_eq_true rfl) (by rw [hk]; rfl) hdg kk
theorem gn_X6_place (C : Cx E X cc own nL ret) {b ix : Nat} (hk : kd b = (5, 0)) (hdg : decode cc pc = .ok (.getfield ix, 3)) (hl : Cond.fieldLinkNest own ix "ShapeMoves$Text" "place" "I" "ShapeMoves" ∈ nestW) (kk : G E d X nL R σ (pc + 3) L (.int (σ.1 b 2) :: st)) : G E d X nL R σ pc L (.ref (ev_a E b) :: st) := g_getN C (k := 2) (N := 5) (T := TX6) (ci := 5) (kd_lt2 hk (by decide)) (by rw [hk]; rfl) rfl inG6 (by decide) hl rfl rfl hdg kk
theorem gq_X6_place (C : Cx E X cc own nL ret) {b ix : Nat} (hk : kd b = (5, 0)) {v : Int32} (hdg : decode cc pc = .ok (.putfield ix, 3)) (hl : Cond.fieldLinkNest own ix "ShapeMoves$Text" "place" "I" "ShapeMoves" ∈ nestW) (kk : G E d X nL R (sI σ b (upd (σ.1 b) 2 v)) (pc + 3) L st) : G E d X nL R σ pc L (.int v :: .ref (ev_a E b) :: st) := g_putN C (k := 2) (N := 5) (T := TX6) (ci := 5) (kd_lt2 hk (by decide)) (by rw [hk]; rfl) rfl inG6 tyX6_ok nmX6 (by decide) hl rfl rfl rfl rfl (Nat.le_of_ble_eq_true rfl) (by rw [hk]; rfl) hdg kk
theorem gf_X6_parts (C : Cx E X cc own nL ret) {b ix : Nat} (hk : kd b = (5, 0)) (hdg : decode cc pc = .ok (.getfield ix, 3)) (hl : Cond.fieldLink own ix "ShapeMoves$Text" "parts" "[I" ∈ lw_tbl) (kk : G E d X nL R σ (pc + 3) L (.ref (ev_a E (50)) :: st)) : G E d X nL R σ pc L (.ref (ev_a E b) :: st) := g_get C (k := 3) (N := 5) (T := TX6) (ci := 5) (kd_lt2 hk (by decide)) (by rw [hk]; rfl) rfl inG6 (by decide) hl rfl rfl hdg kk
theorem gn_X6_parts (C : Cx E X cc own nL ret) {b ix : Nat} (hk : kd b = (5, 0)) (hdg : decode cc pc = .ok (.getfield ix, 3)) (hl : Cond.fieldLinkNest own ix "ShapeMoves$Text" "parts" "[I" "ShapeMoves" ∈ nestW) (kk : G E d X nL R σ (pc + 3) L (.ref (ev_a E (50)) :: st)) : G E d X nL R σ pc L (.ref (ev_a E b) :: st) := g_getN C (k := 3) (N := 5) (T := TX6) (ci := 5) (kd_lt2 hk (by decide)) (by rw [hk]; rfl) rfl inG6 (by decide) hl rfl rfl hdg kk
theorem gf_X6_clauses (C : Cx E X cc own nL ret) {b ix : Nat} (hk : kd b = (5, 0)) (hdg : decode cc pc = .ok (.getfield ix, 3)) (hl : Cond.fieldLink own ix "ShapeMoves$Text" "clauses" "I" ∈ lw_tbl) (kk : G E d X nL R σ (pc + 3) L (.int (σ.1 b 4) :: st)) : G E d X nL R σ pc L (.ref (ev_a E b) :: st) := g_get C (k := 4) (N := 5) (T := TX6) (ci := 5) (kd_lt2 hk (by decide)) (by rw [hk]; rfl) rfl inG6 (by decide) hl rfl rfl hdg kk
theorem gp_X6_clauses (C : Cx E X cc own nL ret) {b ix : Nat} (hk : kd b = (5, 0)) {v : Int32} (hdg : decode cc pc = .ok (.putfield ix, 3)) (hl : Cond.fieldLink own ix "ShapeMoves$Text" "clauses" "I" ∈ lw_tbl) (kk : G E d X nL R (sI σ b (upd (σ.1 b) 4 v)) (pc + 3) L st) : G E d X nL R σ pc L (.int v :: .ref (ev_a E b) :: st) := g_put C (k := 4) (N := 5) (T := TX6) (ci := 5) (kd_lt2 hk (by decide)) (by rw [hk]; rfl) rfl inG6 tyX6_ok nmX6 (by decide) hl rfl rfl rfl rfl (Nat.le_of_ble_eq_true rfl) (by rw [hk]; rfl) hdg kk
theorem gn_X6_clauses (C : Cx E X cc own nL ret) {b ix : Nat} (hk : kd b = (5, 0)) (hdg : decode cc pc = .ok (.getfield ix, 3)) (hl : Cond.fieldLinkNest own ix "ShapeMoves$Text" "clauses" "I" "ShapeMoves" ∈ nestW) (kk : G E d X nL R σ (pc + 3) L (.int (σ.1 b 4) :: st)) : G E d X nL R σ pc L (.ref (ev_a E b) :: st) := g_getN C (k := 4) (N := 5) (T := TX6) (ci := 5) (kd_lt2 hk (by decide)) (by rw [hk]; rfl) rfl inG6 (by decide) hl rfl rfl hdg kk
theorem gq_X6_clauses (C : Cx E X cc own nL ret) {b ix : Nat} (hk : kd b = (5, 0)) {v : Int32} (hdg : decode cc pc = .ok (.putfield ix, 3)) (hl : Cond.fieldLinkNest own ix "ShapeMoves$Text" "clauses" "I" "ShapeMoves" ∈ nestW) (kk : G E d X nL R (sI σ b (upd (σ.1 b) 4 v)) (pc + 3) L st) : G E d X nL R σ pc L (.int v :: .ref (ev_a E b) :: st) := g_putN C (k := 4) (N := 5) (T := TX6) (ci := 5) (kd_lt2 hk (by decide)) (by rw [hk]; rfl) rfl inG6 tyX6_ok nmX6 (by decide) hl rfl rfl rfl rfl (Nat.le_of_ble_eq_true rfl) (by rw [hk]; rfl) hdg kk
theorem gf_X5_items (C : Cx E X cc own nL ret) {b ix : Nat} (hk : kd b = (7, 0)) (hdg : decode cc pc = .ok (.getfield ix, 3)) (hl : Cond.fieldLink own ix "ShapeMoves$Tape" "items" "[J" ∈ lw_tbl) (kk : G E d X nL R σ (pc + 3) L (.ref (ev_a E (b + 1)) :: st)) : G E d X nL R σ pc L (.ref (ev_a E b) :: st) := g_get C (k := 0) (N := 3) (T := TX5) (ci := 4) (kd_lt2 hk (by decide)) (by rw [hk]; rfl) rfl inG5 (by decide) hl rfl rfl hdg kk
theorem gn_X5_items (C : Cx E X cc own nL ret) {b ix : Nat} (hk : kd b = (7, 0)) (hdg : decode cc pc = .ok (.getfield ix, 3)) (hl : Cond.fieldLinkNest own ix "ShapeMoves$Tape" "items" "[J" "ShapeMoves" ∈ nestW) (kk : G E d X nL R σ (pc + 3) L (.ref (ev_a E (b + 1)) :: st)) : G E d X nL R σ pc L (.ref (ev_a E b) :: st) := g_getN C (k := 0) (N := 3) (T := TX5) (ci := 4) (kd_lt2 hk (by decide)) (by rw [hk]; rfl) rfl inG5 (by decide) hl rfl rfl hdg kk
theorem gf_X5_sort (C : Cx E X cc own nL ret) {b ix : Nat} (hk : kd b = (7, 0)) (hdg : decode cc pc = .ok (.getfield ix, 3)) (hl : Cond.fieldLink own ix "ShapeMoves$Tape" "sort" "I" ∈ lw_tbl) (kk : G E d X nL R σ (pc + 3) L (.int (σ.1 b 1) :: st)) : G E d X nL R σ pc L (.ref (ev_a E b) :: st) := g_get C (k := 1) (N := 3) (T := TX5) (ci := 4) (kd_lt2 hk (by decide)) (by rw [hk]; rfl) rfl inG5 (by decide) hl rfl rfl hdg kk
theorem gp_X5_sort (C : Cx E X cc own nL ret) {b ix : Nat} (hk : kd b = (7, 0)) {v : Int32} (hdg : decode cc pc = .ok (.putfield ix, 3)) (hl : Cond.fieldLink own ix "ShapeMoves$Tape" "sort" "I" ∈ lw_tbl) (kk : G E d X nL R (sI σ b (upd (σ.1 b) 1 v)) (pc + 3) L st) : G E d X nL R σ pc L (.int v :: .ref (ev_a E b) :: st) := g_put C (k := 1) (N := 3) (T := TX5) (ci := 4) (kd_lt2 hk (by decide)) (by rw [hk]; rfl) rfl inG5 tyX5_ok nmX5 (by decide) hl rfl rfl rfl rfl (Nat.le_of_ble_eq_true rfl) (by rw [hk]; rfl) hdg kk
theorem gn_X5_sort (C : Cx E X cc own nL ret) {b ix : Nat} (hk : kd b = (7, 0)) (hdg : decode cc pc = .ok (.getfield ix, 3)) (hl : Cond.fieldLinkNest own ix "ShapeMoves$Tape" "sort" "I" "ShapeMoves" ∈ nestW) (kk : G E d X nL R σ (pc + 3) L (.int (σ.1 b 1) :: st)) : G E d X nL R σ pc L (.ref (ev_a E b) :: st) := g_getN C (k := 1) (N := 3) (T := TX5) (ci := 4) (kd_lt2 hk (by decide)) (by rw [hk]; rfl) rfl inG5 (by decide) hl rfl rfl hdg kk
theorem gq_X5_sort (C : Cx E X cc own nL ret) {b ix : Nat} (hk : kd b = (7, 0)) {v : Int32} (hdg : decode cc pc = .ok (.putfield ix, 3)) (hl : Cond.fieldLinkNest own ix "ShapeMoves$Tape" "sort" "I" "ShapeMoves" ∈ nestW) (kk : G E d X nL R (sI σ b (upd (σ.1 b) 1 v)) (pc + 3) L st) : G E d X nL R σ pc L (.int v :: .ref (ev_a E b) :: st) := g_putN C (k := 1) (N := 3) (T := TX5) (ci := 4) (kd_lt2 hk (by decide)) (by rw [hk]; rfl) rfl inG5 tyX5_ok nmX5 (by decide) hl rfl rfl rfl rfl (Nat.le_of_ble_eq_true rfl) (by rw [hk]; rfl) hdg kk
theorem gf_X5_size (C : Cx E X cc own nL ret) {b ix : Nat} (hk : kd b = (7, 0)) (hdg : decode cc pc = .ok (.getfield ix, 3)) (hl : Cond.fieldLink own ix "ShapeMoves$Tape" "size" "I" ∈ lw_tbl) (kk : G E d X nL R σ (pc + 3) L (.int (σ.1 b 2) :: st)) : G E d X nL R σ pc L (.ref (ev_a E b) :: st) := g_get C (k := 2) (N := 3) (T := TX5) (ci := 4) (kd_lt2 hk (by decide)) (by rw [hk]; rfl) rfl inG5 (by decide) hl rfl rfl hdg kk
theorem gp_X5_size (C : Cx E X cc own nL ret) {b ix : Nat} (hk : kd b = (7, 0)) {v : Int32} (hdg : decode cc pc = .ok (.putfield ix, 3)) (hl : Cond.fieldLink own ix "ShapeMoves$Tape" "size" "I" ∈ lw_tbl) (kk : G E d X nL R (sI σ b (upd (σ.1 b) 2 v)) (pc + 3) L st) : G E d X nL R σ pc L (.int v :: .ref (ev_a E b) :: st) := g_put C (k := 2) (N := 3) (T := TX5) (ci := 4) (kd_lt2 hk (by decide)) (by rw [hk]; rfl) rfl inG5 tyX5_ok nmX5 (by decide) hl rfl rfl rfl rfl (Nat.le_of_ble_eq_true rfl) (by rw [hk]; rfl) hdg kk
theorem gn_X5_size (C : Cx E X cc own nL ret) {b ix : Nat} (hk : kd b = (7, 0)) (hdg : decode cc pc = .ok (.getfield ix, 3)) (hl : Cond.fieldLinkNest own ix "ShapeMoves$Tape" "size" "I" "ShapeMoves" ∈ nestW) (kk : G E d X nL R σ (pc + 3) L (.int (σ.1 b 2) :: st)) : G E d X nL R σ pc L (.ref (ev_a E b) :: st) := g_getN C (k := 2) (N := 3) (T := TX5) (ci := 4) (kd_lt2 hk (by decide)) (by rw [hk]; rfl) rfl inG5 (by decide) hl rfl rfl hdg kk
theorem gq_X5_size (C : Cx E X cc own nL ret) {b ix : Nat} (hk : kd b = (7, 0)) {v : Int32} (hdg : decode cc pc = .ok (.putfield ix, 3)) (hl : Cond.fieldLinkNest own ix "ShapeMoves$Tape" "size" "I" "ShapeMoves" ∈ nestW) (kk : G E d X nL R (sI σ b (upd (σ.1 b) 2 v)) (pc + 3) L st) : G E d X nL R σ pc L (.int v :: .ref (ev_a E b) :: st) := g_putN C (k := 2) (N := 3) (T := TX5) (ci := 4) (kd_lt2 hk (by decide)) (by rw [hk]; rfl) rfl inG5 tyX5_ok nmX5 (by decide) hl rfl rfl rfl rfl (Nat.le_of_ble_eq_true rfl) (by rw [hk]; rfl) hdg kk
theorem gf_X8_w (C : Cx E X cc own nL ret) {b ix : Nat} (hk : kd b = (8, 0)) (hdg : decode cc pc = .ok (.getfield ix, 3)) (hl : Cond.fieldLink own ix "ShapeMovesModel" "w" "[I" ∈ lw_tbl) (kk : G E d X nL R σ (pc + 3) L (.ref (ev_a E (65)) :: st)) : G E d X nL R σ pc L (.ref (ev_a E b) :: st) := g_get C (k := 0) (N := 22) (T := TX8) (ci := 7) (kd_lt2 hk (by decide)) (by rw [hk]; rfl) rfl inG8 (by decide) hl rfl rfl hdg kk
theorem gf_X8_aside (C : Cx E X cc own nL ret) {b ix : Nat} (hk : kd b = (8, 0)) (hdg : decode cc pc = .ok (.getfield ix, 3)) (hl : Cond.fieldLink own ix "ShapeMovesModel" "aside" "[I" ∈ lw_tbl) (kk : G E d X nL R σ (pc + 3) L (.ref (ev_a E (66)) :: st)) : G E d X nL R σ pc L (.ref (ev_a E b) :: st) := g_get C (k := 1) (N := 22) (T := TX8) (ci := 7) (kd_lt2 hk (by decide)) (by rw [hk]; rfl) rfl inG8 (by decide) hl rfl rfl hdg kk
theorem gf_X8_kept (C : Cx E X cc own nL ret) {b ix : Nat} (hk : kd b = (8, 0)) (hdg : decode cc pc = .ok (.getfield ix, 3)) (hl : Cond.fieldLink own ix "ShapeMovesModel" "kept" "[I" ∈ lw_tbl) (kk : G E d X nL R σ (pc + 3) L (.ref (ev_a E (67)) :: st)) : G E d X nL R σ pc L (.ref (ev_a E b) :: st) := g_get C (k := 2) (N := 22) (T := TX8) (ci := 7) (kd_lt2 hk (by decide)) (by rw [hk]; rfl) rfl inG8 (by decide) hl rfl rfl hdg kk
theorem gf_X8_hasImage (C : Cx E X cc own nL ret) {b ix : Nat} (hk : kd b = (8, 0)) (hdg : decode cc pc = .ok (.getfield ix, 3)) (hl : Cond.fieldLink own ix "ShapeMovesModel" "hasImage" "Z" ∈ lw_tbl) (kk : G E d X nL R σ (pc + 3) L (.int (σ.1 b 3) :: st)) : G E d X nL R σ pc L (.ref (ev_a E b) :: st) := g_get C (k := 3) (N := 22) (T := TX8) (ci := 7) (kd_lt2 hk (by decide)) (by rw [hk]; rfl) rfl inG8 (by decide) hl rfl rfl hdg kk
theorem gp_X8_hasImage (C : Cx E X cc own nL ret) {b ix : Nat} (hk : kd b = (8, 0)) {v : Int32} (hv : v = 0 ∨ v = 1) (hdg : decode cc pc = .ok (.putfield ix, 3)) (hl : Cond.fieldLink own ix "ShapeMovesModel" "hasImage" "Z" ∈ lw_tbl) (kk : G E d X nL R (sI σ b (upd (σ.1 b) 3 v)) (pc + 3) L st) : G E d X nL R σ pc L (.int v :: .ref (ev_a E b) :: st) := g_put C (k := 3) (N := 22) (T := TX8) (ci := 7) (kd_lt2 hk (by decide)) (by rw [hk]; rfl) rfl inG8 tyX8_ok nmX8 (by decide) hl rfl rfl (by rcases hv with rfl | rfl <;> rfl) (by rcases hv with rfl | rfl <;> rfl) (Nat.le_of_ble_eq_true rfl) (by rw [hk]; rfl) hdg kk
theorem gf_X8_group (C : Cx E X cc own nL ret) {b ix : Nat} (hk : kd b = (8, 0)) (hdg : decode cc pc = .ok (.getfield ix, 3)) (hl : Cond.fieldLink own ix "ShapeMovesModel" "group" "[I" ∈ lw_tbl) (kk : G E d X nL R σ (pc + 3) L (.ref (ev_a E (68)) :: st)) : G E d X nL R σ pc L (.ref (ev_a E b) :: st) := g_get C (k := 4) (N := 22) (T := TX8) (ci := 7) (kd_lt2 hk (by decide)) (by rw [hk]; rfl) rfl inG8 (by decide) hl rfl rfl hdg kk
theorem gf_X8_isIn (C : Cx E X cc own nL ret) {b ix : Nat} (hk : kd b = (8, 0)) (hdg : decode cc pc = .ok (.getfield ix, 3)) (hl : Cond.fieldLink own ix "ShapeMovesModel" "isIn" "[Z" ∈ lw_tbl) (kk : G E d X nL R σ (pc + 3) L (.ref (ev_a E (69)) :: st)) : G E d X nL R σ pc L (.ref (ev_a E b) :: st) := g_get C (k := 5) (N := 22) (T := TX8) (ci := 7) (kd_lt2 hk (by decide)) (by rw [hk]; rfl) rfl inG8 (by decide) hl rfl rfl hdg kk
theorem gf_X8_size (C : Cx E X cc own nL ret) {b ix : Nat} (hk : kd b = (8, 0)) (hdg : decode cc pc = .ok (.getfield ix, 3)) (hl : Cond.fieldLink own ix "ShapeMovesModel" "size" "I" ∈ lw_tbl) (kk : G E d X nL R σ (pc + 3) L (.int (σ.1 b 6) :: st)) : G E d X nL R σ pc L (.ref (ev_a E b) :: st) := g_get C (k := 6) (N := 22) (T := TX8) (ci := 7) (kd_lt2 hk (by decide)) (by rw [hk]; rfl) rfl inG8 (by decide) hl rfl rfl hdg kk
theorem gp_X8_size (C : Cx E X cc own nL ret) {b ix : Nat} (hk : kd b = (8, 0)) {v : Int32} (hdg : decode cc pc = .ok (.putfield ix, 3)) (hl : Cond.fieldLink own ix "ShapeMovesModel" "size" "I" ∈ lw_tbl) (kk : G E d X nL R (sI σ b (upd (σ.1 b) 6 v)) (pc + 3) L st) : G E d X nL R σ pc L (.int v :: .ref (ev_a E b) :: st) := g_put C (k := 6) (N := 22) (T := TX8) (ci := 7) (kd_lt2 hk (by decide)) (by rw [hk]; rfl) rfl inG8 tyX8_ok nmX8 (by decide) hl rfl rfl rfl rfl (Nat.le_of_ble_eq_true rfl) (by rw [hk]; rfl) hdg kk
theorem gf_X8_makers (C : Cx E X cc own nL ret) {b ix : Nat} (hk : kd b = (8, 0)) (hdg : decode cc pc = .ok (.getfield ix, 3)) (hl : Cond.fieldLink own ix "ShapeMovesModel" "makers" "[I" ∈ lw_tbl) (kk : G E d X nL R σ (pc + 3) L (.ref (ev_a E (70)) :: st)) : G E d X nL R σ pc L (.ref (ev_a E b) :: st) := g_get C (k := 7) (N := 22) (T := TX8) (ci := 7) (kd_lt2 hk (by decide)) (by rw [hk]; rfl) rfl inG8 (by decide) hl rfl rfl hdg kk
theorem gf_X8_makerMany (C : Cx E X cc own nL ret) {b ix : Nat} (hk : kd b = (8, 0)) (hdg : decode cc pc = .ok (.getfield ix, 3)) (hl : Cond.fieldLink own ix "ShapeMovesModel" "makerMany" "I" ∈ lw_tbl) (kk : G E d X nL R σ (pc + 3) L (.int (σ.1 b 8) :: st)) : G E d X nL R σ pc L (.ref (ev_a E b) :: st) := g_get C (k := 8) (N := 22) (T := TX8) (ci := 7) (kd_lt2 hk (by decide)) (by rw [hk]; rfl) rfl inG8 (by decide) hl rfl rfl hdg kk
theorem gp_X8_makerMany (C : Cx E X cc own nL ret) {b ix : Nat} (hk : kd b = (8, 0)) {v : Int32} (hdg : decode cc pc = .ok (.putfield ix, 3)) (hl : Cond.fieldLink own ix "ShapeMovesModel" "makerMany" "I" ∈ lw_tbl) (kk : G E d X nL R (sI σ b (upd (σ.1 b) 8 v)) (pc + 3) L st) : G E d X nL R σ pc L (.int v :: .ref (ev_a E b) :: st) := g_put C (k := 8) (N := 22) (T := TX8) (ci := 7) (kd_lt2 hk (by decide)) (by rw [hk]; rfl) rfl inG8 tyX8_ok nmX8 (by decide) hl rfl rfl rfl rfl (Nat.le_of_ble_eq_true rfl) (by rw [hk]; rfl) hdg kk
theorem gf_X8_made (C : Cx E X cc own nL ret) {b ix : Nat} (hk : kd b = (8, 0)) (hdg : decode cc pc = .ok (.getfield ix, 3)) (hl : Cond.fieldLink own ix "ShapeMovesModel" "made" "[Z" ∈ lw_tbl) (kk : G E d X nL R σ (pc + 3) L (.ref (ev_a E (71)) :: st)) : G E d X nL R σ pc L (.ref (ev_a E b) :: st) := g_get C (k := 9) (N := 22) (T := TX8) (ci := 7) (kd_lt2 hk (by decide)) (by rw [hk]; rfl) rfl inG8 (by decide) hl rfl rfl hdg kk
theorem gf_X8_sign (C : Cx E X cc own nL ret) {b ix : Nat} (hk : kd b = (8, 0)) (hdg : decode cc pc = .ok (.getfield ix, 3)) (hl : Cond.fieldLink own ix "ShapeMovesModel" "sign" "[I" ∈ lw_tbl) (kk : G E d X nL R σ (pc + 3) L (.ref (ev_a E (72)) :: st)) : G E d X nL R σ pc L (.ref (ev_a E b) :: st) := g_get C (k := 10) (N := 22) (T := TX8) (ci := 7) (kd_lt2 hk (by decide)) (by rw [hk]; rfl) rfl inG8 (by decide) hl rfl rfl hdg kk
theorem gf_X8_signs (C : Cx E X cc own nL ret) {b ix : Nat} (hk : kd b = (8, 0)) (hdg : decode cc pc = .ok (.getfield ix, 3)) (hl : Cond.fieldLink own ix "ShapeMovesModel" "signs" "[I" ∈ lw_tbl) (kk : G E d X nL R σ (pc + 3) L (.ref (ev_a E (73)) :: st)) : G E d X nL R σ pc L (.ref (ev_a E b) :: st) := g_get C (k := 11) (N := 22) (T := TX8) (ci := 7) (kd_lt2 hk (by decide)) (by rw [hk]; rfl) rfl inG8 (by decide) hl rfl rfl hdg kk
theorem gf_X8_signMany (C : Cx E X cc own nL ret) {b ix : Nat} (hk : kd b = (8, 0)) (hdg : decode cc pc = .ok (.getfield ix, 3)) (hl : Cond.fieldLink own ix "ShapeMovesModel" "signMany" "I" ∈ lw_tbl) (kk : G E d X nL R σ (pc + 3) L (.int (σ.1 b 12) :: st)) : G E d X nL R σ pc L (.ref (ev_a E b) :: st) := g_get C (k := 12) (N := 22) (T := TX8) (ci := 7) (kd_lt2 hk (by decide)) (by rw [hk]; rfl) rfl inG8 (by decide) hl rfl rfl hdg kk
theorem gp_X8_signMany (C : Cx E X cc own nL ret) {b ix : Nat} (hk : kd b = (8, 0)) {v : Int32} (hdg : decode cc pc = .ok (.putfield ix, 3)) (hl : Cond.fieldLink own ix "ShapeMovesModel" "signMany" "I" ∈ lw_tbl) (kk : G E d X nL R (sI σ b (upd (σ.1 b) 12 v)) (pc + 3) L st) : G E d X nL R σ pc L (.int v :: .ref (ev_a E b) :: st) := g_put C (k := 12) (N := 22) (T := TX8) (ci := 7) (kd_lt2 hk (by decide)) (by rw [hk]; rfl) rfl inG8 tyX8_ok nmX8 (by decide) hl rfl rfl rfl rfl (Nat.le_of_ble_eq_true rfl) (by rw [hk]; rfl) hdg kk
theorem gf_X8_text (C : Cx E X cc own nL ret) {b ix : Nat} (hk : kd b = (8, 0)) (hdg : decode cc pc = .ok (.getfield ix, 3)) (hl : Cond.fieldLink own ix "ShapeMovesModel" "text" "[I" ∈ lw_tbl) (kk : G E d X nL R σ (pc + 3) L (.ref (ev_a E (74)) :: st)) : G E d X nL R σ pc L (.ref (ev_a E b) :: st) := g_get C (k := 13) (N := 22) (T := TX8) (ci := 7) (kd_lt2 hk (by decide)) (by rw [hk]; rfl) rfl inG8 (by decide) hl rfl rfl hdg kk
theorem gf_X8_length (C : Cx E X cc own nL ret) {b ix : Nat} (hk : kd b = (8, 0)) (hdg : decode cc pc = .ok (.getfield ix, 3)) (hl : Cond.fieldLink own ix "ShapeMovesModel" "length" "I" ∈ lw_tbl) (kk : G E d X nL R σ (pc + 3) L (.int (σ.1 b 14) :: st)) : G E d X nL R σ pc L (.ref (ev_a E b) :: st) := g_get C (k := 14) (N := 22) (T := TX8) (ci := 7) (kd_lt2 hk (by decide)) (by rw [hk]; rfl) rfl inG8 (by decide) hl rfl rfl hdg kk
theorem gp_X8_length (C : Cx E X cc own nL ret) {b ix : Nat} (hk : kd b = (8, 0)) {v : Int32} (hdg : decode cc pc = .ok (.putfield ix, 3)) (hl : Cond.fieldLink own ix "ShapeMovesModel" "length" "I" ∈ lw_tbl) (kk : G E d X nL R (sI σ b (upd (σ.1 b) 14 v)) (pc + 3) L st) : G E d X nL R σ pc L (.int v :: .ref (ev_a E b) :: st) := g_put C (k := 14) (N := 22) (T := TX8) (ci := 7) (kd_lt2 hk (by decide)) (by rw [hk]; rfl) rfl inG8 tyX8_ok nmX8 (by decide) hl rfl rfl rfl rfl (Nat.le_of_ble_eq_true rfl) (by rw [hk]; rfl) hdg kk
theorem gf_X8_place (C : Cx E X cc own nL ret) {b ix : Nat} (hk : kd b = (8, 0)) (hdg : decode cc pc = .ok (.getfield ix, 3)) (hl : Cond.fieldLink own ix "ShapeMovesModel" "place" "I" ∈ lw_tbl) (kk : G E d X nL R σ (pc + 3) L (.int (σ.1 b 15) :: st)) : G E d X nL R σ pc L (.ref (ev_a E b) :: st) := g_get C (k := 15) (N := 22) (T := TX8) (ci := 7) (kd_lt2 hk (by decide)) (by rw [hk]; rfl) rfl inG8 (by decide) hl rfl rfl hdg kk
theorem gp_X8_place (C : Cx E X cc own nL ret) {b ix : Nat} (hk : kd b = (8, 0)) {v : Int32} (hdg : decode cc pc = .ok (.putfield ix, 3)) (hl : Cond.fieldLink own ix "ShapeMovesModel" "place" "I" ∈ lw_tbl) (kk : G E d X nL R (sI σ b (upd (σ.1 b) 15 v)) (pc + 3) L st) : G E d X nL R σ pc L (.int v :: .ref (ev_a E b) :: st) := g_put C (k := 15) (N := 22) (T := TX8) (ci := 7) (kd_lt2 hk (by decide)) (by rw [hk]; rfl) rfl inG8 tyX8_ok nmX8 (by decide) hl rfl rfl rfl rfl (Nat.le_of_ble_eq_true rfl) (by rw [hk]; rfl) hdg kk
theorem gf_X8_isWrong (C : Cx E X cc own nL ret) {b ix : Nat} (hk : kd b = (8, 0)) (hdg : decode cc pc = .ok (.getfield ix, 3)) (hl : Cond.fieldLink own ix "ShapeMovesModel" "isWrong" "Z" ∈ lw_tbl) (kk : G E d X nL R σ (pc + 3) L (.int (σ.1 b 16) :: st)) : G E d X nL R σ pc L (.ref (ev_a E b) :: st) := g_get C (k := 16) (N := 22) (T := TX8) (ci := 7) (kd_lt2 hk (by decide)) (by rw [hk]; rfl) rfl inG8 (by decide) hl rfl rfl hdg kk
theorem gp_X8_isWrong (C : Cx E X cc own nL ret) {b ix : Nat} (hk : kd b = (8, 0)) {v : Int32} (hv : v = 0 ∨ v = 1) (hdg : decode cc pc = .ok (.putfield ix, 3)) (hl : Cond.fieldLink own ix "ShapeMovesModel" "isWrong" "Z" ∈ lw_tbl) (kk : G E d X nL R (sI σ b (upd (σ.1 b) 16 v)) (pc + 3) L st) : G E d X nL R σ pc L (.int v :: .ref (ev_a E b) :: st) := g_put C (k := 16) (N := 22) (T := TX8) (ci := 7) (kd_lt2 hk (by decide)) (by rw [hk]; rfl) rfl inG8 tyX8_ok nmX8 (by decide) hl rfl rfl (by rcases hv with rfl | rfl <;> rfl) (by rcases hv with rfl | rfl <;> rfl) (Nat.le_of_ble_eq_true rfl) (by rw [hk]; rfl) hdg kk
theorem gf_X8_told (C : Cx E X cc own nL ret) {b ix : Nat} (hk : kd b = (8, 0)) (hdg : decode cc pc = .ok (.getfield ix, 3)) (hl : Cond.fieldLink own ix "ShapeMovesModel" "told" "[I" ∈ lw_tbl) (kk : G E d X nL R σ (pc + 3) L (.ref (ev_a E (75)) :: st)) : G E d X nL R σ pc L (.ref (ev_a E b) :: st) := g_get C (k := 17) (N := 22) (T := TX8) (ci := 7) (kd_lt2 hk (by decide)) (by rw [hk]; rfl) rfl inG8 (by decide) hl rfl rfl hdg kk
theorem gf_X8_toldMany (C : Cx E X cc own nL ret) {b ix : Nat} (hk : kd b = (8, 0)) (hdg : decode cc pc = .ok (.getfield ix, 3)) (hl : Cond.fieldLink own ix "ShapeMovesModel" "toldMany" "I" ∈ lw_tbl) (kk : G E d X nL R σ (pc + 3) L (.int (σ.1 b 18) :: st)) : G E d X nL R σ pc L (.ref (ev_a E b) :: st) := g_get C (k := 18) (N := 22) (T := TX8) (ci := 7) (kd_lt2 hk (by decide)) (by rw [hk]; rfl) rfl inG8 (by decide) hl rfl rfl hdg kk
theorem gp_X8_toldMany (C : Cx E X cc own nL ret) {b ix : Nat} (hk : kd b = (8, 0)) {v : Int32} (hdg : decode cc pc = .ok (.putfield ix, 3)) (hl : Cond.fieldLink own ix "ShapeMovesModel" "toldMany" "I" ∈ lw_tbl) (kk : G E d X nL R (sI σ b (upd (σ.1 b) 18 v)) (pc + 3) L st) : G E d X nL R σ pc L (.int v :: .ref (ev_a E b) :: st) := g_put C (k := 18) (N := 22) (T := TX8) (ci := 7) (kd_lt2 hk (by decide)) (by rw [hk]; rfl) rfl inG8 tyX8_ok nmX8 (by decide) hl rfl rfl rfl rfl (Nat.le_of_ble_eq_true rfl) (by rw [hk]; rfl) hdg kk
theorem gf_X8_sorts (C : Cx E X cc own nL ret) {b ix : Nat} (hk : kd b = (8, 0)) (hdg : decode cc pc = .ok (.getfield ix, 3)) (hl : Cond.fieldLink own ix "ShapeMovesModel" "sorts" "[I" ∈ lw_tbl) (kk : G E d X nL R σ (pc + 3) L (.ref (ev_a E (76)) :: st)) : G E d X nL R σ pc L (.ref (ev_a E b) :: st) := g_get C (k := 19) (N := 22) (T := TX8) (ci := 7) (kd_lt2 hk (by decide)) (by rw [hk]; rfl) rfl inG8 (by decide) hl rfl rfl hdg kk
theorem gf_X8_sizes (C : Cx E X cc own nL ret) {b ix : Nat} (hk : kd b = (8, 0)) (hdg : decode cc pc = .ok (.getfield ix, 3)) (hl : Cond.fieldLink own ix "ShapeMovesModel" "sizes" "[I" ∈ lw_tbl) (kk : G E d X nL R σ (pc + 3) L (.ref (ev_a E (77)) :: st)) : G E d X nL R σ pc L (.ref (ev_a E b) :: st) := g_get C (k := 20) (N := 22) (T := TX8) (ci := 7) (kd_lt2 hk (by decide)) (by rw [hk]; rfl) rfl inG8 (by decide) hl rfl rfl hdg kk
theorem gf_X8_items (C : Cx E X cc own nL ret) {b ix : Nat} (hk : kd b = (8, 0)) (hdg : decode cc pc = .ok (.getfield ix, 3)) (hl : Cond.fieldLink own ix "ShapeMovesModel" "items" "[J" ∈ lw_tbl) (kk : G E d X nL R σ (pc + 3) L (.ref (ev_a E (78)) :: st)) : G E d X nL R σ pc L (.ref (ev_a E b) :: st) := g_get C (k := 21) (N := 22) (T := TX8) (ci := 7) (kd_lt2 hk (by decide)) (by rw [hk]; rfl) rfl inG8 (by decide) hl rfl rfl hdg kk
theorem ob_X7 {b : Nat} (hk : kd b = (0, 0)) : obj b RX7 := ⟨kd_lt2 hk (by decide), 6, _, _, rfl, fun E f g => by rw [hk]; exact ⟨_, rfl⟩⟩
theorem ob_X3 {b : Nat} (hk : kd b = (1, 0)) : obj b RX3 := ⟨kd_lt2 hk (by decide), 2, _, _, rfl, fun E f g => by rw [hk]; exact ⟨_, rfl⟩⟩
theorem ob_X4 {b : Nat} (hk : kd b = (2, 0)) : obj b RX4 := ⟨kd_lt2 hk (by decide), 3, _, _, rfl, fun E f g => by rw [hk]; exact ⟨_, rfl⟩⟩
theorem ob_X2 {b : Nat} (hk : kd b = (3, 0)) : obj b RX2 := ⟨kd_lt2 hk (by decide), 1, _, _, rfl, fun E f g => by rw [hk]; exact ⟨_, rfl⟩⟩
theorem ob_X0 {b : Nat} (hk : kd b = (4, 0)) : obj b RX0 := ⟨kd_lt2 hk (by decide), 0, _, _, rfl, fun E f g => by rw [hk]; exact ⟨_, rfl⟩⟩
theorem ob_X6 {b : Nat} (hk : kd b = (5, 0)) : obj b RX6 := ⟨kd_lt2 hk (by decide), 5, _, _, rfl, fun E f g => by rw [hk]; exact ⟨_, rfl⟩⟩
theorem ob_X5 {b : Nat} (hk : kd b = (7, 0)) : obj b RX5 := ⟨kd_lt2 hk (by decide), 4, _, _, rfl, fun E f g => by rw [hk]; exact ⟨_, rfl⟩⟩
theorem ob_X8 {b : Nat} (hk : kd b = (8, 0)) : obj b RX8 := ⟨kd_lt2 hk (by decide), 7, _, _, rfl, fun E f g => by rw [hk]; exact ⟨_, rfl⟩⟩
end FI
end
