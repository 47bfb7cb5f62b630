-- ===== PART A: goes FIRST, ahead of the names: the tables' words, and 'selects' of the private methods out of them =====
/-- a private method of a class that the tables say can be made, by its rows of tables_1 -/
def lw_okq (q : MethodName × Nat) : Prop := (q.1.cls ≠ "java/lang/invoke/MethodHandle" ∧ q.1.cls ≠ "java/lang/invoke/VarHandle") ∧ Cond.instantiable q.1.cls q.2 ∈ tables_1 ∧ Cond.privateMethod q.1 ∈ tables_1 ∧ Cond.instanceMethod q.1 ∈ tables_1
theorem lw_p0 : lw_okq (⟨"ShapeMoves$Shape", "setPlace", "(IIII)V"⟩, 3) := ⟨⟨by decide +kernel, by decide +kernel⟩, List.mem_of_getElem? (i := 32) (by decide +kernel), List.mem_of_getElem? (i := 240) (by decide +kernel), List.mem_of_getElem? (i := 241) (by decide +kernel)⟩
theorem lw_p1 : lw_okq (⟨"ShapeMoves", "isPoint", "(I)Z"⟩, 9) := ⟨⟨by decide +kernel, by decide +kernel⟩, List.mem_of_getElem? (i := 18) (by decide +kernel), List.mem_of_getElem? (i := 248) (by decide +kernel), List.mem_of_getElem? (i := 249) (by decide +kernel)⟩
theorem lw_p2 : lw_okq (⟨"ShapeMoves", "groupNow", "()LShapeMoves$Group;"⟩, 9) := ⟨⟨by decide +kernel, by decide +kernel⟩, List.mem_of_getElem? (i := 18) (by decide +kernel), List.mem_of_getElem? (i := 267) (by decide +kernel), List.mem_of_getElem? (i := 268) (by decide +kernel)⟩
theorem lw_p3 : lw_okq (⟨"ShapeMoves$Shape", "isMovedBy", "(II)Z"⟩, 3) := ⟨⟨by decide +kernel, by decide +kernel⟩, List.mem_of_getElem? (i := 32) (by decide +kernel), List.mem_of_getElem? (i := 279) (by decide +kernel), List.mem_of_getElem? (i := 280) (by decide +kernel)⟩
theorem lw_p4 : lw_okq (⟨"ShapeMoves$Shape", "axisBehind", "(III)I"⟩, 3) := ⟨⟨by decide +kernel, by decide +kernel⟩, List.mem_of_getElem? (i := 32) (by decide +kernel), List.mem_of_getElem? (i := 287) (by decide +kernel), List.mem_of_getElem? (i := 288) (by decide +kernel)⟩
theorem lw_p5 : lw_okq (⟨"ShapeMoves$Group", "findOrbits", "(LShapeMoves$Shape;)V"⟩, 13) := ⟨⟨by decide +kernel, by decide +kernel⟩, List.mem_of_getElem? (i := 89) (by decide +kernel), List.mem_of_getElem? (i := 300) (by decide +kernel), List.mem_of_getElem? (i := 301) (by decide +kernel)⟩
theorem lw_p6 : lw_okq (⟨"ShapeMoves$Group", "findOrbit", "(LShapeMoves$Shape;I)V"⟩, 13) := ⟨⟨by decide +kernel, by decide +kernel⟩, List.mem_of_getElem? (i := 89) (by decide +kernel), List.mem_of_getElem? (i := 304) (by decide +kernel), List.mem_of_getElem? (i := 305) (by decide +kernel)⟩
theorem lw_p7 : lw_okq (⟨"ShapeMoves$Group", "findClasses", "()V"⟩, 13) := ⟨⟨by decide +kernel, by decide +kernel⟩, List.mem_of_getElem? (i := 89) (by decide +kernel), List.mem_of_getElem? (i := 312) (by decide +kernel), List.mem_of_getElem? (i := 313) (by decide +kernel)⟩
theorem lw_p8 : lw_okq (⟨"ShapeMoves$Group", "findClass", "(I)V"⟩, 13) := ⟨⟨by decide +kernel, by decide +kernel⟩, List.mem_of_getElem? (i := 89) (by decide +kernel), List.mem_of_getElem? (i := 316) (by decide +kernel), List.mem_of_getElem? (i := 317) (by decide +kernel)⟩
theorem lw_p9 : lw_okq (⟨"ShapeMoves$Text", "takeSign", "(C)Z"⟩, 5) := ⟨⟨by decide +kernel, by decide +kernel⟩, List.mem_of_getElem? (i := 146) (by decide +kernel), List.mem_of_getElem? (i := 350) (by decide +kernel), List.mem_of_getElem? (i := 351) (by decide +kernel)⟩
theorem lw_p10 : lw_okq (⟨"ShapeMoves$Text", "takeClause", "(I)Z"⟩, 5) := ⟨⟨by decide +kernel, by decide +kernel⟩, List.mem_of_getElem? (i := 146) (by decide +kernel), List.mem_of_getElem? (i := 354) (by decide +kernel), List.mem_of_getElem? (i := 355) (by decide +kernel)⟩
theorem lw_p11 : lw_okq (⟨"ShapeMoves$Text", "takeAxis", "(I)Z"⟩, 5) := ⟨⟨by decide +kernel, by decide +kernel⟩, List.mem_of_getElem? (i := 146) (by decide +kernel), List.mem_of_getElem? (i := 358) (by decide +kernel), List.mem_of_getElem? (i := 359) (by decide +kernel)⟩
theorem lw_p12 : lw_okq (⟨"ShapeMoves$Text", "takeDigit", "(I)Z"⟩, 5) := ⟨⟨by decide +kernel, by decide +kernel⟩, List.mem_of_getElem? (i := 146) (by decide +kernel), List.mem_of_getElem? (i := 362) (by decide +kernel), List.mem_of_getElem? (i := 363) (by decide +kernel)⟩
theorem lw_p13 : lw_okq (⟨"ShapeMoves", "doClause", "(I)Z"⟩, 9) := ⟨⟨by decide +kernel, by decide +kernel⟩, List.mem_of_getElem? (i := 18) (by decide +kernel), List.mem_of_getElem? (i := 366) (by decide +kernel), List.mem_of_getElem? (i := 367) (by decide +kernel)⟩
theorem lw_p14 : lw_okq (⟨"ShapeMoves$Group", "findSigns", "()V"⟩, 13) := ⟨⟨by decide +kernel, by decide +kernel⟩, List.mem_of_getElem? (i := 89) (by decide +kernel), List.mem_of_getElem? (i := 435) (by decide +kernel), List.mem_of_getElem? (i := 436) (by decide +kernel)⟩
theorem lw_p15 : lw_okq (⟨"ShapeMoves$Group", "findMadeOfSquares", "()V"⟩, 13) := ⟨⟨by decide +kernel, by decide +kernel⟩, List.mem_of_getElem? (i := 89) (by decide +kernel), List.mem_of_getElem? (i := 439) (by decide +kernel), List.mem_of_getElem? (i := 440) (by decide +kernel)⟩
def lw_privs_1 : List (MethodName × Nat) := [(⟨"ShapeMoves$Shape", "setPlace", "(IIII)V"⟩, 3), (⟨"ShapeMoves", "isPoint", "(I)Z"⟩, 9), (⟨"ShapeMoves", "groupNow", "()LShapeMoves$Group;"⟩, 9), (⟨"ShapeMoves$Shape", "isMovedBy", "(II)Z"⟩, 3), (⟨"ShapeMoves$Shape", "axisBehind", "(III)I"⟩, 3), (⟨"ShapeMoves$Group", "findOrbits", "(LShapeMoves$Shape;)V"⟩, 13), (⟨"ShapeMoves$Group", "findOrbit", "(LShapeMoves$Shape;I)V"⟩, 13), (⟨"ShapeMoves$Group", "findClasses", "()V"⟩, 13), (⟨"ShapeMoves$Group", "findClass", "(I)V"⟩, 13), (⟨"ShapeMoves$Text", "takeSign", "(C)Z"⟩, 5), (⟨"ShapeMoves$Text", "takeClause", "(I)Z"⟩, 5), (⟨"ShapeMoves$Text", "takeAxis", "(I)Z"⟩, 5), (⟨"ShapeMoves$Text", "takeDigit", "(I)Z"⟩, 5), (⟨"ShapeMoves", "doClause", "(I)Z"⟩, 9), (⟨"ShapeMoves$Group", "findSigns", "()V"⟩, 13), (⟨"ShapeMoves$Group", "findMadeOfSquares", "()V"⟩, 13)]
theorem lw_r1 : ∀ q ∈ lw_privs_1, lw_okq q := List.forall_mem_cons.mpr ⟨lw_p0, List.forall_mem_cons.mpr ⟨lw_p1, List.forall_mem_cons.mpr ⟨lw_p2, List.forall_mem_cons.mpr ⟨lw_p3, List.forall_mem_cons.mpr ⟨lw_p4, List.forall_mem_cons.mpr ⟨lw_p5, List.forall_mem_cons.mpr ⟨lw_p6, List.forall_mem_cons.mpr ⟨lw_p7, List.forall_mem_cons.mpr ⟨lw_p8, List.forall_mem_cons.mpr ⟨lw_p9, List.forall_mem_cons.mpr ⟨lw_p10, List.forall_mem_cons.mpr ⟨lw_p11, List.forall_mem_cons.mpr ⟨lw_p12, List.forall_mem_cons.mpr ⟨lw_p13, List.forall_mem_cons.mpr ⟨lw_p14, List.forall_mem_cons.mpr ⟨lw_p15, fun _ h => absurd h List.not_mem_nil⟩⟩⟩⟩⟩⟩⟩⟩⟩⟩⟩⟩⟩⟩⟩⟩
theorem lw_p16 : lw_okq (⟨"ShapeMoves$Group", "reach", "(II)V"⟩, 13) := ⟨⟨by decide +kernel, by decide +kernel⟩, List.mem_of_getElem? (i := 89) (by decide +kernel), List.mem_of_getElem? (i := 443) (by decide +kernel), List.mem_of_getElem? (i := 444) (by decide +kernel)⟩
theorem lw_p17 : lw_okq (⟨"ShapeMoves$Group", "addFree", "(I)V"⟩, 13) := ⟨⟨by decide +kernel, by decide +kernel⟩, List.mem_of_getElem? (i := 89) (by decide +kernel), List.mem_of_getElem? (i := 447) (by decide +kernel), List.mem_of_getElem? (i := 448) (by decide +kernel)⟩
theorem lw_p18 : lw_okq (⟨"ShapeMoves", "nearest", "(LShapeMoves$Group;)I"⟩, 9) := ⟨⟨by decide +kernel, by decide +kernel⟩, List.mem_of_getElem? (i := 18) (by decide +kernel), List.mem_of_getElem? (i := 451) (by decide +kernel), List.mem_of_getElem? (i := 452) (by decide +kernel)⟩
theorem lw_p19 : lw_okq (⟨"ShapeMoves", "isAllAsSeen", "(LShapeMoves$Shape;)Z"⟩, 9) := ⟨⟨by decide +kernel, by decide +kernel⟩, List.mem_of_getElem? (i := 18) (by decide +kernel), List.mem_of_getElem? (i := 533) (by decide +kernel), List.mem_of_getElem? (i := 534) (by decide +kernel)⟩
theorem lw_p20 : lw_okq (⟨"ShapeMoves$Shape", "replaceMark", "(I)V"⟩, 3) := ⟨⟨by decide +kernel, by decide +kernel⟩, List.mem_of_getElem? (i := 32) (by decide +kernel), List.mem_of_getElem? (i := 578) (by decide +kernel), List.mem_of_getElem? (i := 579) (by decide +kernel)⟩
theorem lw_p21 : lw_okq (⟨"ShapeMoves$Shape", "takeBy", "(I)V"⟩, 3) := ⟨⟨by decide +kernel, by decide +kernel⟩, List.mem_of_getElem? (i := 32) (by decide +kernel), List.mem_of_getElem? (i := 582) (by decide +kernel), List.mem_of_getElem? (i := 583) (by decide +kernel)⟩
theorem lw_p22 : lw_okq (⟨"ShapeMoves$Shape", "markAll", "(I)V"⟩, 3) := ⟨⟨by decide +kernel, by decide +kernel⟩, List.mem_of_getElem? (i := 32) (by decide +kernel), List.mem_of_getElem? (i := 586) (by decide +kernel), List.mem_of_getElem? (i := 587) (by decide +kernel)⟩
theorem lw_p23 : lw_okq (⟨"ShapeMovesModel", "comes", "(IIII)I"⟩, 22) := ⟨⟨by decide +kernel, by decide +kernel⟩, List.mem_of_getElem? (i := 660) (by decide +kernel), List.mem_of_getElem? (i := 737) (by decide +kernel), List.mem_of_getElem? (i := 738) (by decide +kernel)⟩
theorem lw_p24 : lw_okq (⟨"ShapeMovesModel", "pointAt", "(III)I"⟩, 22) := ⟨⟨by decide +kernel, by decide +kernel⟩, List.mem_of_getElem? (i := 660) (by decide +kernel), List.mem_of_getElem? (i := 747) (by decide +kernel), List.mem_of_getElem? (i := 748) (by decide +kernel)⟩
theorem lw_p25 : lw_okq (⟨"ShapeMovesModel", "isPoint", "(I)Z"⟩, 22) := ⟨⟨by decide +kernel, by decide +kernel⟩, List.mem_of_getElem? (i := 660) (by decide +kernel), List.mem_of_getElem? (i := 755) (by decide +kernel), List.mem_of_getElem? (i := 756) (by decide +kernel)⟩
theorem lw_p26 : lw_okq (⟨"ShapeMovesModel", "markOf", "(I)I"⟩, 22) := ⟨⟨by decide +kernel, by decide +kernel⟩, List.mem_of_getElem? (i := 660) (by decide +kernel), List.mem_of_getElem? (i := 759) (by decide +kernel), List.mem_of_getElem? (i := 760) (by decide +kernel)⟩
theorem lw_p27 : lw_okq (⟨"ShapeMovesModel", "finds", "()V"⟩, 22) := ⟨⟨by decide +kernel, by decide +kernel⟩, List.mem_of_getElem? (i := 660) (by decide +kernel), List.mem_of_getElem? (i := 771) (by decide +kernel), List.mem_of_getElem? (i := 772) (by decide +kernel)⟩
theorem lw_p28 : lw_okq (⟨"ShapeMovesModel", "movedMany", "(I)I"⟩, 22) := ⟨⟨by decide +kernel, by decide +kernel⟩, List.mem_of_getElem? (i := 660) (by decide +kernel), List.mem_of_getElem? (i := 775) (by decide +kernel), List.mem_of_getElem? (i := 776) (by decide +kernel)⟩
theorem lw_p29 : lw_okq (⟨"ShapeMovesModel", "goesTo", "(II)I"⟩, 22) := ⟨⟨by decide +kernel, by decide +kernel⟩, List.mem_of_getElem? (i := 660) (by decide +kernel), List.mem_of_getElem? (i := 779) (by decide +kernel), List.mem_of_getElem? (i := 780) (by decide +kernel)⟩
theorem lw_p30 : lw_okq (⟨"ShapeMovesModel", "moved", "(III)I"⟩, 22) := ⟨⟨by decide +kernel, by decide +kernel⟩, List.mem_of_getElem? (i := 660) (by decide +kernel), List.mem_of_getElem? (i := 783) (by decide +kernel), List.mem_of_getElem? (i := 784) (by decide +kernel)⟩
theorem lw_p31 : lw_okq (⟨"ShapeMovesModel", "orbitOf", "(I)I"⟩, 22) := ⟨⟨by decide +kernel, by decide +kernel⟩, List.mem_of_getElem? (i := 660) (by decide +kernel), List.mem_of_getElem? (i := 834) (by decide +kernel), List.mem_of_getElem? (i := 835) (by decide +kernel)⟩
def lw_privs_2 : List (MethodName × Nat) := [(⟨"ShapeMoves$Group", "reach", "(II)V"⟩, 13), (⟨"ShapeMoves$Group", "addFree", "(I)V"⟩, 13), (⟨"ShapeMoves", "nearest", "(LShapeMoves$Group;)I"⟩, 9), (⟨"ShapeMoves", "isAllAsSeen", "(LShapeMoves$Shape;)Z"⟩, 9), (⟨"ShapeMoves$Shape", "replaceMark", "(I)V"⟩, 3), (⟨"ShapeMoves$Shape", "takeBy", "(I)V"⟩, 3), (⟨"ShapeMoves$Shape", "markAll", "(I)V"⟩, 3), (⟨"ShapeMovesModel", "comes", "(IIII)I"⟩, 22), (⟨"ShapeMovesModel", "pointAt", "(III)I"⟩, 22), (⟨"ShapeMovesModel", "isPoint", "(I)Z"⟩, 22), (⟨"ShapeMovesModel", "markOf", "(I)I"⟩, 22), (⟨"ShapeMovesModel", "finds", "()V"⟩, 22), (⟨"ShapeMovesModel", "movedMany", "(I)I"⟩, 22), (⟨"ShapeMovesModel", "goesTo", "(II)I"⟩, 22), (⟨"ShapeMovesModel", "moved", "(III)I"⟩, 22), (⟨"ShapeMovesModel", "orbitOf", "(I)I"⟩, 22)]
theorem lw_r2 : ∀ q ∈ lw_privs_2, lw_okq q := List.forall_mem_cons.mpr ⟨lw_p16, List.forall_mem_cons.mpr ⟨lw_p17, List.forall_mem_cons.mpr ⟨lw_p18, List.forall_mem_cons.mpr ⟨lw_p19, List.forall_mem_cons.mpr ⟨lw_p20, List.forall_mem_cons.mpr ⟨lw_p21, List.forall_mem_cons.mpr ⟨lw_p22, List.forall_mem_cons.mpr ⟨lw_p23, List.forall_mem_cons.mpr ⟨lw_p24, List.forall_mem_cons.mpr ⟨lw_p25, List.forall_mem_cons.mpr ⟨lw_p26, List.forall_mem_cons.mpr ⟨lw_p27, List.forall_mem_cons.mpr ⟨lw_p28, List.forall_mem_cons.mpr ⟨lw_p29, List.forall_mem_cons.mpr ⟨lw_p30, List.forall_mem_cons.mpr ⟨lw_p31, fun _ h => absurd h List.not_mem_nil⟩⟩⟩⟩⟩⟩⟩⟩⟩⟩⟩⟩⟩⟩⟩⟩
theorem lw_p32 : lw_okq (⟨"ShapeMovesModel", "clause", "()V"⟩, 22) := ⟨⟨by decide +kernel, by decide +kernel⟩, List.mem_of_getElem? (i := 660) (by decide +kernel), List.mem_of_getElem? (i := 852) (by decide +kernel), List.mem_of_getElem? (i := 853) (by decide +kernel)⟩
theorem lw_p33 : lw_okq (⟨"ShapeMovesModel", "here", "()I"⟩, 22) := ⟨⟨by decide +kernel, by decide +kernel⟩, List.mem_of_getElem? (i := 660) (by decide +kernel), List.mem_of_getElem? (i := 856) (by decide +kernel), List.mem_of_getElem? (i := 857) (by decide +kernel)⟩
theorem lw_p34 : lw_okq (⟨"ShapeMovesModel", "number", "()I"⟩, 22) := ⟨⟨by decide +kernel, by decide +kernel⟩, List.mem_of_getElem? (i := 660) (by decide +kernel), List.mem_of_getElem? (i := 860) (by decide +kernel), List.mem_of_getElem? (i := 861) (by decide +kernel)⟩
theorem lw_p35 : lw_okq (⟨"ShapeMovesModel", "digit", "()I"⟩, 22) := ⟨⟨by decide +kernel, by decide +kernel⟩, List.mem_of_getElem? (i := 660) (by decide +kernel), List.mem_of_getElem? (i := 864) (by decide +kernel), List.mem_of_getElem? (i := 865) (by decide +kernel)⟩
theorem lw_p36 : lw_okq (⟨"ShapeMovesModel", "comma", "()V"⟩, 22) := ⟨⟨by decide +kernel, by decide +kernel⟩, List.mem_of_getElem? (i := 660) (by decide +kernel), List.mem_of_getElem? (i := 870) (by decide +kernel), List.mem_of_getElem? (i := 871) (by decide +kernel)⟩
theorem lw_p37 : lw_okq (⟨"ShapeMovesModel", "done", "(I)I"⟩, 22) := ⟨⟨by decide +kernel, by decide +kernel⟩, List.mem_of_getElem? (i := 660) (by decide +kernel), List.mem_of_getElem? (i := 874) (by decide +kernel), List.mem_of_getElem? (i := 875) (by decide +kernel)⟩
theorem lw_p38 : lw_okq (⟨"ShapeMovesModel", "findsSigns", "()V"⟩, 22) := ⟨⟨by decide +kernel, by decide +kernel⟩, List.mem_of_getElem? (i := 660) (by decide +kernel), List.mem_of_getElem? (i := 922) (by decide +kernel), List.mem_of_getElem? (i := 923) (by decide +kernel)⟩
theorem lw_p39 : lw_okq (⟨"ShapeMovesModel", "findsMakers", "()V"⟩, 22) := ⟨⟨by decide +kernel, by decide +kernel⟩, List.mem_of_getElem? (i := 660) (by decide +kernel), List.mem_of_getElem? (i := 926) (by decide +kernel), List.mem_of_getElem? (i := 927) (by decide +kernel)⟩
theorem lw_p40 : lw_okq (⟨"ShapeMovesModel", "makesMore", "()Z"⟩, 22) := ⟨⟨by decide +kernel, by decide +kernel⟩, List.mem_of_getElem? (i := 660) (by decide +kernel), List.mem_of_getElem? (i := 930) (by decide +kernel), List.mem_of_getElem? (i := 931) (by decide +kernel)⟩
theorem lw_p41 : lw_okq (⟨"ShapeMovesModel", "isSign", "(I)Z"⟩, 22) := ⟨⟨by decide +kernel, by decide +kernel⟩, List.mem_of_getElem? (i := 660) (by decide +kernel), List.mem_of_getElem? (i := 934) (by decide +kernel), List.mem_of_getElem? (i := 935) (by decide +kernel)⟩
theorem lw_p42 : lw_okq (⟨"ShapeMovesModel", "spreads", "(I)Z"⟩, 22) := ⟨⟨by decide +kernel, by decide +kernel⟩, List.mem_of_getElem? (i := 660) (by decide +kernel), List.mem_of_getElem? (i := 938) (by decide +kernel), List.mem_of_getElem? (i := 939) (by decide +kernel)⟩
theorem lw_p43 : lw_okq (⟨"ShapeMovesModel", "toldSign", "(II)I"⟩, 22) := ⟨⟨by decide +kernel, by decide +kernel⟩, List.mem_of_getElem? (i := 660) (by decide +kernel), List.mem_of_getElem? (i := 942) (by decide +kernel), List.mem_of_getElem? (i := 943) (by decide +kernel)⟩
theorem lw_p44 : lw_okq (⟨"ShapeMovesModel", "classes", "()I"⟩, 22) := ⟨⟨by decide +kernel, by decide +kernel⟩, List.mem_of_getElem? (i := 660) (by decide +kernel), List.mem_of_getElem? (i := 946) (by decide +kernel), List.mem_of_getElem? (i := 947) (by decide +kernel)⟩
theorem lw_p45 : lw_okq (⟨"ShapeMovesModel", "classNumber", "(I)I"⟩, 22) := ⟨⟨by decide +kernel, by decide +kernel⟩, List.mem_of_getElem? (i := 660) (by decide +kernel), List.mem_of_getElem? (i := 950) (by decide +kernel), List.mem_of_getElem? (i := 951) (by decide +kernel)⟩
theorem lw_p46 : lw_okq (⟨"ShapeMovesModel", "leastOf", "(I)I"⟩, 22) := ⟨⟨by decide +kernel, by decide +kernel⟩, List.mem_of_getElem? (i := 660) (by decide +kernel), List.mem_of_getElem? (i := 954) (by decide +kernel), List.mem_of_getElem? (i := 955) (by decide +kernel)⟩
theorem lw_p47 : lw_okq (⟨"ShapeMovesModel", "orbits", "()I"⟩, 22) := ⟨⟨by decide +kernel, by decide +kernel⟩, List.mem_of_getElem? (i := 660) (by decide +kernel), List.mem_of_getElem? (i := 958) (by decide +kernel), List.mem_of_getElem? (i := 959) (by decide +kernel)⟩
def lw_privs_3 : List (MethodName × Nat) := [(⟨"ShapeMovesModel", "clause", "()V"⟩, 22), (⟨"ShapeMovesModel", "here", "()I"⟩, 22), (⟨"ShapeMovesModel", "number", "()I"⟩, 22), (⟨"ShapeMovesModel", "digit", "()I"⟩, 22), (⟨"ShapeMovesModel", "comma", "()V"⟩, 22), (⟨"ShapeMovesModel", "done", "(I)I"⟩, 22), (⟨"ShapeMovesModel", "findsSigns", "()V"⟩, 22), (⟨"ShapeMovesModel", "findsMakers", "()V"⟩, 22), (⟨"ShapeMovesModel", "makesMore", "()Z"⟩, 22), (⟨"ShapeMovesModel", "isSign", "(I)Z"⟩, 22), (⟨"ShapeMovesModel", "spreads", "(I)Z"⟩, 22), (⟨"ShapeMovesModel", "toldSign", "(II)I"⟩, 22), (⟨"ShapeMovesModel", "classes", "()I"⟩, 22), (⟨"ShapeMovesModel", "classNumber", "(I)I"⟩, 22), (⟨"ShapeMovesModel", "leastOf", "(I)I"⟩, 22), (⟨"ShapeMovesModel", "orbits", "()I"⟩, 22)]
theorem lw_r3 : ∀ q ∈ lw_privs_3, lw_okq q := List.forall_mem_cons.mpr ⟨lw_p32, List.forall_mem_cons.mpr ⟨lw_p33, List.forall_mem_cons.mpr ⟨lw_p34, List.forall_mem_cons.mpr ⟨lw_p35, List.forall_mem_cons.mpr ⟨lw_p36, List.forall_mem_cons.mpr ⟨lw_p37, List.forall_mem_cons.mpr ⟨lw_p38, List.forall_mem_cons.mpr ⟨lw_p39, List.forall_mem_cons.mpr ⟨lw_p40, List.forall_mem_cons.mpr ⟨lw_p41, List.forall_mem_cons.mpr ⟨lw_p42, List.forall_mem_cons.mpr ⟨lw_p43, List.forall_mem_cons.mpr ⟨lw_p44, List.forall_mem_cons.mpr ⟨lw_p45, List.forall_mem_cons.mpr ⟨lw_p46, List.forall_mem_cons.mpr ⟨lw_p47, fun _ h => absurd h List.not_mem_nil⟩⟩⟩⟩⟩⟩⟩⟩⟩⟩⟩⟩⟩⟩⟩⟩
theorem lw_p48 : lw_okq (⟨"ShapeMovesModel", "isHanded", "()Z"⟩, 22) := ⟨⟨by decide +kernel, by decide +kernel⟩, List.mem_of_getElem? (i := 660) (by decide +kernel), List.mem_of_getElem? (i := 962) (by decide +kernel), List.mem_of_getElem? (i := 963) (by decide +kernel)⟩
theorem lw_p49 : lw_okq (⟨"ShapeMovesModel", "nearest", "()I"⟩, 22) := ⟨⟨by decide +kernel, by decide +kernel⟩, List.mem_of_getElem? (i := 660) (by decide +kernel), List.mem_of_getElem? (i := 966) (by decide +kernel), List.mem_of_getElem? (i := 967) (by decide +kernel)⟩
theorem lw_p50 : lw_okq (⟨"ShapeMovesModel", "classMany", "(I)I"⟩, 22) := ⟨⟨by decide +kernel, by decide +kernel⟩, List.mem_of_getElem? (i := 660) (by decide +kernel), List.mem_of_getElem? (i := 978) (by decide +kernel), List.mem_of_getElem? (i := 979) (by decide +kernel)⟩
theorem lw_p51 : lw_okq (⟨"ShapeMovesModel", "motionOf", "(II)I"⟩, 22) := ⟨⟨by decide +kernel, by decide +kernel⟩, List.mem_of_getElem? (i := 660) (by decide +kernel), List.mem_of_getElem? (i := 994) (by decide +kernel), List.mem_of_getElem? (i := 995) (by decide +kernel)⟩
theorem lw_p52 : lw_okq (⟨"ShapeMovesModel", "hasOf", "(II)I"⟩, 22) := ⟨⟨by decide +kernel, by decide +kernel⟩, List.mem_of_getElem? (i := 660) (by decide +kernel), List.mem_of_getElem? (i := 1006) (by decide +kernel), List.mem_of_getElem? (i := 1007) (by decide +kernel)⟩
theorem lw_p53 : lw_okq (⟨"ShapeMovesModel", "isSeen", "()Z"⟩, 22) := ⟨⟨by decide +kernel, by decide +kernel⟩, List.mem_of_getElem? (i := 660) (by decide +kernel), List.mem_of_getElem? (i := 1023) (by decide +kernel), List.mem_of_getElem? (i := 1024) (by decide +kernel)⟩
theorem lw_p54 : lw_okq (⟨"ShapeMovesModel", "happens", "(II)V"⟩, 22) := ⟨⟨by decide +kernel, by decide +kernel⟩, List.mem_of_getElem? (i := 660) (by decide +kernel), List.mem_of_getElem? (i := 1053) (by decide +kernel), List.mem_of_getElem? (i := 1054) (by decide +kernel)⟩
theorem lw_p55 : lw_okq (⟨"ShapeMovesModel", "goesBy", "(II)V"⟩, 22) := ⟨⟨by decide +kernel, by decide +kernel⟩, List.mem_of_getElem? (i := 660) (by decide +kernel), List.mem_of_getElem? (i := 1057) (by decide +kernel), List.mem_of_getElem? (i := 1058) (by decide +kernel)⟩
def lw_privs_4 : List (MethodName × Nat) := [(⟨"ShapeMovesModel", "isHanded", "()Z"⟩, 22), (⟨"ShapeMovesModel", "nearest", "()I"⟩, 22), (⟨"ShapeMovesModel", "classMany", "(I)I"⟩, 22), (⟨"ShapeMovesModel", "motionOf", "(II)I"⟩, 22), (⟨"ShapeMovesModel", "hasOf", "(II)I"⟩, 22), (⟨"ShapeMovesModel", "isSeen", "()Z"⟩, 22), (⟨"ShapeMovesModel", "happens", "(II)V"⟩, 22), (⟨"ShapeMovesModel", "goesBy", "(II)V"⟩, 22)]
theorem lw_r4 : ∀ q ∈ lw_privs_4, lw_okq q := List.forall_mem_cons.mpr ⟨lw_p48, List.forall_mem_cons.mpr ⟨lw_p49, List.forall_mem_cons.mpr ⟨lw_p50, List.forall_mem_cons.mpr ⟨lw_p51, List.forall_mem_cons.mpr ⟨lw_p52, List.forall_mem_cons.mpr ⟨lw_p53, List.forall_mem_cons.mpr ⟨lw_p54, List.forall_mem_cons.mpr ⟨lw_p55, fun _ h => absurd h List.not_mem_nil⟩⟩⟩⟩⟩⟩⟩⟩
def lw_privs : List (MethodName × Nat) := lw_privs_1 ++ (lw_privs_2 ++ (lw_privs_3 ++ (lw_privs_4)))
def lw_tbl : List Cond := k2_sels lw_privs ++ tables_1
theorem lw_privs_ok : ∀ q ∈ lw_privs, lw_okq q := by
  show ∀ q ∈ lw_privs_1 ++ (lw_privs_2 ++ (lw_privs_3 ++ (lw_privs_4))), lw_okq q
  exact List.forall_mem_append.mpr ⟨lw_r1, List.forall_mem_append.mpr ⟨lw_r2, List.forall_mem_append.mpr ⟨lw_r3, lw_r4⟩⟩⟩

def RX0 : String := "ShapeMoves$Group"
def TX0 : u_T := fun k => match k with
  | 0 => ("ShapeMoves$Group", "members", "[Z", true)
  | 1 => ("ShapeMoves$Group", "byNumber", "[I", true)
  | 2 => ("ShapeMoves$Group", "size", "I", false)
  | 3 => ("ShapeMoves$Group", "stay", "[I", true)
  | 4 => ("ShapeMoves$Group", "orbits", "[I", true)
  | 5 => ("ShapeMoves$Group", "orbitsInAll", "I", false)
  | 6 => ("ShapeMoves$Group", "classLeast", "[I", true)
  | 7 => ("ShapeMoves$Group", "classList", "[I", true)
  | 8 => ("ShapeMoves$Group", "classes", "I", false)
  | 9 => ("ShapeMoves$Group", "parts", "[I", true)
  | 10 => ("ShapeMoves$Group", "reached", "[I", true)
  | 11 => ("ShapeMoves$Group", "reachedInAll", "I", false)
  | _ => ("ShapeMoves$Group", "signs", "I", false)
def tyX0 : Nat → FieldType := fun k => match k with
  | 0 => .array .boolean
  | 1 => .array .int
  | 2 => .int
  | 3 => .array .int
  | 4 => .array .int
  | 5 => .int
  | 6 => .array .int
  | 7 => .array .int
  | 8 => .int
  | 9 => .array .int
  | 10 => .array .int
  | 11 => .int
  | _ => .int
abbrev wsX00 : List Cond := u_ws RX0 TX0 13
theorem nmX0 : ∀ a, a < 13 → ∀ b, b < 13 → a ≠ b → (TX0 a).2.1 ≠ (TX0 b).2.1 := by decide +kernel
theorem tyX0_ok : ∀ k, k < 13 → parseFieldDescriptor (TX0 k).2.2.1 = some (tyX0 k) := by decide +kernel
abbrev cX0_init : ByteArray := prog_2_method_1_code
def yX0_init : MethodName := ⟨RX0, "<init>", "()V"⟩
abbrev cX0_find : ByteArray := prog_2_method_2_code
def yX0_find : MethodName := ⟨RX0, "find", "(LShapeMoves$Shape;)V"⟩
abbrev cX0_findOrbits : ByteArray := prog_2_method_3_code
def yX0_findOrbits : MethodName := ⟨RX0, "findOrbits", "(LShapeMoves$Shape;)V"⟩
abbrev cX0_findOrbit : ByteArray := prog_2_method_4_code
def yX0_findOrbit : MethodName := ⟨RX0, "findOrbit", "(LShapeMoves$Shape;I)V"⟩
abbrev cX0_findClasses : ByteArray := prog_2_method_5_code
def yX0_findClasses : MethodName := ⟨RX0, "findClasses", "()V"⟩
abbrev cX0_findClass : ByteArray := prog_2_method_6_code
def yX0_findClass : MethodName := ⟨RX0, "findClass", "(I)V"⟩
abbrev cX0_sizeOfClass : ByteArray := prog_2_method_7_code
def yX0_sizeOfClass : MethodName := ⟨RX0, "sizeOfClass", "(I)I"⟩
abbrev cX0_isHanded : ByteArray := prog_2_method_8_code
def yX0_isHanded : MethodName := ⟨RX0, "isHanded", "()Z"⟩
abbrev cX0_ordersTogether : ByteArray := prog_2_method_9_code
def yX0_ordersTogether : MethodName := ⟨RX0, "ordersTogether", "()I"⟩
abbrev cX0_motionOf : ByteArray := prog_2_method_10_code
def yX0_motionOf : MethodName := ⟨RX0, "motionOf", "(II)I"⟩
abbrev cX0_timesOf : ByteArray := prog_2_method_11_code
def yX0_timesOf : MethodName := ⟨RX0, "timesOf", "(II)I"⟩
abbrev cX0_signsInAll : ByteArray := prog_2_method_12_code
def yX0_signsInAll : MethodName := ⟨RX0, "signsInAll", "()I"⟩
abbrev cX0_signOf : ByteArray := prog_2_method_13_code
def yX0_signOf : MethodName := ⟨RX0, "signOf", "(II)I"⟩
abbrev cX0_findSigns : ByteArray := prog_2_method_14_code
def yX0_findSigns : MethodName := ⟨RX0, "findSigns", "()V"⟩
abbrev cX0_findMadeOfSquares : ByteArray := prog_2_method_15_code
def yX0_findMadeOfSquares : MethodName := ⟨RX0, "findMadeOfSquares", "()V"⟩
abbrev cX0_reach : ByteArray := prog_2_method_16_code
def yX0_reach : MethodName := ⟨RX0, "reach", "(II)V"⟩
abbrev cX0_addFree : ByteArray := prog_2_method_17_code
def yX0_addFree : MethodName := ⟨RX0, "addFree", "(I)V"⟩
def RX1 : String := "ShapeMoves$Moves"
def TX1 : u_T := fun k => match k with
  | _ => ("", "", "", false)
def tyX1 : Nat → FieldType := fun k => match k with
  | _ => .int
abbrev wsX10 : List Cond := u_ws RX1 TX1 0
theorem nmX1 : ∀ a, a < 0 → ∀ b, b < 0 → a ≠ b → (TX1 a).2.1 ≠ (TX1 b).2.1 := by decide +kernel
theorem tyX1_ok : ∀ k, k < 0 → parseFieldDescriptor (TX1 k).2.2.1 = some (tyX1 k) := by decide +kernel
abbrev cX1_isMove : ByteArray := prog_3_method_2_code
def yX1_isMove : MethodName := ⟨RX1, "isMove", "(I)Z"⟩
abbrev cX1_axisAt : ByteArray := prog_3_method_3_code
def yX1_axisAt : MethodName := ⟨RX1, "axisAt", "(II)I"⟩
abbrev cX1_signBit : ByteArray := prog_3_method_4_code
def yX1_signBit : MethodName := ⟨RX1, "signBit", "(II)I"⟩
abbrev cX1_multiply : ByteArray := prog_3_method_5_code
def yX1_multiply : MethodName := ⟨RX1, "multiply", "(II)I"⟩
abbrev cX1_invert : ByteArray := prog_3_method_6_code
def yX1_invert : MethodName := ⟨RX1, "invert", "(I)I"⟩
abbrev cX1_orderOf : ByteArray := prog_3_method_7_code
def yX1_orderOf : MethodName := ⟨RX1, "orderOf", "(I)I"⟩
abbrev cX1_traceOf : ByteArray := prog_3_method_8_code
def yX1_traceOf : MethodName := ⟨RX1, "traceOf", "(I)I"⟩
abbrev cX1_turnOf : ByteArray := prog_3_method_9_code
def yX1_turnOf : MethodName := ⟨RX1, "turnOf", "(I)I"⟩
def RX2 : String := "ShapeMoves$Rows"
def TX2 : u_T := fun k => match k with
  | 0 => ("ShapeMoves$Rows", "first", "[I", true)
  | 1 => ("ShapeMoves$Rows", "second", "[I", true)
  | _ => ("ShapeMoves$Rows", "size", "I", false)
def tyX2 : Nat → FieldType := fun k => match k with
  | 0 => .array .int
  | 1 => .array .int
  | _ => .int
abbrev wsX20 : List Cond := u_ws RX2 TX2 3
theorem nmX2 : ∀ a, a < 3 → ∀ b, b < 3 → a ≠ b → (TX2 a).2.1 ≠ (TX2 b).2.1 := by decide +kernel
theorem tyX2_ok : ∀ k, k < 3 → parseFieldDescriptor (TX2 k).2.2.1 = some (tyX2 k) := by decide +kernel
abbrev cX2_init : ByteArray := prog_4_method_1_code
def yX2_init : MethodName := ⟨RX2, "<init>", "(I)V"⟩
abbrev cX2_isFull : ByteArray := prog_4_method_2_code
def yX2_isFull : MethodName := ⟨RX2, "isFull", "()Z"⟩
abbrev cX2_add : ByteArray := prog_4_method_3_code
def yX2_add : MethodName := ⟨RX2, "add", "(II)I"⟩
abbrev cX2_empty : ByteArray := prog_4_method_4_code
def yX2_empty : MethodName := ⟨RX2, "empty", "()I"⟩
abbrev cX2_become : ByteArray := prog_4_method_5_code
def yX2_become : MethodName := ⟨RX2, "become", "(LShapeMoves$Rows;)V"⟩
def RX3 : String := "ShapeMoves$Setup"
def TX3 : u_T := fun k => match k with
  | 0 => ("ShapeMoves$Setup", "shape", "LShapeMoves$Shape;", true)
  | 1 => ("ShapeMoves$Setup", "seen", "LShapeMoves$Rows;", true)
  | 2 => ("ShapeMoves$Setup", "events", "LShapeMoves$Rows;", true)
  | _ => ("ShapeMoves$Setup", "book", "LShapeMoves$Rows;", true)
def tyX3 : Nat → FieldType := fun k => match k with
  | 0 => .object "ShapeMoves$Shape"
  | 1 => .object "ShapeMoves$Rows"
  | 2 => .object "ShapeMoves$Rows"
  | _ => .object "ShapeMoves$Rows"
abbrev wsX30 : List Cond := u_ws RX3 TX3 4
theorem nmX3 : ∀ a, a < 4 → ∀ b, b < 4 → a ≠ b → (TX3 a).2.1 ≠ (TX3 b).2.1 := by decide +kernel
theorem tyX3_ok : ∀ k, k < 4 → parseFieldDescriptor (TX3 k).2.2.1 = some (tyX3 k) := by decide +kernel
abbrev cX3_init : ByteArray := prog_5_method_1_code
def yX3_init : MethodName := ⟨RX3, "<init>", "()V"⟩
abbrev cX3_become : ByteArray := prog_5_method_2_code
def yX3_become : MethodName := ⟨RX3, "become", "(LShapeMoves$Setup;)V"⟩
def RX4 : String := "ShapeMoves$Shape"
def TX4 : u_T := fun k => match k with
  | 0 => ("ShapeMoves$Shape", "places", "[I", true)
  | 1 => ("ShapeMoves$Shape", "marks", "[I", true)
  | _ => ("ShapeMoves$Shape", "size", "I", false)
def tyX4 : Nat → FieldType := fun k => match k with
  | 0 => .array .int
  | 1 => .array .int
  | _ => .int
abbrev wsX40 : List Cond := u_ws RX4 TX4 3
theorem nmX4 : ∀ a, a < 3 → ∀ b, b < 3 → a ≠ b → (TX4 a).2.1 ≠ (TX4 b).2.1 := by decide +kernel
theorem tyX4_ok : ∀ k, k < 3 → parseFieldDescriptor (TX4 k).2.2.1 = some (tyX4 k) := by decide +kernel
abbrev cX4_init : ByteArray := prog_6_method_1_code
def yX4_init : MethodName := ⟨RX4, "<init>", "()V"⟩
abbrev cX4_become : ByteArray := prog_6_method_2_code
def yX4_become : MethodName := ⟨RX4, "become", "(LShapeMoves$Shape;)V"⟩
abbrev cX4_add : ByteArray := prog_6_method_3_code
def yX4_add : MethodName := ⟨RX4, "add", "(IIII)I"⟩
abbrev cX4_setPlace : ByteArray := prog_6_method_4_code
def yX4_setPlace : MethodName := ⟨RX4, "setPlace", "(IIII)V"⟩
abbrev cX4_remove : ByteArray := prog_6_method_5_code
def yX4_remove : MethodName := ⟨RX4, "remove", "(I)V"⟩
abbrev cX4_pointAt : ByteArray := prog_6_method_6_code
def yX4_pointAt : MethodName := ⟨RX4, "pointAt", "(III)I"⟩
abbrev cX4_axisBehind : ByteArray := prog_6_method_7_code
def yX4_axisBehind : MethodName := ⟨RX4, "axisBehind", "(III)I"⟩
abbrev cX4_pointBehind : ByteArray := prog_6_method_8_code
def yX4_pointBehind : MethodName := ⟨RX4, "pointBehind", "(II)I"⟩
abbrev cX4_isMovedBy : ByteArray := prog_6_method_9_code
def yX4_isMovedBy : MethodName := ⟨RX4, "isMovedBy", "(II)Z"⟩
abbrev cX4_movedBy : ByteArray := prog_6_method_10_code
def yX4_movedBy : MethodName := ⟨RX4, "movedBy", "(I)I"⟩
abbrev cX4_isKeptBy : ByteArray := prog_6_method_11_code
def yX4_isKeptBy : MethodName := ⟨RX4, "isKeptBy", "(I)Z"⟩
abbrev cX4_keepers : ByteArray := prog_6_method_12_code
def yX4_keepers : MethodName := ⟨RX4, "keepers", "()I"⟩
abbrev cX4_happen : ByteArray := prog_6_method_13_code
def yX4_happen : MethodName := ⟨RX4, "happen", "(II)V"⟩
abbrev cX4_replaceMark : ByteArray := prog_6_method_14_code
def yX4_replaceMark : MethodName := ⟨RX4, "replaceMark", "(I)V"⟩
abbrev cX4_takeBy : ByteArray := prog_6_method_15_code
def yX4_takeBy : MethodName := ⟨RX4, "takeBy", "(I)V"⟩
abbrev cX4_markAll : ByteArray := prog_6_method_16_code
def yX4_markAll : MethodName := ⟨RX4, "markAll", "(I)V"⟩
def RX5 : String := "ShapeMoves$Tape"
def TX5 : u_T := fun k => match k with
  | 0 => ("ShapeMoves$Tape", "items", "[J", true)
  | 1 => ("ShapeMoves$Tape", "sort", "I", false)
  | _ => ("ShapeMoves$Tape", "size", "I", false)
def tyX5 : Nat → FieldType := fun k => match k with
  | 0 => .array .long
  | 1 => .int
  | _ => .int
abbrev wsX50 : List Cond := u_ws RX5 TX5 3
theorem nmX5 : ∀ a, a < 3 → ∀ b, b < 3 → a ≠ b → (TX5 a).2.1 ≠ (TX5 b).2.1 := by decide +kernel
theorem tyX5_ok : ∀ k, k < 3 → parseFieldDescriptor (TX5 k).2.2.1 = some (tyX5 k) := by decide +kernel
abbrev cX5_init : ByteArray := prog_7_method_1_code
def yX5_init : MethodName := ⟨RX5, "<init>", "()V"⟩
abbrev cX5_become : ByteArray := prog_7_method_2_code
def yX5_become : MethodName := ⟨RX5, "become", "(II)V"⟩
abbrev cX5_hasPlace : ByteArray := prog_7_method_3_code
def yX5_hasPlace : MethodName := ⟨RX5, "hasPlace", "(I)Z"⟩
abbrev cX5_hasRun : ByteArray := prog_7_method_4_code
def yX5_hasRun : MethodName := ⟨RX5, "hasRun", "(II)Z"⟩
abbrev cX5_asItem : ByteArray := prog_7_method_5_code
def yX5_asItem : MethodName := ⟨RX5, "asItem", "(J)J"⟩
def RX6 : String := "ShapeMoves$Text"
def TX6 : u_T := fun k => match k with
  | 0 => ("ShapeMoves$Text", "signs", "[B", true)
  | 1 => ("ShapeMoves$Text", "size", "I", false)
  | 2 => ("ShapeMoves$Text", "place", "I", false)
  | 3 => ("ShapeMoves$Text", "parts", "[I", true)
  | _ => ("ShapeMoves$Text", "clauses", "I", false)
def tyX6 : Nat → FieldType := fun k => match k with
  | 0 => .array .byte
  | 1 => .int
  | 2 => .int
  | 3 => .array .int
  | _ => .int
abbrev wsX60 : List Cond := u_ws RX6 TX6 5
theorem nmX6 : ∀ a, a < 5 → ∀ b, b < 5 → a ≠ b → (TX6 a).2.1 ≠ (TX6 b).2.1 := by decide +kernel
theorem tyX6_ok : ∀ k, k < 5 → parseFieldDescriptor (TX6 k).2.2.1 = some (tyX6 k) := by decide +kernel
abbrev cX6_init : ByteArray := prog_8_method_1_code
def yX6_init : MethodName := ⟨RX6, "<init>", "()V"⟩
abbrev cX6_add : ByteArray := prog_8_method_2_code
def yX6_add : MethodName := ⟨RX6, "add", "(I)I"⟩
abbrev cX6_part : ByteArray := prog_8_method_3_code
def yX6_part : MethodName := ⟨RX6, "part", "(II)I"⟩
abbrev cX6_parse : ByteArray := prog_8_method_4_code
def yX6_parse : MethodName := ⟨RX6, "parse", "()I"⟩
abbrev cX6_takeClause : ByteArray := prog_8_method_5_code
def yX6_takeClause : MethodName := ⟨RX6, "takeClause", "(I)Z"⟩
abbrev cX6_takeAxis : ByteArray := prog_8_method_6_code
def yX6_takeAxis : MethodName := ⟨RX6, "takeAxis", "(I)Z"⟩
abbrev cX6_takeDigit : ByteArray := prog_8_method_7_code
def yX6_takeDigit : MethodName := ⟨RX6, "takeDigit", "(I)Z"⟩
abbrev cX6_takeSign : ByteArray := prog_8_method_8_code
def yX6_takeSign : MethodName := ⟨RX6, "takeSign", "(C)Z"⟩
def RX7 : String := "ShapeMoves"
def TX7 : u_T := fun k => match k with
  | 0 => ("ShapeMoves", "now", "LShapeMoves$Setup;", true)
  | 1 => ("ShapeMoves", "imaged", "LShapeMoves$Setup;", true)
  | 2 => ("ShapeMoves", "isImaged", "Z", false)
  | 3 => ("ShapeMoves", "nowGroup", "LShapeMoves$Group;", true)
  | 4 => ("ShapeMoves", "isGroupOld", "Z", false)
  | 5 => ("ShapeMoves", "trial", "LShapeMoves$Shape;", true)
  | 6 => ("ShapeMoves", "trialGroup", "LShapeMoves$Group;", true)
  | 7 => ("ShapeMoves", "text", "LShapeMoves$Text;", true)
  | _ => ("ShapeMoves", "tapes", "[LShapeMoves$Tape;", true)
def tyX7 : Nat → FieldType := fun k => match k with
  | 0 => .object "ShapeMoves$Setup"
  | 1 => .object "ShapeMoves$Setup"
  | 2 => .boolean
  | 3 => .object "ShapeMoves$Group"
  | 4 => .boolean
  | 5 => .object "ShapeMoves$Shape"
  | 6 => .object "ShapeMoves$Group"
  | 7 => .object "ShapeMoves$Text"
  | _ => .array (.object "ShapeMoves$Tape")
abbrev wsX70 : List Cond := u_ws RX7 TX7 9
theorem nmX7 : ∀ a, a < 9 → ∀ b, b < 9 → a ≠ b → (TX7 a).2.1 ≠ (TX7 b).2.1 := by decide +kernel
theorem tyX7_ok : ∀ k, k < 9 → parseFieldDescriptor (TX7 k).2.2.1 = some (tyX7 k) := by decide +kernel
abbrev cX7_init : ByteArray := prog_1_method_1_code
def yX7_init : MethodName := ⟨RX7, "<init>", "()V"⟩
abbrev cX7_point : ByteArray := prog_1_method_2_code
def yX7_point : MethodName := ⟨RX7, "point", "(IIII)I"⟩
abbrev cX7_mark : ByteArray := prog_1_method_3_code
def yX7_mark : MethodName := ⟨RX7, "mark", "(II)I"⟩
abbrev cX7_drop : ByteArray := prog_1_method_4_code
def yX7_drop : MethodName := ⟨RX7, "drop", "(I)I"⟩
abbrev cX7_of : ByteArray := prog_1_method_5_code
def yX7_of : MethodName := ⟨RX7, "of", "(II)I"⟩
abbrev cX7_at : ByteArray := prog_1_method_6_code
def yX7_at : MethodName := ⟨RX7, "at", "(III)I"⟩
abbrev cX7_feed : ByteArray := prog_1_method_7_code
def yX7_feed : MethodName := ⟨RX7, "feed", "(I)I"⟩
abbrev cX7_read : ByteArray := prog_1_method_8_code
def yX7_read : MethodName := ⟨RX7, "read", "()I"⟩
abbrev cX7_doClause : ByteArray := prog_1_method_9_code
def yX7_doClause : MethodName := ⟨RX7, "doClause", "(I)Z"⟩
abbrev cX7_product : ByteArray := prog_1_method_10_code
def yX7_product : MethodName := ⟨RX7, "product", "(II)I"⟩
abbrev cX7_move : ByteArray := prog_1_method_11_code
def yX7_move : MethodName := ⟨RX7, "move", "(II)I"⟩
abbrev cX7_trace : ByteArray := prog_1_method_12_code
def yX7_trace : MethodName := ⟨RX7, "trace", "(II)I"⟩
abbrev cX7_takes : ByteArray := prog_1_method_13_code
def yX7_takes : MethodName := ⟨RX7, "takes", "(II)I"⟩
abbrev cX7_told : ByteArray := prog_1_method_14_code
def yX7_told : MethodName := ⟨RX7, "told", "(I)I"⟩
abbrev cX7_nearest : ByteArray := prog_1_method_15_code
def yX7_nearest : MethodName := ⟨RX7, "nearest", "(LShapeMoves$Group;)I"⟩
abbrev cX7_group : ByteArray := prog_1_method_16_code
def yX7_group : MethodName := ⟨RX7, "group", "(I)I"⟩
abbrev cX7_classOf : ByteArray := prog_1_method_17_code
def yX7_classOf : MethodName := ⟨RX7, "classOf", "(II)I"⟩
abbrev cX7_classAt : ByteArray := prog_1_method_18_code
def yX7_classAt : MethodName := ⟨RX7, "classAt", "(I)I"⟩
abbrev cX7_motion : ByteArray := prog_1_method_19_code
def yX7_motion : MethodName := ⟨RX7, "motion", "(II)I"⟩
abbrev cX7_sign : ByteArray := prog_1_method_20_code
def yX7_sign : MethodName := ⟨RX7, "sign", "(II)I"⟩
abbrev cX7_has : ByteArray := prog_1_method_21_code
def yX7_has : MethodName := ⟨RX7, "has", "(II)I"⟩
abbrev cX7_active : ByteArray := prog_1_method_22_code
def yX7_active : MethodName := ⟨RX7, "active", "(I)I"⟩
abbrev cX7_isActive : ByteArray := prog_1_method_23_code
def yX7_isActive : MethodName := ⟨RX7, "isActive", "(LShapeMoves$Group;II)Z"⟩
abbrev cX7_see : ByteArray := prog_1_method_24_code
def yX7_see : MethodName := ⟨RX7, "see", "(IZ)I"⟩
abbrev cX7_fits : ByteArray := prog_1_method_25_code
def yX7_fits : MethodName := ⟨RX7, "fits", "(II)I"⟩
abbrev cX7_isAllAsSeen : ByteArray := prog_1_method_26_code
def yX7_isAllAsSeen : MethodName := ⟨RX7, "isAllAsSeen", "(LShapeMoves$Shape;)Z"⟩
abbrev cX7_odds : ByteArray := prog_1_method_27_code
def yX7_odds : MethodName := ⟨RX7, "odds", "(III)J"⟩
abbrev cX7_mean : ByteArray := prog_1_method_28_code
def yX7_mean : MethodName := ⟨RX7, "mean", "(I)J"⟩
abbrev cX7_partOfFraction : ByteArray := prog_1_method_29_code
def yX7_partOfFraction : MethodName := ⟨RX7, "partOfFraction", "(III)I"⟩
abbrev cX7_event : ByteArray := prog_1_method_30_code
def yX7_event : MethodName := ⟨RX7, "event", "(II)I"⟩
abbrev cX7_isForEvent : ByteArray := prog_1_method_31_code
def yX7_isForEvent : MethodName := ⟨RX7, "isForEvent", "(II)Z"⟩
abbrev cX7_after : ByteArray := prog_1_method_32_code
def yX7_after : MethodName := ⟨RX7, "after", "(I)I"⟩
abbrev cX7_book : ByteArray := prog_1_method_33_code
def yX7_book : MethodName := ⟨RX7, "book", "(II)I"⟩
abbrev cX7_looked : ByteArray := prog_1_method_34_code
def yX7_looked : MethodName := ⟨RX7, "looked", "()I"⟩
abbrev cX7_judge : ByteArray := prog_1_method_35_code
def yX7_judge : MethodName := ⟨RX7, "judge", "(II)I"⟩
abbrev cX7_image : ByteArray := prog_1_method_36_code
def yX7_image : MethodName := ⟨RX7, "image", "()I"⟩
abbrev cX7_undo : ByteArray := prog_1_method_37_code
def yX7_undo : MethodName := ⟨RX7, "undo", "()I"⟩
abbrev cX7_count : ByteArray := prog_1_method_38_code
def yX7_count : MethodName := ⟨RX7, "count", "(I)I"⟩
abbrev cX7_tape : ByteArray := prog_1_method_39_code
def yX7_tape : MethodName := ⟨RX7, "tape", "(III)I"⟩
abbrev cX7_item : ByteArray := prog_1_method_40_code
def yX7_item : MethodName := ⟨RX7, "item", "(IIJ)I"⟩
abbrev cX7_peek : ByteArray := prog_1_method_41_code
def yX7_peek : MethodName := ⟨RX7, "peek", "(II)J"⟩
abbrev cX7_shift : ByteArray := prog_1_method_42_code
def yX7_shift : MethodName := ⟨RX7, "shift", "(IIIII)I"⟩
abbrev cX7_groupNow : ByteArray := prog_1_method_43_code
def yX7_groupNow : MethodName := ⟨RX7, "groupNow", "()LShapeMoves$Group;"⟩
abbrev cX7_isPoint : ByteArray := prog_1_method_44_code
def yX7_isPoint : MethodName := ⟨RX7, "isPoint", "(I)Z"⟩
abbrev cX7_isPlace : ByteArray := prog_1_method_45_code
def yX7_isPlace : MethodName := ⟨RX7, "isPlace", "(III)Z"⟩
abbrev cX7_isAxis : ByteArray := prog_1_method_46_code
def yX7_isAxis : MethodName := ⟨RX7, "isAxis", "(I)Z"⟩
abbrev cX7_isMark : ByteArray := prog_1_method_47_code
def yX7_isMark : MethodName := ⟨RX7, "isMark", "(I)Z"⟩
abbrev cX7_isMotion : ByteArray := prog_1_method_48_code
def yX7_isMotion : MethodName := ⟨RX7, "isMotion", "(I)Z"⟩
abbrev cX7_isPart : ByteArray := prog_1_method_49_code
def yX7_isPart : MethodName := ⟨RX7, "isPart", "(I)Z"⟩
abbrev cX7_isTape : ByteArray := prog_1_method_50_code
def yX7_isTape : MethodName := ⟨RX7, "isTape", "(I)Z"⟩
def RX8 : String := "ShapeMovesModel"
def TX8 : u_T := fun k => match k with
  | 0 => ("ShapeMovesModel", "w", "[I", true)
  | 1 => ("ShapeMovesModel", "aside", "[I", true)
  | 2 => ("ShapeMovesModel", "kept", "[I", true)
  | 3 => ("ShapeMovesModel", "hasImage", "Z", false)
  | 4 => ("ShapeMovesModel", "group", "[I", true)
  | 5 => ("ShapeMovesModel", "isIn", "[Z", true)
  | 6 => ("ShapeMovesModel", "size", "I", false)
  | 7 => ("ShapeMovesModel", "makers", "[I", true)
  | 8 => ("ShapeMovesModel", "makerMany", "I", false)
  | 9 => ("ShapeMovesModel", "made", "[Z", true)
  | 10 => ("ShapeMovesModel", "sign", "[I", true)
  | 11 => ("ShapeMovesModel", "signs", "[I", true)
  | 12 => ("ShapeMovesModel", "signMany", "I", false)
  | 13 => ("ShapeMovesModel", "text", "[I", true)
  | 14 => ("ShapeMovesModel", "length", "I", false)
  | 15 => ("ShapeMovesModel", "place", "I", false)
  | 16 => ("ShapeMovesModel", "isWrong", "Z", false)
  | 17 => ("ShapeMovesModel", "told", "[I", true)
  | 18 => ("ShapeMovesModel", "toldMany", "I", false)
  | 19 => ("ShapeMovesModel", "sorts", "[I", true)
  | 20 => ("ShapeMovesModel", "sizes", "[I", true)
  | _ => ("ShapeMovesModel", "items", "[J", true)
def tyX8 : Nat → FieldType := fun k => match k with
  | 0 => .array .int
  | 1 => .array .int
  | 2 => .array .int
  | 3 => .boolean
  | 4 => .array .int
  | 5 => .array .boolean
  | 6 => .int
  | 7 => .array .int
  | 8 => .int
  | 9 => .array .boolean
  | 10 => .array .int
  | 11 => .array .int
  | 12 => .int
  | 13 => .array .int
  | 14 => .int
  | 15 => .int
  | 16 => .boolean
  | 17 => .array .int
  | 18 => .int
  | 19 => .array .int
  | 20 => .array .int
  | _ => .array .long
abbrev wsX80 : List Cond := u_ws RX8 TX8 22
theorem nmX8 : ∀ a, a < 22 → ∀ b, b < 22 → a ≠ b → (TX8 a).2.1 ≠ (TX8 b).2.1 := by decide +kernel
theorem tyX8_ok : ∀ k, k < 22 → parseFieldDescriptor (TX8 k).2.2.1 = some (tyX8 k) := by decide +kernel
abbrev cX8_init : ByteArray := prog_10_method_1_code
def yX8_init : MethodName := ⟨RX8, "<init>", "()V"⟩
abbrev cX8_in : ByteArray := prog_10_method_2_code
def yX8_in : MethodName := ⟨RX8, "in", "(JJJ)Z"⟩
abbrev cX8_copies : ByteArray := prog_10_method_3_code
def yX8_copies : MethodName := ⟨RX8, "copies", "([I[I)V"⟩
abbrev cX8_isPoint : ByteArray := prog_10_method_4_code
def yX8_isPoint : MethodName := ⟨RX8, "isPoint", "(I)Z"⟩
abbrev cX8_isMove : ByteArray := prog_10_method_5_code
def yX8_isMove : MethodName := ⟨RX8, "isMove", "(I)Z"⟩
abbrev cX8_axis : ByteArray := prog_10_method_6_code
def yX8_axis : MethodName := ⟨RX8, "axis", "(II)I"⟩
abbrev cX8_bit : ByteArray := prog_10_method_7_code
def yX8_bit : MethodName := ⟨RX8, "bit", "(II)I"⟩
abbrev cX8_wayOf : ByteArray := prog_10_method_8_code
def yX8_wayOf : MethodName := ⟨RX8, "wayOf", "(III)I"⟩
abbrev cX8_times : ByteArray := prog_10_method_9_code
def yX8_times : MethodName := ⟨RX8, "times", "(II)I"⟩
abbrev cX8_inverse : ByteArray := prog_10_method_10_code
def yX8_inverse : MethodName := ⟨RX8, "inverse", "(I)I"⟩
abbrev cX8_orderOf : ByteArray := prog_10_method_11_code
def yX8_orderOf : MethodName := ⟨RX8, "orderOf", "(I)I"⟩
abbrev cX8_traceOf : ByteArray := prog_10_method_12_code
def yX8_traceOf : MethodName := ⟨RX8, "traceOf", "(I)I"⟩
abbrev cX8_turnOf : ByteArray := prog_10_method_13_code
def yX8_turnOf : MethodName := ⟨RX8, "turnOf", "(I)I"⟩
abbrev cX8_pointAt : ByteArray := prog_10_method_14_code
def yX8_pointAt : MethodName := ⟨RX8, "pointAt", "(III)I"⟩
abbrev cX8_moved : ByteArray := prog_10_method_15_code
def yX8_moved : MethodName := ⟨RX8, "moved", "(III)I"⟩
abbrev cX8_goesTo : ByteArray := prog_10_method_16_code
def yX8_goesTo : MethodName := ⟨RX8, "goesTo", "(II)I"⟩
abbrev cX8_markOf : ByteArray := prog_10_method_17_code
def yX8_markOf : MethodName := ⟨RX8, "markOf", "(I)I"⟩
abbrev cX8_movedMany : ByteArray := prog_10_method_18_code
def yX8_movedMany : MethodName := ⟨RX8, "movedMany", "(I)I"⟩
abbrev cX8_finds : ByteArray := prog_10_method_19_code
def yX8_finds : MethodName := ⟨RX8, "finds", "()V"⟩
abbrev cX8_leastOf : ByteArray := prog_10_method_20_code
def yX8_leastOf : MethodName := ⟨RX8, "leastOf", "(I)I"⟩
abbrev cX8_classMany : ByteArray := prog_10_method_21_code
def yX8_classMany : MethodName := ⟨RX8, "classMany", "(I)I"⟩
abbrev cX8_classNumber : ByteArray := prog_10_method_22_code
def yX8_classNumber : MethodName := ⟨RX8, "classNumber", "(I)I"⟩
abbrev cX8_classes : ByteArray := prog_10_method_23_code
def yX8_classes : MethodName := ⟨RX8, "classes", "()I"⟩
abbrev cX8_orbitOf : ByteArray := prog_10_method_24_code
def yX8_orbitOf : MethodName := ⟨RX8, "orbitOf", "(I)I"⟩
abbrev cX8_orbits : ByteArray := prog_10_method_25_code
def yX8_orbits : MethodName := ⟨RX8, "orbits", "()I"⟩
abbrev cX8_isHanded : ByteArray := prog_10_method_26_code
def yX8_isHanded : MethodName := ⟨RX8, "isHanded", "()Z"⟩
abbrev cX8_nearest : ByteArray := prog_10_method_27_code
def yX8_nearest : MethodName := ⟨RX8, "nearest", "()I"⟩
abbrev cX8_makesMore : ByteArray := prog_10_method_28_code
def yX8_makesMore : MethodName := ⟨RX8, "makesMore", "()Z"⟩
abbrev cX8_findsMakers : ByteArray := prog_10_method_29_code
def yX8_findsMakers : MethodName := ⟨RX8, "findsMakers", "()V"⟩
abbrev cX8_toldSign : ByteArray := prog_10_method_30_code
def yX8_toldSign : MethodName := ⟨RX8, "toldSign", "(II)I"⟩
abbrev cX8_spreads : ByteArray := prog_10_method_31_code
def yX8_spreads : MethodName := ⟨RX8, "spreads", "(I)Z"⟩
abbrev cX8_isSign : ByteArray := prog_10_method_32_code
def yX8_isSign : MethodName := ⟨RX8, "isSign", "(I)Z"⟩
abbrev cX8_findsSigns : ByteArray := prog_10_method_33_code
def yX8_findsSigns : MethodName := ⟨RX8, "findsSigns", "()V"⟩
abbrev cX8_motionOf : ByteArray := prog_10_method_34_code
def yX8_motionOf : MethodName := ⟨RX8, "motionOf", "(II)I"⟩
abbrev cX8_hasOf : ByteArray := prog_10_method_35_code
def yX8_hasOf : MethodName := ⟨RX8, "hasOf", "(II)I"⟩
abbrev cX8_comes : ByteArray := prog_10_method_36_code
def yX8_comes : MethodName := ⟨RX8, "comes", "(IIII)I"⟩
abbrev cX8_point : ByteArray := prog_10_method_37_code
def yX8_point : MethodName := ⟨RX8, "point", "(IIII)I"⟩
abbrev cX8_mark : ByteArray := prog_10_method_38_code
def yX8_mark : MethodName := ⟨RX8, "mark", "(II)I"⟩
abbrev cX8_drop : ByteArray := prog_10_method_39_code
def yX8_drop : MethodName := ⟨RX8, "drop", "(I)I"⟩
abbrev cX8_of : ByteArray := prog_10_method_40_code
def yX8_of : MethodName := ⟨RX8, "of", "(II)I"⟩
abbrev cX8_at : ByteArray := prog_10_method_41_code
def yX8_at : MethodName := ⟨RX8, "at", "(III)I"⟩
abbrev cX8_feed : ByteArray := prog_10_method_42_code
def yX8_feed : MethodName := ⟨RX8, "feed", "(I)I"⟩
abbrev cX8_here : ByteArray := prog_10_method_43_code
def yX8_here : MethodName := ⟨RX8, "here", "()I"⟩
abbrev cX8_digit : ByteArray := prog_10_method_44_code
def yX8_digit : MethodName := ⟨RX8, "digit", "()I"⟩
abbrev cX8_comma : ByteArray := prog_10_method_45_code
def yX8_comma : MethodName := ⟨RX8, "comma", "()V"⟩
abbrev cX8_number : ByteArray := prog_10_method_46_code
def yX8_number : MethodName := ⟨RX8, "number", "()I"⟩
abbrev cX8_clause : ByteArray := prog_10_method_47_code
def yX8_clause : MethodName := ⟨RX8, "clause", "()V"⟩
abbrev cX8_done : ByteArray := prog_10_method_48_code
def yX8_done : MethodName := ⟨RX8, "done", "(I)I"⟩
abbrev cX8_read : ByteArray := prog_10_method_49_code
def yX8_read : MethodName := ⟨RX8, "read", "()I"⟩
abbrev cX8_product : ByteArray := prog_10_method_50_code
def yX8_product : MethodName := ⟨RX8, "product", "(II)I"⟩
abbrev cX8_move : ByteArray := prog_10_method_51_code
def yX8_move : MethodName := ⟨RX8, "move", "(II)I"⟩
abbrev cX8_trace : ByteArray := prog_10_method_52_code
def yX8_trace : MethodName := ⟨RX8, "trace", "(II)I"⟩
abbrev cX8_takes : ByteArray := prog_10_method_53_code
def yX8_takes : MethodName := ⟨RX8, "takes", "(II)I"⟩
abbrev cX8_told : ByteArray := prog_10_method_54_code
def yX8_told : MethodName := ⟨RX8, "told", "(I)I"⟩
abbrev cX8_group : ByteArray := prog_10_method_55_code
def yX8_group : MethodName := ⟨RX8, "group", "(I)I"⟩
abbrev cX8_classOf : ByteArray := prog_10_method_56_code
def yX8_classOf : MethodName := ⟨RX8, "classOf", "(II)I"⟩
abbrev cX8_classAt : ByteArray := prog_10_method_57_code
def yX8_classAt : MethodName := ⟨RX8, "classAt", "(I)I"⟩
abbrev cX8_motion : ByteArray := prog_10_method_58_code
def yX8_motion : MethodName := ⟨RX8, "motion", "(II)I"⟩
abbrev cX8_sign : ByteArray := prog_10_method_59_code
def yX8_sign : MethodName := ⟨RX8, "sign", "(II)I"⟩
abbrev cX8_has : ByteArray := prog_10_method_60_code
def yX8_has : MethodName := ⟨RX8, "has", "(II)I"⟩
abbrev cX8_active : ByteArray := prog_10_method_61_code
def yX8_active : MethodName := ⟨RX8, "active", "(I)I"⟩
abbrev cX8_see : ByteArray := prog_10_method_62_code
def yX8_see : MethodName := ⟨RX8, "see", "(IZ)I"⟩
abbrev cX8_isSeen : ByteArray := prog_10_method_63_code
def yX8_isSeen : MethodName := ⟨RX8, "isSeen", "()Z"⟩
abbrev cX8_fits : ByteArray := prog_10_method_64_code
def yX8_fits : MethodName := ⟨RX8, "fits", "(II)I"⟩
abbrev cX8_lowest : ByteArray := prog_10_method_65_code
def yX8_lowest : MethodName := ⟨RX8, "lowest", "(JJI)J"⟩
abbrev cX8_odds : ByteArray := prog_10_method_66_code
def yX8_odds : MethodName := ⟨RX8, "odds", "(III)J"⟩
abbrev cX8_mean : ByteArray := prog_10_method_67_code
def yX8_mean : MethodName := ⟨RX8, "mean", "(I)J"⟩
abbrev cX8_mostOf : ByteArray := prog_10_method_68_code
def yX8_mostOf : MethodName := ⟨RX8, "mostOf", "(I)I"⟩
abbrev cX8_event : ByteArray := prog_10_method_69_code
def yX8_event : MethodName := ⟨RX8, "event", "(II)I"⟩
abbrev cX8_goesBy : ByteArray := prog_10_method_70_code
def yX8_goesBy : MethodName := ⟨RX8, "goesBy", "(II)V"⟩
abbrev cX8_happens : ByteArray := prog_10_method_71_code
def yX8_happens : MethodName := ⟨RX8, "happens", "(II)V"⟩
abbrev cX8_after : ByteArray := prog_10_method_72_code
def yX8_after : MethodName := ⟨RX8, "after", "(I)I"⟩
abbrev cX8_book : ByteArray := prog_10_method_73_code
def yX8_book : MethodName := ⟨RX8, "book", "(II)I"⟩
abbrev cX8_looked : ByteArray := prog_10_method_74_code
def yX8_looked : MethodName := ⟨RX8, "looked", "()I"⟩
abbrev cX8_judge : ByteArray := prog_10_method_75_code
def yX8_judge : MethodName := ⟨RX8, "judge", "(II)I"⟩
abbrev cX8_image : ByteArray := prog_10_method_76_code
def yX8_image : MethodName := ⟨RX8, "image", "()I"⟩
abbrev cX8_undo : ByteArray := prog_10_method_77_code
def yX8_undo : MethodName := ⟨RX8, "undo", "()I"⟩
abbrev cX8_count : ByteArray := prog_10_method_78_code
def yX8_count : MethodName := ⟨RX8, "count", "(I)I"⟩
abbrev cX8_isTape : ByteArray := prog_10_method_79_code
def yX8_isTape : MethodName := ⟨RX8, "isTape", "(I)Z"⟩
abbrev cX8_tape : ByteArray := prog_10_method_80_code
def yX8_tape : MethodName := ⟨RX8, "tape", "(III)I"⟩
abbrev cX8_narrowed : ByteArray := prog_10_method_81_code
def yX8_narrowed : MethodName := ⟨RX8, "narrowed", "(IJ)J"⟩
abbrev cX8_item : ByteArray := prog_10_method_82_code
def yX8_item : MethodName := ⟨RX8, "item", "(IIJ)I"⟩
abbrev cX8_peek : ByteArray := prog_10_method_83_code
def yX8_peek : MethodName := ⟨RX8, "peek", "(II)J"⟩
abbrev cX8_shift : ByteArray := prog_10_method_84_code
def yX8_shift : MethodName := ⟨RX8, "shift", "(IIIII)I"⟩
def RJ6 : String := "java/lang/Integer"
def TJ6 : u_T := fun k => match k with
  | _ => ("", "", "", false)
def tyJ6 : Nat → FieldType := fun k => match k with
  | _ => .int
abbrev wsJ60 : List Cond := u_ws RJ6 TJ6 0
theorem nmJ6 : ∀ a, a < 0 → ∀ b, b < 0 → a ≠ b → (TJ6 a).2.1 ≠ (TJ6 b).2.1 := by decide +kernel
theorem tyJ6_ok : ∀ k, k < 0 → parseFieldDescriptor (TJ6 k).2.2.1 = some (tyJ6 k) := by decide +kernel
abbrev cJ6_bitCount_0f7a4 : ByteArray := prog_11_method_49_code
def yJ6_bitCount_0f7a4 : MethodName := ⟨RJ6, "bitCount", "(I)I"⟩
def RJ9 : String := "java/lang/Math"
def TJ9 : u_T := fun k => match k with
  | _ => ("", "", "", false)
def tyJ9 : Nat → FieldType := fun k => match k with
  | _ => .int
abbrev wsJ90 : List Cond := u_ws RJ9 TJ9 0
theorem nmJ9 : ∀ a, a < 0 → ∀ b, b < 0 → a ≠ b → (TJ9 a).2.1 ≠ (TJ9 b).2.1 := by decide +kernel
theorem tyJ9_ok : ∀ k, k < 0 → parseFieldDescriptor (TJ9 k).2.2.1 = some (tyJ9 k) := by decide +kernel
abbrev cJ9_max_7cf53 : ByteArray := prog_12_method_65_code
def yJ9_max_7cf53 : MethodName := ⟨RJ9, "max", "(II)I"⟩
abbrev cJ9_min_7cf53 : ByteArray := prog_12_method_69_code
def yJ9_min_7cf53 : MethodName := ⟨RJ9, "min", "(II)I"⟩
def RJ0 : String := "java/lang/String"
def TJ0 : u_T := fun k => match k with
  | _ => ("", "", "", false)
def tyJ0 : Nat → FieldType := fun k => match k with
  | _ => .int
abbrev wsJ00 : List Cond := u_ws RJ0 TJ0 0
theorem nmJ0 : ∀ a, a < 0 → ∀ b, b < 0 → a ≠ b → (TJ0 a).2.1 ≠ (TJ0 b).2.1 := by decide +kernel
theorem tyJ0_ok : ∀ k, k < 0 → parseFieldDescriptor (TJ0 k).2.2.1 = some (tyJ0 k) := by decide +kernel
abbrev cJ0_charAt_5068e : ByteArray := prog_13_method_56_code
def yJ0_charAt_5068e : MethodName := ⟨RJ0, "charAt", "(I)C"⟩
abbrev cJ0_isLatin1_aae02 : ByteArray := prog_13_method_154_code
def yJ0_isLatin1_aae02 : MethodName := ⟨RJ0, "isLatin1", "()Z"⟩
abbrev cJ0_checkIndex_df160 : ByteArray := prog_13_method_155_code
def yJ0_checkIndex_df160 : MethodName := ⟨RJ0, "checkIndex", "(II)V"⟩
def RJ1 : String := "java/lang/StringLatin1"
def TJ1 : u_T := fun k => match k with
  | _ => ("", "", "", false)
def tyJ1 : Nat → FieldType := fun k => match k with
  | _ => .int
abbrev wsJ10 : List Cond := u_ws RJ1 TJ1 0
theorem nmJ1 : ∀ a, a < 0 → ∀ b, b < 0 → a ≠ b → (TJ1 a).2.1 ≠ (TJ1 b).2.1 := by decide +kernel
theorem tyJ1_ok : ∀ k, k < 0 → parseFieldDescriptor (TJ1 k).2.2.1 = some (tyJ1 k) := by decide +kernel
abbrev cJ1_charAt_3b067 : ByteArray := prog_14_method_2_code
def yJ1_charAt_3b067 : MethodName := ⟨RJ1, "charAt", "([BI)C"⟩
def RJ2 : String := "java/lang/StringUTF16"
def TJ2 : u_T := fun k => match k with
  | _ => ("", "", "", false)
def tyJ2 : Nat → FieldType := fun k => match k with
  | _ => .int
abbrev wsJ20 : List Cond := u_ws RJ2 TJ2 0
theorem nmJ2 : ∀ a, a < 0 → ∀ b, b < 0 → a ≠ b → (TJ2 a).2.1 ≠ (TJ2 b).2.1 := by decide +kernel
theorem tyJ2_ok : ∀ k, k < 0 → parseFieldDescriptor (TJ2 k).2.2.1 = some (tyJ2 k) := by decide +kernel
abbrev cJ2_getChar_3b067 : ByteArray := prog_15_method_5_code
def yJ2_getChar_3b067 : MethodName := ⟨RJ2, "getChar", "([BI)C"⟩
abbrev cJ2_length_9d52b : ByteArray := prog_15_method_6_code
def yJ2_length_9d52b : MethodName := ⟨RJ2, "length", "([B)I"⟩
abbrev cJ2_charAt_3b067 : ByteArray := prog_15_method_83_code
def yJ2_charAt_3b067 : MethodName := ⟨RJ2, "charAt", "([BI)C"⟩
abbrev cJ2_checkIndex_2214a : ByteArray := prog_15_method_91_code
def yJ2_checkIndex_2214a : MethodName := ⟨RJ2, "checkIndex", "(I[B)V"⟩
def RJ10 : String := "java/lang/System"
def TJ10 : u_T := fun k => match k with
  | _ => ("", "", "", false)
def tyJ10 : Nat → FieldType := fun k => match k with
  | _ => .int
theorem nmJ10 : ∀ a, a < 0 → ∀ b, b < 0 → a ≠ b → (TJ10 a).2.1 ≠ (TJ10 b).2.1 := by decide +kernel
def RJ3 : String := "jdk/internal/util/Preconditions"
def TJ3 : u_T := fun k => match k with
  | _ => ("", "", "", false)
def tyJ3 : Nat → FieldType := fun k => match k with
  | _ => .int
abbrev wsJ30 : List Cond := u_ws RJ3 TJ3 0
theorem nmJ3 : ∀ a, a < 0 → ∀ b, b < 0 → a ≠ b → (TJ3 a).2.1 ≠ (TJ3 b).2.1 := by decide +kernel
theorem tyJ3_ok : ∀ k, k < 0 → parseFieldDescriptor (TJ3 k).2.2.1 = some (tyJ3 k) := by decide +kernel
abbrev cJ3_checkIndex_8e157 : ByteArray := prog_17_method_11_code
def yJ3_checkIndex_8e157 : MethodName := ⟨RJ3, "checkIndex", "(IILjava/util/function/BiFunction;)I"⟩
def RL : String := "ShapeMovesLaw"
abbrev cL_law : ByteArray := code
abbrev vwCl : List vw_C := [(RX0, TX0, 13), (RX2, TX2, 3), (RX3, TX3, 4), (RX4, TX4, 3), (RX5, TX5, 3), (RX6, TX6, 5), (RX7, TX7, 9), (RX8, TX8, 22)]
theorem inX0 : ∀ w ∈ wsX00, w ∈ lw_tbl := by decide +kernel
theorem inX2 : ∀ w ∈ wsX20, w ∈ lw_tbl := by decide +kernel
theorem inX3 : ∀ w ∈ wsX30, w ∈ lw_tbl := by decide +kernel
theorem inX4 : ∀ w ∈ wsX40, w ∈ lw_tbl := by decide +kernel
theorem inX5 : ∀ w ∈ wsX50, w ∈ lw_tbl := by decide +kernel
theorem inX6 : ∀ w ∈ wsX60, w ∈ lw_tbl := by decide +kernel
theorem inX7 : ∀ w ∈ wsX70, w ∈ lw_tbl := by decide +kernel
theorem inX8 : ∀ w ∈ wsX80, w ∈ lw_tbl := by decide +kernel
