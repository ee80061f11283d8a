-- ===== PART A: goes FIRST, ahead of the names: the tables' words, and 'selects' of the private methods out of them =====
/-- a private method of a class that the tables say can be made, by its rows of tables_1 -/
def lw_okq (q : MethodName × Nat) : Prop := (q.1.cls ≠ "java/lang/invoke/MethodHandle" ∧ q.1.cls ≠ "java/lang/invoke/VarHandle") ∧ Cond.instantiable q.1.cls q.2 ∈ tables_1 ∧ Cond.privateMethod q.1 ∈ tables_1 ∧ Cond.instanceMethod q.1 ∈ tables_1
theorem lw_p0 : lw_okq (⟨"RopeDance$Script", "endOfItem", "(I)I"⟩, 6) := ⟨⟨by decide +kernel, by decide +kernel⟩, List.mem_of_getElem? (i := 22) (by decide +kernel), List.mem_of_getElem? (i := 206) (by decide +kernel), List.mem_of_getElem? (i := 207) (by decide +kernel)⟩
theorem lw_p1 : lw_okq (⟨"RopeDance$Script", "letterAt", "(I)I"⟩, 6) := ⟨⟨by decide +kernel, by decide +kernel⟩, List.mem_of_getElem? (i := 22) (by decide +kernel), List.mem_of_getElem? (i := 210) (by decide +kernel), List.mem_of_getElem? (i := 211) (by decide +kernel)⟩
theorem lw_p2 : lw_okq (⟨"RopeDance$Script", "endOfPair", "(II)I"⟩, 6) := ⟨⟨by decide +kernel, by decide +kernel⟩, List.mem_of_getElem? (i := 22) (by decide +kernel), List.mem_of_getElem? (i := 214) (by decide +kernel), List.mem_of_getElem? (i := 215) (by decide +kernel)⟩
theorem lw_p3 : lw_okq (⟨"RopeDance$Script", "isNumber", "(II)Z"⟩, 6) := ⟨⟨by decide +kernel, by decide +kernel⟩, List.mem_of_getElem? (i := 22) (by decide +kernel), List.mem_of_getElem? (i := 218) (by decide +kernel), List.mem_of_getElem? (i := 219) (by decide +kernel)⟩
theorem lw_p4 : lw_okq (⟨"RopeDance$Script", "readItems", "()V"⟩, 6) := ⟨⟨by decide +kernel, by decide +kernel⟩, List.mem_of_getElem? (i := 22) (by decide +kernel), List.mem_of_getElem? (i := 222) (by decide +kernel), List.mem_of_getElem? (i := 223) (by decide +kernel)⟩
theorem lw_p5 : lw_okq (⟨"RopeDance$Script", "readItem", "(I)V"⟩, 6) := ⟨⟨by decide +kernel, by decide +kernel⟩, List.mem_of_getElem? (i := 22) (by decide +kernel), List.mem_of_getElem? (i := 226) (by decide +kernel), List.mem_of_getElem? (i := 227) (by decide +kernel)⟩
theorem lw_p6 : lw_okq (⟨"RopeDance$Script", "areApart", "()Z"⟩, 6) := ⟨⟨by decide +kernel, by decide +kernel⟩, List.mem_of_getElem? (i := 22) (by decide +kernel), List.mem_of_getElem? (i := 233) (by decide +kernel), List.mem_of_getElem? (i := 234) (by decide +kernel)⟩
theorem lw_p7 : lw_okq (⟨"RopeDance", "takeScript", "()V"⟩, 14) := ⟨⟨by decide +kernel, by decide +kernel⟩, List.mem_of_getElem? (i := 14) (by decide +kernel), List.mem_of_getElem? (i := 246) (by decide +kernel), List.mem_of_getElem? (i := 247) (by decide +kernel)⟩
theorem lw_p8 : lw_okq (⟨"RopeDance$Stand", "turnAll", "()V"⟩, 6) := ⟨⟨by decide +kernel, by decide +kernel⟩, List.mem_of_getElem? (i := 52) (by decide +kernel), List.mem_of_getElem? (i := 398) (by decide +kernel), List.mem_of_getElem? (i := 399) (by decide +kernel)⟩
theorem lw_p9 : lw_okq (⟨"RopeDance$Stand", "swapPlaces", "(II)V"⟩, 6) := ⟨⟨by decide +kernel, by decide +kernel⟩, List.mem_of_getElem? (i := 52) (by decide +kernel), List.mem_of_getElem? (i := 402) (by decide +kernel), List.mem_of_getElem? (i := 403) (by decide +kernel)⟩
theorem lw_p10 : lw_okq (⟨"RopeDance", "figureOfFewest", "(I)I"⟩, 14) := ⟨⟨by decide +kernel, by decide +kernel⟩, List.mem_of_getElem? (i := 14) (by decide +kernel), List.mem_of_getElem? (i := 437) (by decide +kernel), List.mem_of_getElem? (i := 438) (by decide +kernel)⟩
theorem lw_p11 : lw_okq (⟨"RopeDance$Search", "isAtGoal", "(I)Z"⟩, 9) := ⟨⟨by decide +kernel, by decide +kernel⟩, List.mem_of_getElem? (i := 107) (by decide +kernel), List.mem_of_getElem? (i := 449) (by decide +kernel), List.mem_of_getElem? (i := 450) (by decide +kernel)⟩
theorem lw_p12 : lw_okq (⟨"RopeDance$Search", "goOn", "(II)Z"⟩, 9) := ⟨⟨by decide +kernel, by decide +kernel⟩, List.mem_of_getElem? (i := 107) (by decide +kernel), List.mem_of_getElem? (i := 458) (by decide +kernel), List.mem_of_getElem? (i := 459) (by decide +kernel)⟩
theorem lw_p13 : lw_okq (⟨"RopeDance", "tryRow", "(II)Z"⟩, 14) := ⟨⟨by decide +kernel, by decide +kernel⟩, List.mem_of_getElem? (i := 14) (by decide +kernel), List.mem_of_getElem? (i := 504) (by decide +kernel), List.mem_of_getElem? (i := 505) (by decide +kernel)⟩
theorem lw_p14 : lw_okq (⟨"RopeDance", "possibleKinds", "(I)I"⟩, 14) := ⟨⟨by decide +kernel, by decide +kernel⟩, List.mem_of_getElem? (i := 14) (by decide +kernel), List.mem_of_getElem? (i := 529) (by decide +kernel), List.mem_of_getElem? (i := 530) (by decide +kernel)⟩
theorem lw_p15 : lw_okq (⟨"RopeDance", "explainsSeen", "(I)Z"⟩, 14) := ⟨⟨by decide +kernel, by decide +kernel⟩, List.mem_of_getElem? (i := 14) (by decide +kernel), List.mem_of_getElem? (i := 534) (by decide +kernel), List.mem_of_getElem? (i := 535) (by decide +kernel)⟩
def lw_privs_1 : List (MethodName × Nat) := [(⟨"RopeDance$Script", "endOfItem", "(I)I"⟩, 6), (⟨"RopeDance$Script", "letterAt", "(I)I"⟩, 6), (⟨"RopeDance$Script", "endOfPair", "(II)I"⟩, 6), (⟨"RopeDance$Script", "isNumber", "(II)Z"⟩, 6), (⟨"RopeDance$Script", "readItems", "()V"⟩, 6), (⟨"RopeDance$Script", "readItem", "(I)V"⟩, 6), (⟨"RopeDance$Script", "areApart", "()Z"⟩, 6), (⟨"RopeDance", "takeScript", "()V"⟩, 14), (⟨"RopeDance$Stand", "turnAll", "()V"⟩, 6), (⟨"RopeDance$Stand", "swapPlaces", "(II)V"⟩, 6), (⟨"RopeDance", "figureOfFewest", "(I)I"⟩, 14), (⟨"RopeDance$Search", "isAtGoal", "(I)Z"⟩, 9), (⟨"RopeDance$Search", "goOn", "(II)Z"⟩, 9), (⟨"RopeDance", "tryRow", "(II)Z"⟩, 14), (⟨"RopeDance", "possibleKinds", "(I)I"⟩, 14), (⟨"RopeDance", "explainsSeen", "(I)Z"⟩, 14)]
theorem lw_r1 : ∀ q ∈ lw_privs_1, lw_okq q := List.forall_mem_cons.mpr ⟨lw_p0, List.forall_mem_cons.mpr ⟨lw_p1, List.forall_mem_cons.mpr ⟨lw_p2, List.forall_mem_cons.mpr ⟨lw_p3, List.forall_mem_cons.mpr ⟨lw_p4, List.forall_mem_cons.mpr ⟨lw_p5, List.forall_mem_cons.mpr ⟨lw_p6, List.forall_mem_cons.mpr ⟨lw_p7, List.forall_mem_cons.mpr ⟨lw_p8, List.forall_mem_cons.mpr ⟨lw_p9, List.forall_mem_cons.mpr ⟨lw_p10, List.forall_mem_cons.mpr ⟨lw_p11, List.forall_mem_cons.mpr ⟨lw_p12, List.forall_mem_cons.mpr ⟨lw_p13, List.forall_mem_cons.mpr ⟨lw_p14, List.forall_mem_cons.mpr ⟨lw_p15, fun _ h => absurd h List.not_mem_nil⟩⟩⟩⟩⟩⟩⟩⟩⟩⟩⟩⟩⟩⟩⟩⟩
theorem lw_p16 : lw_okq (⟨"RopeDance", "greatestPart", "(III)I"⟩, 14) := ⟨⟨by decide +kernel, by decide +kernel⟩, List.mem_of_getElem? (i := 14) (by decide +kernel), List.mem_of_getElem? (i := 544) (by decide +kernel), List.mem_of_getElem? (i := 545) (by decide +kernel)⟩
theorem lw_p17 : lw_okq (⟨"RopeDance", "partOf", "(I)I"⟩, 14) := ⟨⟨by decide +kernel, by decide +kernel⟩, List.mem_of_getElem? (i := 14) (by decide +kernel), List.mem_of_getElem? (i := 554) (by decide +kernel), List.mem_of_getElem? (i := 555) (by decide +kernel)⟩
theorem lw_p18 : lw_okq (⟨"RopeDance$Search", "greaterPart", "(I)I"⟩, 9) := ⟨⟨by decide +kernel, by decide +kernel⟩, List.mem_of_getElem? (i := 107) (by decide +kernel), List.mem_of_getElem? (i := 570) (by decide +kernel), List.mem_of_getElem? (i := 571) (by decide +kernel)⟩
theorem lw_p19 : lw_okq (⟨"RopeDanceModel", "begin", "()V"⟩, 25) := ⟨⟨by decide +kernel, by decide +kernel⟩, List.mem_of_getElem? (i := 616) (by decide +kernel), List.mem_of_getElem? (i := 622) (by decide +kernel), List.mem_of_getElem? (i := 623) (by decide +kernel)⟩
theorem lw_p20 : lw_okq (⟨"RopeDanceModel", "readItem", "(I)I"⟩, 25) := ⟨⟨by decide +kernel, by decide +kernel⟩, List.mem_of_getElem? (i := 616) (by decide +kernel), List.mem_of_getElem? (i := 719) (by decide +kernel), List.mem_of_getElem? (i := 720) (by decide +kernel)⟩
theorem lw_p21 : lw_okq (⟨"RopeDanceModel", "letter", "(I)I"⟩, 25) := ⟨⟨by decide +kernel, by decide +kernel⟩, List.mem_of_getElem? (i := 616) (by decide +kernel), List.mem_of_getElem? (i := 723) (by decide +kernel), List.mem_of_getElem? (i := 724) (by decide +kernel)⟩
theorem lw_p22 : lw_okq (⟨"RopeDanceModel", "figureAt", "(II)I"⟩, 25) := ⟨⟨by decide +kernel, by decide +kernel⟩, List.mem_of_getElem? (i := 616) (by decide +kernel), List.mem_of_getElem? (i := 727) (by decide +kernel), List.mem_of_getElem? (i := 728) (by decide +kernel)⟩
theorem lw_p23 : lw_okq (⟨"RopeDanceModel", "placeOf", "(I)I"⟩, 25) := ⟨⟨by decide +kernel, by decide +kernel⟩, List.mem_of_getElem? (i := 616) (by decide +kernel), List.mem_of_getElem? (i := 745) (by decide +kernel), List.mem_of_getElem? (i := 746) (by decide +kernel)⟩
theorem lw_p24 : lw_okq (⟨"RopeDanceModel", "putAside", "()V"⟩, 25) := ⟨⟨by decide +kernel, by decide +kernel⟩, List.mem_of_getElem? (i := 616) (by decide +kernel), List.mem_of_getElem? (i := 770) (by decide +kernel), List.mem_of_getElem? (i := 771) (by decide +kernel)⟩
theorem lw_p25 : lw_okq (⟨"RopeDanceModel", "dances", "(I)Z"⟩, 25) := ⟨⟨by decide +kernel, by decide +kernel⟩, List.mem_of_getElem? (i := 616) (by decide +kernel), List.mem_of_getElem? (i := 774) (by decide +kernel), List.mem_of_getElem? (i := 775) (by decide +kernel)⟩
theorem lw_p26 : lw_okq (⟨"RopeDanceModel", "turns", "()Z"⟩, 25) := ⟨⟨by decide +kernel, by decide +kernel⟩, List.mem_of_getElem? (i := 616) (by decide +kernel), List.mem_of_getElem? (i := 778) (by decide +kernel), List.mem_of_getElem? (i := 779) (by decide +kernel)⟩
theorem lw_p27 : lw_okq (⟨"RopeDanceModel", "winds", "(I)Z"⟩, 25) := ⟨⟨by decide +kernel, by decide +kernel⟩, List.mem_of_getElem? (i := 616) (by decide +kernel), List.mem_of_getElem? (i := 785) (by decide +kernel), List.mem_of_getElem? (i := 786) (by decide +kernel)⟩
theorem lw_p28 : lw_okq (⟨"RopeDanceModel", "windsBy", "(I)I"⟩, 25) := ⟨⟨by decide +kernel, by decide +kernel⟩, List.mem_of_getElem? (i := 616) (by decide +kernel), List.mem_of_getElem? (i := 789) (by decide +kernel), List.mem_of_getElem? (i := 790) (by decide +kernel)⟩
theorem lw_p29 : lw_okq (⟨"RopeDanceModel", "changePlaces", "(II)V"⟩, 25) := ⟨⟨by decide +kernel, by decide +kernel⟩, List.mem_of_getElem? (i := 616) (by decide +kernel), List.mem_of_getElem? (i := 793) (by decide +kernel), List.mem_of_getElem? (i := 794) (by decide +kernel)⟩
theorem lw_p30 : lw_okq (⟨"RopeDanceModel", "takeBack", "()V"⟩, 25) := ⟨⟨by decide +kernel, by decide +kernel⟩, List.mem_of_getElem? (i := 616) (by decide +kernel), List.mem_of_getElem? (i := 797) (by decide +kernel), List.mem_of_getElem? (i := 798) (by decide +kernel)⟩
theorem lw_p31 : lw_okq (⟨"RopeDanceModel", "note", "()V"⟩, 25) := ⟨⟨by decide +kernel, by decide +kernel⟩, List.mem_of_getElem? (i := 616) (by decide +kernel), List.mem_of_getElem? (i := 801) (by decide +kernel), List.mem_of_getElem? (i := 802) (by decide +kernel)⟩
def lw_privs_2 : List (MethodName × Nat) := [(⟨"RopeDance", "greatestPart", "(III)I"⟩, 14), (⟨"RopeDance", "partOf", "(I)I"⟩, 14), (⟨"RopeDance$Search", "greaterPart", "(I)I"⟩, 9), (⟨"RopeDanceModel", "begin", "()V"⟩, 25), (⟨"RopeDanceModel", "readItem", "(I)I"⟩, 25), (⟨"RopeDanceModel", "letter", "(I)I"⟩, 25), (⟨"RopeDanceModel", "figureAt", "(II)I"⟩, 25), (⟨"RopeDanceModel", "placeOf", "(I)I"⟩, 25), (⟨"RopeDanceModel", "putAside", "()V"⟩, 25), (⟨"RopeDanceModel", "dances", "(I)Z"⟩, 25), (⟨"RopeDanceModel", "turns", "()Z"⟩, 25), (⟨"RopeDanceModel", "winds", "(I)Z"⟩, 25), (⟨"RopeDanceModel", "windsBy", "(I)I"⟩, 25), (⟨"RopeDanceModel", "changePlaces", "(II)V"⟩, 25), (⟨"RopeDanceModel", "takeBack", "()V"⟩, 25), (⟨"RopeDanceModel", "note", "()V"⟩, 25)]
theorem lw_r2 : ∀ q ∈ lw_privs_2, lw_okq q := List.forall_mem_cons.mpr ⟨lw_p16, List.forall_mem_cons.mpr ⟨lw_p17, List.forall_mem_cons.mpr ⟨lw_p18, List.forall_mem_cons.mpr ⟨lw_p19, List.forall_mem_cons.mpr ⟨lw_p20, List.forall_mem_cons.mpr ⟨lw_p21, List.forall_mem_cons.mpr ⟨lw_p22, List.forall_mem_cons.mpr ⟨lw_p23, List.forall_mem_cons.mpr ⟨lw_p24, List.forall_mem_cons.mpr ⟨lw_p25, List.forall_mem_cons.mpr ⟨lw_p26, List.forall_mem_cons.mpr ⟨lw_p27, List.forall_mem_cons.mpr ⟨lw_p28, List.forall_mem_cons.mpr ⟨lw_p29, List.forall_mem_cons.mpr ⟨lw_p30, List.forall_mem_cons.mpr ⟨lw_p31, fun _ h => absurd h List.not_mem_nil⟩⟩⟩⟩⟩⟩⟩⟩⟩⟩⟩⟩⟩⟩⟩⟩
theorem lw_p32 : lw_okq (⟨"RopeDanceModel", "putThem", "(II)V"⟩, 25) := ⟨⟨by decide +kernel, by decide +kernel⟩, List.mem_of_getElem? (i := 616) (by decide +kernel), List.mem_of_getElem? (i := 809) (by decide +kernel), List.mem_of_getElem? (i := 810) (by decide +kernel)⟩
theorem lw_p33 : lw_okq (⟨"RopeDanceModel", "search", "(IIII)V"⟩, 25) := ⟨⟨by decide +kernel, by decide +kernel⟩, List.mem_of_getElem? (i := 616) (by decide +kernel), List.mem_of_getElem? (i := 826) (by decide +kernel), List.mem_of_getElem? (i := 827) (by decide +kernel)⟩
theorem lw_p34 : lw_okq (⟨"RopeDanceModel", "dancesRow", "(II)Z"⟩, 25) := ⟨⟨by decide +kernel, by decide +kernel⟩, List.mem_of_getElem? (i := 616) (by decide +kernel), List.mem_of_getElem? (i := 833) (by decide +kernel), List.mem_of_getElem? (i := 834) (by decide +kernel)⟩
theorem lw_p35 : lw_okq (⟨"RopeDanceModel", "isWound", "(II)Z"⟩, 25) := ⟨⟨by decide +kernel, by decide +kernel⟩, List.mem_of_getElem? (i := 616) (by decide +kernel), List.mem_of_getElem? (i := 837) (by decide +kernel), List.mem_of_getElem? (i := 838) (by decide +kernel)⟩
theorem lw_p36 : lw_okq (⟨"RopeDanceModel", "areBeside", "(II)Z"⟩, 25) := ⟨⟨by decide +kernel, by decide +kernel⟩, List.mem_of_getElem? (i := 616) (by decide +kernel), List.mem_of_getElem? (i := 841) (by decide +kernel), List.mem_of_getElem? (i := 842) (by decide +kernel)⟩
theorem lw_p37 : lw_okq (⟨"RopeDanceModel", "tells", "(I)I"⟩, 25) := ⟨⟨by decide +kernel, by decide +kernel⟩, List.mem_of_getElem? (i := 616) (by decide +kernel), List.mem_of_getElem? (i := 845) (by decide +kernel), List.mem_of_getElem? (i := 846) (by decide +kernel)⟩
theorem lw_p38 : lw_okq (⟨"RopeDanceModel", "dancesOn", "(I)I"⟩, 25) := ⟨⟨by decide +kernel, by decide +kernel⟩, List.mem_of_getElem? (i := 616) (by decide +kernel), List.mem_of_getElem? (i := 878) (by decide +kernel), List.mem_of_getElem? (i := 879) (by decide +kernel)⟩
theorem lw_p39 : lw_okq (⟨"RopeDanceModel", "dancesFirst", "(I)Z"⟩, 25) := ⟨⟨by decide +kernel, by decide +kernel⟩, List.mem_of_getElem? (i := 616) (by decide +kernel), List.mem_of_getElem? (i := 887) (by decide +kernel), List.mem_of_getElem? (i := 888) (by decide +kernel)⟩
theorem lw_p40 : lw_okq (⟨"RopeDanceModel", "kindSet", "(I)I"⟩, 25) := ⟨⟨by decide +kernel, by decide +kernel⟩, List.mem_of_getElem? (i := 616) (by decide +kernel), List.mem_of_getElem? (i := 904) (by decide +kernel), List.mem_of_getElem? (i := 905) (by decide +kernel)⟩
theorem lw_p41 : lw_okq (⟨"RopeDanceModel", "isAsSeen", "()Z"⟩, 25) := ⟨⟨by decide +kernel, by decide +kernel⟩, List.mem_of_getElem? (i := 616) (by decide +kernel), List.mem_of_getElem? (i := 908) (by decide +kernel), List.mem_of_getElem? (i := 909) (by decide +kernel)⟩
theorem lw_p42 : lw_okq (⟨"RopeDanceModel", "partBy", "(III)I"⟩, 25) := ⟨⟨by decide +kernel, by decide +kernel⟩, List.mem_of_getElem? (i := 616) (by decide +kernel), List.mem_of_getElem? (i := 916) (by decide +kernel), List.mem_of_getElem? (i := 917) (by decide +kernel)⟩
theorem lw_p43 : lw_okq (⟨"RopeDanceModel", "greater", "()I"⟩, 25) := ⟨⟨by decide +kernel, by decide +kernel⟩, List.mem_of_getElem? (i := 616) (by decide +kernel), List.mem_of_getElem? (i := 929) (by decide +kernel), List.mem_of_getElem? (i := 930) (by decide +kernel)⟩
theorem lw_p44 : lw_okq (⟨"RopeDanceModel", "better", "(IIZ)I"⟩, 25) := ⟨⟨by decide +kernel, by decide +kernel⟩, List.mem_of_getElem? (i := 616) (by decide +kernel), List.mem_of_getElem? (i := 933) (by decide +kernel), List.mem_of_getElem? (i := 934) (by decide +kernel)⟩
def lw_privs_3 : List (MethodName × Nat) := [(⟨"RopeDanceModel", "putThem", "(II)V"⟩, 25), (⟨"RopeDanceModel", "search", "(IIII)V"⟩, 25), (⟨"RopeDanceModel", "dancesRow", "(II)Z"⟩, 25), (⟨"RopeDanceModel", "isWound", "(II)Z"⟩, 25), (⟨"RopeDanceModel", "areBeside", "(II)Z"⟩, 25), (⟨"RopeDanceModel", "tells", "(I)I"⟩, 25), (⟨"RopeDanceModel", "dancesOn", "(I)I"⟩, 25), (⟨"RopeDanceModel", "dancesFirst", "(I)Z"⟩, 25), (⟨"RopeDanceModel", "kindSet", "(I)I"⟩, 25), (⟨"RopeDanceModel", "isAsSeen", "()Z"⟩, 25), (⟨"RopeDanceModel", "partBy", "(III)I"⟩, 25), (⟨"RopeDanceModel", "greater", "()I"⟩, 25), (⟨"RopeDanceModel", "better", "(IIZ)I"⟩, 25)]
theorem lw_r3 : ∀ q ∈ lw_privs_3, lw_okq q := List.forall_mem_cons.mpr ⟨lw_p32, List.forall_mem_cons.mpr ⟨lw_p33, List.forall_mem_cons.mpr ⟨lw_p34, List.forall_mem_cons.mpr ⟨lw_p35, List.forall_mem_cons.mpr ⟨lw_p36, List.forall_mem_cons.mpr ⟨lw_p37, List.forall_mem_cons.mpr ⟨lw_p38, List.forall_mem_cons.mpr ⟨lw_p39, List.forall_mem_cons.mpr ⟨lw_p40, List.forall_mem_cons.mpr ⟨lw_p41, List.forall_mem_cons.mpr ⟨lw_p42, List.forall_mem_cons.mpr ⟨lw_p43, List.forall_mem_cons.mpr ⟨lw_p44, fun _ h => absurd h List.not_mem_nil⟩⟩⟩⟩⟩⟩⟩⟩⟩⟩⟩⟩⟩
def lw_privs : List (MethodName × Nat) := lw_privs_1 ++ (lw_privs_2 ++ (lw_privs_3))
def lw_tbl : List Cond := k2_sels lw_privs ++ tables_1
theorem lw_privs_ok : ∀ q ∈ lw_privs, lw_okq q := by
  show ∀ q ∈ lw_privs_1 ++ (lw_privs_2 ++ (lw_privs_3)), lw_okq q
  exact List.forall_mem_append.mpr ⟨lw_r1, List.forall_mem_append.mpr ⟨lw_r2, lw_r3⟩⟩
def RX0 : String := "RopeDance$Pile"
def TX0 : u_T := fun k => match k with
  | 0 => ("RopeDance$Pile", "stands", "[LRopeDance$Stand;", true)
  | 1 => ("RopeDance$Pile", "next", "I", false)
  | _ => ("RopeDance$Pile", "size", "I", false)
def tyX0 : Nat → FieldType := fun k => match k with
  | 0 => .array (.object "RopeDance$Stand")
  | 1 => .int
  | _ => .int
abbrev wsX00 : List Cond := u_ws RX0 TX0 3
theorem nmX0 : ∀ a, a < 3 → ∀ b, b < 3 → a ≠ b → (TX0 a).2.1 ≠ (TX0 b).2.1 := by decide +kernel
theorem tyX0_ok : ∀ k, k < 3 → parseFieldDescriptor (TX0 k).2.2.1 = some (tyX0 k) := by decide +kernel
abbrev cX0_init : ByteArray := prog_2_method_1_code
def yX0_init : MethodName := ⟨RX0, "<init>", "(I)V"⟩
abbrev cX0_isFull : ByteArray := prog_2_method_2_code
def yX0_isFull : MethodName := ⟨RX0, "isFull", "()Z"⟩
abbrev cX0_push : ByteArray := prog_2_method_3_code
def yX0_push : MethodName := ⟨RX0, "push", "(LRopeDance$Stand;)V"⟩
abbrev cX0_pop : ByteArray := prog_2_method_4_code
def yX0_pop : MethodName := ⟨RX0, "pop", "(LRopeDance$Stand;)Z"⟩
abbrev cX0_clear : ByteArray := prog_2_method_5_code
def yX0_clear : MethodName := ⟨RX0, "clear", "()V"⟩
def RX1 : String := "RopeDance$Script"
def TX1 : u_T := fun k => match k with
  | 0 => ("RopeDance$Script", "letters", "[B", true)
  | 1 => ("RopeDance$Script", "length", "I", false)
  | 2 => ("RopeDance$Script", "kindBits", "I", false)
  | 3 => ("RopeDance$Script", "figureBits", "I", false)
  | 4 => ("RopeDance$Script", "figureCount", "I", false)
  | _ => ("RopeDance$Script", "placeBits", "I", false)
def tyX1 : Nat → FieldType := fun k => match k with
  | 0 => .array .byte
  | 1 => .int
  | 2 => .int
  | 3 => .int
  | 4 => .int
  | _ => .int
abbrev wsX10 : List Cond := u_ws RX1 TX1 6
theorem nmX1 : ∀ a, a < 6 → ∀ b, b < 6 → a ≠ b → (TX1 a).2.1 ≠ (TX1 b).2.1 := by decide +kernel
theorem tyX1_ok : ∀ k, k < 6 → parseFieldDescriptor (TX1 k).2.2.1 = some (tyX1 k) := by decide +kernel
abbrev cX1_init : ByteArray := prog_3_method_1_code
def yX1_init : MethodName := ⟨RX1, "<init>", "()V"⟩
abbrev cX1_add : ByteArray := prog_3_method_2_code
def yX1_add : MethodName := ⟨RX1, "add", "(I)Z"⟩
abbrev cX1_clear : ByteArray := prog_3_method_3_code
def yX1_clear : MethodName := ⟨RX1, "clear", "()V"⟩
abbrev cX1_firstFault : ByteArray := prog_3_method_4_code
def yX1_firstFault : MethodName := ⟨RX1, "firstFault", "()I"⟩
abbrev cX1_tellsDance : ByteArray := prog_3_method_5_code
def yX1_tellsDance : MethodName := ⟨RX1, "tellsDance", "()Z"⟩
abbrev cX1_orderBits : ByteArray := prog_3_method_6_code
def yX1_orderBits : MethodName := ⟨RX1, "orderBits", "()I"⟩
abbrev cX1_areApart : ByteArray := prog_3_method_7_code
def yX1_areApart : MethodName := ⟨RX1, "areApart", "()Z"⟩
abbrev cX1_readItems : ByteArray := prog_3_method_8_code
def yX1_readItems : MethodName := ⟨RX1, "readItems", "()V"⟩
abbrev cX1_readItem : ByteArray := prog_3_method_9_code
def yX1_readItem : MethodName := ⟨RX1, "readItem", "(I)V"⟩
abbrev cX1_endOfItem : ByteArray := prog_3_method_10_code
def yX1_endOfItem : MethodName := ⟨RX1, "endOfItem", "(I)I"⟩
abbrev cX1_endOfPair : ByteArray := prog_3_method_11_code
def yX1_endOfPair : MethodName := ⟨RX1, "endOfPair", "(II)I"⟩
abbrev cX1_isNumber : ByteArray := prog_3_method_12_code
def yX1_isNumber : MethodName := ⟨RX1, "isNumber", "(II)Z"⟩
abbrev cX1_letterAt : ByteArray := prog_3_method_13_code
def yX1_letterAt : MethodName := ⟨RX1, "letterAt", "(I)I"⟩
def RX2 : String := "RopeDance$Search"
def TX2 : u_T := fun k => match k with
  | 0 => ("RopeDance$Search", "levels", "[LRopeDance$Stand;", true)
  | 1 => ("RopeDance$Search", "kindBits", "I", false)
  | 2 => ("RopeDance$Search", "forMeeting", "Z", false)
  | 3 => ("RopeDance$Search", "goalU", "I", false)
  | 4 => ("RopeDance$Search", "goalL", "I", false)
  | 5 => ("RopeDance$Search", "oneDancer", "I", false)
  | 6 => ("RopeDance$Search", "otherDancer", "I", false)
  | 7 => ("RopeDance$Search", "fewest", "I", false)
  | _ => ("RopeDance$Search", "fewestRow", "I", false)
def tyX2 : Nat → FieldType := fun k => match k with
  | 0 => .array (.object "RopeDance$Stand")
  | 1 => .int
  | 2 => .boolean
  | 3 => .int
  | 4 => .int
  | 5 => .int
  | 6 => .int
  | 7 => .int
  | _ => .int
abbrev wsX20 : List Cond := u_ws RX2 TX2 9
theorem nmX2 : ∀ a, a < 9 → ∀ b, b < 9 → a ≠ b → (TX2 a).2.1 ≠ (TX2 b).2.1 := by decide +kernel
theorem tyX2_ok : ∀ k, k < 9 → parseFieldDescriptor (TX2 k).2.2.1 = some (tyX2 k) := by decide +kernel
abbrev cX2_init : ByteArray := prog_4_method_1_code
def yX2_init : MethodName := ⟨RX2, "<init>", "()V"⟩
abbrev cX2_aimAtWound : ByteArray := prog_4_method_2_code
def yX2_aimAtWound : MethodName := ⟨RX2, "aimAtWound", "(II)V"⟩
abbrev cX2_aimAtMeeting : ByteArray := prog_4_method_3_code
def yX2_aimAtMeeting : MethodName := ⟨RX2, "aimAtMeeting", "(II)V"⟩
abbrev cX2_startFrom : ByteArray := prog_4_method_4_code
def yX2_startFrom : MethodName := ⟨RX2, "startFrom", "(LRopeDance$Stand;I)V"⟩
abbrev cX2_isFound : ByteArray := prog_4_method_5_code
def yX2_isFound : MethodName := ⟨RX2, "isFound", "()Z"⟩
abbrev cX2_isAtGoal : ByteArray := prog_4_method_6_code
def yX2_isAtGoal : MethodName := ⟨RX2, "isAtGoal", "(I)Z"⟩
abbrev cX2_goOn : ByteArray := prog_4_method_7_code
def yX2_goOn : MethodName := ⟨RX2, "goOn", "(II)Z"⟩
abbrev cX2_greaterPart : ByteArray := prog_4_method_8_code
def yX2_greaterPart : MethodName := ⟨RX2, "greaterPart", "(I)I"⟩
abbrev cX2_seek : ByteArray := prog_4_method_9_code
def yX2_seek : MethodName := ⟨RX2, "seek", "(LRopeDance$Search;II)V"⟩
abbrev cX2_rowsFrom : ByteArray := prog_4_method_10_code
def yX2_rowsFrom : MethodName := ⟨RX2, "rowsFrom", "(LRopeDance$Search;II)I"⟩
abbrev cX2_bestFrom : ByteArray := prog_4_method_11_code
def yX2_bestFrom : MethodName := ⟨RX2, "bestFrom", "(LRopeDance$Search;II)I"⟩
abbrev cX2_better : ByteArray := prog_4_method_12_code
def yX2_better : MethodName := ⟨RX2, "better", "(ZII)I"⟩
abbrev cX2_chanceFrom : ByteArray := prog_4_method_13_code
def yX2_chanceFrom : MethodName := ⟨RX2, "chanceFrom", "(LRopeDance$Search;IIII)I"⟩
def RX3 : String := "RopeDance$Stand"
def TX3 : u_T := fun k => match k with
  | 0 => ("RopeDance$Stand", "order", "I", false)
  | 1 => ("RopeDance$Stand", "ropes", "I", false)
  | 2 => ("RopeDance$Stand", "u", "I", false)
  | 3 => ("RopeDance$Stand", "l", "I", false)
  | 4 => ("RopeDance$Stand", "last", "I", false)
  | _ => ("RopeDance$Stand", "beats", "I", false)
def tyX3 : Nat → FieldType := fun k => match k with
  | 0 => .int
  | 1 => .int
  | 2 => .int
  | 3 => .int
  | 4 => .int
  | _ => .int
abbrev wsX30 : List Cond := u_ws RX3 TX3 6
theorem nmX3 : ∀ a, a < 6 → ∀ b, b < 6 → a ≠ b → (TX3 a).2.1 ≠ (TX3 b).2.1 := by decide +kernel
theorem tyX3_ok : ∀ k, k < 6 → parseFieldDescriptor (TX3 k).2.2.1 = some (tyX3 k) := by decide +kernel
abbrev cX3_init : ByteArray := prog_5_method_1_code
def yX3_init : MethodName := ⟨RX3, "<init>", "()V"⟩
abbrev cX3_begin : ByteArray := prog_5_method_2_code
def yX3_begin : MethodName := ⟨RX3, "begin", "(I)V"⟩
abbrev cX3_take : ByteArray := prog_5_method_3_code
def yX3_take : MethodName := ⟨RX3, "take", "(LRopeDance$Stand;)V"⟩
abbrev cX3_whoAt : ByteArray := prog_5_method_4_code
def yX3_whoAt : MethodName := ⟨RX3, "whoAt", "(I)I"⟩
abbrev cX3_placeOf : ByteArray := prog_5_method_5_code
def yX3_placeOf : MethodName := ⟨RX3, "placeOf", "(I)I"⟩
abbrev cX3_ropeOf : ByteArray := prog_5_method_6_code
def yX3_ropeOf : MethodName := ⟨RX3, "ropeOf", "(I)I"⟩
abbrev cX3_twistsOf : ByteArray := prog_5_method_7_code
def yX3_twistsOf : MethodName := ⟨RX3, "twistsOf", "(II)I"⟩
abbrev cX3_isWoundAs : ByteArray := prog_5_method_8_code
def yX3_isWoundAs : MethodName := ⟨RX3, "isWoundAs", "(II)Z"⟩
abbrev cX3_woundCode : ByteArray := prog_5_method_9_code
def yX3_woundCode : MethodName := ⟨RX3, "woundCode", "()I"⟩
abbrev cX3_isTooTight : ByteArray := prog_5_method_10_code
def yX3_isTooTight : MethodName := ⟨RX3, "isTooTight", "(I)Z"⟩
abbrev cX3_step : ByteArray := prog_5_method_11_code
def yX3_step : MethodName := ⟨RX3, "step", "(II)Z"⟩
abbrev cX3_exchange : ByteArray := prog_5_method_12_code
def yX3_exchange : MethodName := ⟨RX3, "exchange", "(II)V"⟩
abbrev cX3_turnAll : ByteArray := prog_5_method_13_code
def yX3_turnAll : MethodName := ⟨RX3, "turnAll", "()V"⟩
abbrev cX3_swapPlaces : ByteArray := prog_5_method_14_code
def yX3_swapPlaces : MethodName := ⟨RX3, "swapPlaces", "(II)V"⟩
def RX4 : String := "RopeDance"
def TX4 : u_T := fun k => match k with
  | 0 => ("RopeDance", "script", "LRopeDance$Script;", true)
  | 1 => ("RopeDance", "now", "LRopeDance$Stand;", true)
  | 2 => ("RopeDance", "trial", "LRopeDance$Stand;", true)
  | 3 => ("RopeDance", "past", "LRopeDance$Pile;", true)
  | 4 => ("RopeDance", "shelf", "LRopeDance$Pile;", true)
  | 5 => ("RopeDance", "search", "LRopeDance$Search;", true)
  | 6 => ("RopeDance", "seenRows", "[I", true)
  | 7 => ("RopeDance", "seenU", "[I", true)
  | 8 => ("RopeDance", "seenL", "[I", true)
  | 9 => ("RopeDance", "codes", "[I", true)
  | 10 => ("RopeDance", "seenCount", "I", false)
  | 11 => ("RopeDance", "ownKinds", "I", false)
  | 12 => ("RopeDance", "figures", "I", false)
  | _ => ("RopeDance", "figureCount", "I", false)
def tyX4 : Nat → FieldType := fun k => match k with
  | 0 => .object "RopeDance$Script"
  | 1 => .object "RopeDance$Stand"
  | 2 => .object "RopeDance$Stand"
  | 3 => .object "RopeDance$Pile"
  | 4 => .object "RopeDance$Pile"
  | 5 => .object "RopeDance$Search"
  | 6 => .array .int
  | 7 => .array .int
  | 8 => .array .int
  | 9 => .array .int
  | 10 => .int
  | 11 => .int
  | 12 => .int
  | _ => .int
abbrev wsX40 : List Cond := u_ws RX4 TX4 14
theorem nmX4 : ∀ a, a < 14 → ∀ b, b < 14 → a ≠ b → (TX4 a).2.1 ≠ (TX4 b).2.1 := by decide +kernel
theorem tyX4_ok : ∀ k, k < 14 → parseFieldDescriptor (TX4 k).2.2.1 = some (tyX4 k) := by decide +kernel
abbrev cX4_init : ByteArray := prog_1_method_1_code
def yX4_init : MethodName := ⟨RX4, "<init>", "()V"⟩
abbrev cX4_write : ByteArray := prog_1_method_2_code
def yX4_write : MethodName := ⟨RX4, "write", "(I)I"⟩
abbrev cX4_wipe : ByteArray := prog_1_method_3_code
def yX4_wipe : MethodName := ⟨RX4, "wipe", "()I"⟩
abbrev cX4_fault : ByteArray := prog_1_method_4_code
def yX4_fault : MethodName := ⟨RX4, "fault", "()I"⟩
abbrev cX4_lay : ByteArray := prog_1_method_5_code
def yX4_lay : MethodName := ⟨RX4, "lay", "()I"⟩
abbrev cX4_dancer : ByteArray := prog_1_method_6_code
def yX4_dancer : MethodName := ⟨RX4, "dancer", "(II)I"⟩
abbrev cX4_place : ByteArray := prog_1_method_7_code
def yX4_place : MethodName := ⟨RX4, "place", "(II)I"⟩
abbrev cX4_wound : ByteArray := prog_1_method_8_code
def yX4_wound : MethodName := ⟨RX4, "wound", "(I)I"⟩
abbrev cX4_row : ByteArray := prog_1_method_9_code
def yX4_row : MethodName := ⟨RX4, "row", "(I)I"⟩
abbrev cX4_dance : ByteArray := prog_1_method_10_code
def yX4_dance : MethodName := ⟨RX4, "dance", "(I)I"⟩
abbrev cX4_put : ByteArray := prog_1_method_11_code
def yX4_put : MethodName := ⟨RX4, "put", "(II)I"⟩
abbrev cX4_undo : ByteArray := prog_1_method_12_code
def yX4_undo : MethodName := ⟨RX4, "undo", "()I"⟩
abbrev cX4_free : ByteArray := prog_1_method_13_code
def yX4_free : MethodName := ⟨RX4, "free", "(I)I"⟩
abbrev cX4_reach : ByteArray := prog_1_method_14_code
def yX4_reach : MethodName := ⟨RX4, "reach", "(III)I"⟩
abbrev cX4_meet : ByteArray := prog_1_method_15_code
def yX4_meet : MethodName := ⟨RX4, "meet", "(III)I"⟩
abbrev cX4_ways : ByteArray := prog_1_method_16_code
def yX4_ways : MethodName := ⟨RX4, "ways", "(I)I"⟩
abbrev cX4_plain : ByteArray := prog_1_method_17_code
def yX4_plain : MethodName := ⟨RX4, "plain", "()I"⟩
abbrev cX4_comes : ByteArray := prog_1_method_18_code
def yX4_comes : MethodName := ⟨RX4, "comes", "(I)I"⟩
abbrev cX4_behind : ByteArray := prog_1_method_19_code
def yX4_behind : MethodName := ⟨RX4, "behind", "(II)I"⟩
abbrev cX4_see : ByteArray := prog_1_method_20_code
def yX4_see : MethodName := ⟨RX4, "see", "(III)I"⟩
abbrev cX4_forget : ByteArray := prog_1_method_21_code
def yX4_forget : MethodName := ⟨RX4, "forget", "()I"⟩
abbrev cX4_kinds : ByteArray := prog_1_method_22_code
def yX4_kinds : MethodName := ⟨RX4, "kinds", "(I)I"⟩
abbrev cX4_look : ByteArray := prog_1_method_23_code
def yX4_look : MethodName := ⟨RX4, "look", "(II)I"⟩
abbrev cX4_danced : ByteArray := prog_1_method_24_code
def yX4_danced : MethodName := ⟨RX4, "danced", "(I)I"⟩
abbrev cX4_duel : ByteArray := prog_1_method_25_code
def yX4_duel : MethodName := ⟨RX4, "duel", "(I)I"⟩
abbrev cX4_odds : ByteArray := prog_1_method_26_code
def yX4_odds : MethodName := ⟨RX4, "odds", "(III)I"⟩
abbrev cX4_evening : ByteArray := prog_1_method_27_code
def yX4_evening : MethodName := ⟨RX4, "evening", "(III)I"⟩
abbrev cX4_keep : ByteArray := prog_1_method_28_code
def yX4_keep : MethodName := ⟨RX4, "keep", "()I"⟩
abbrev cX4_back : ByteArray := prog_1_method_29_code
def yX4_back : MethodName := ⟨RX4, "back", "()I"⟩
abbrev cX4_count : ByteArray := prog_1_method_30_code
def yX4_count : MethodName := ⟨RX4, "count", "(I)I"⟩
abbrev cX4_takeScript : ByteArray := prog_1_method_31_code
def yX4_takeScript : MethodName := ⟨RX4, "takeScript", "()V"⟩
abbrev cX4_figureOfFewest : ByteArray := prog_1_method_32_code
def yX4_figureOfFewest : MethodName := ⟨RX4, "figureOfFewest", "(I)I"⟩
abbrev cX4_tryRow : ByteArray := prog_1_method_33_code
def yX4_tryRow : MethodName := ⟨RX4, "tryRow", "(II)Z"⟩
abbrev cX4_possibleKinds : ByteArray := prog_1_method_34_code
def yX4_possibleKinds : MethodName := ⟨RX4, "possibleKinds", "(I)I"⟩
abbrev cX4_explainsSeen : ByteArray := prog_1_method_35_code
def yX4_explainsSeen : MethodName := ⟨RX4, "explainsSeen", "(I)Z"⟩
abbrev cX4_greatestPart : ByteArray := prog_1_method_36_code
def yX4_greatestPart : MethodName := ⟨RX4, "greatestPart", "(III)I"⟩
abbrev cX4_partOf : ByteArray := prog_1_method_37_code
def yX4_partOf : MethodName := ⟨RX4, "partOf", "(I)I"⟩
abbrev cX4_drawOf : ByteArray := prog_1_method_38_code
def yX4_drawOf : MethodName := ⟨RX4, "drawOf", "(II)I"⟩
abbrev cX4_isDancer : ByteArray := prog_1_method_39_code
def yX4_isDancer : MethodName := ⟨RX4, "isDancer", "(I)Z"⟩
abbrev cX4_areTwo : ByteArray := prog_1_method_40_code
def yX4_areTwo : MethodName := ⟨RX4, "areTwo", "(II)Z"⟩
abbrev cX4_isRowIndex : ByteArray := prog_1_method_41_code
def yX4_isRowIndex : MethodName := ⟨RX4, "isRowIndex", "(I)Z"⟩
abbrev cX4_isRowLength : ByteArray := prog_1_method_42_code
def yX4_isRowLength : MethodName := ⟨RX4, "isRowLength", "(I)Z"⟩
abbrev cX4_isFraction : ByteArray := prog_1_method_43_code
def yX4_isFraction : MethodName := ⟨RX4, "isFraction", "(II)Z"⟩
abbrev cX4_commonDivisor : ByteArray := prog_1_method_44_code
def yX4_commonDivisor : MethodName := ⟨RX4, "commonDivisor", "(II)I"⟩
abbrev cX4_pairAt : ByteArray := prog_1_method_45_code
def yX4_pairAt : MethodName := ⟨RX4, "pairAt", "(II)I"⟩
abbrev cX4_kindOf : ByteArray := prog_1_method_46_code
def yX4_kindOf : MethodName := ⟨RX4, "kindOf", "(II)I"⟩
abbrev cX4_withKind : ByteArray := prog_1_method_47_code
def yX4_withKind : MethodName := ⟨RX4, "withKind", "(III)I"⟩
def RX5 : String := "RopeDanceModel"
def TX5 : u_T := fun k => match k with
  | 0 => ("RopeDanceModel", "kinds", "[I", true)
  | 1 => ("RopeDanceModel", "firsts", "[I", true)
  | 2 => ("RopeDanceModel", "row", "[I", true)
  | 3 => ("RopeDanceModel", "rowMany", "I", false)
  | 4 => ("RopeDanceModel", "st", "[I", true)
  | 5 => ("RopeDanceModel", "past", "[I", true)
  | 6 => ("RopeDanceModel", "undoMany", "I", false)
  | 7 => ("RopeDanceModel", "kept", "[I", true)
  | 8 => ("RopeDanceModel", "keptMany", "I", false)
  | 9 => ("RopeDanceModel", "seen", "[I", true)
  | 10 => ("RopeDanceModel", "seenMany", "I", false)
  | 11 => ("RopeDanceModel", "text", "[I", true)
  | 12 => ("RopeDanceModel", "length", "I", false)
  | 13 => ("RopeDanceModel", "newKinds", "[I", true)
  | 14 => ("RopeDanceModel", "newFirsts", "[I", true)
  | 15 => ("RopeDanceModel", "newRow", "[I", true)
  | 16 => ("RopeDanceModel", "newMany", "I", false)
  | 17 => ("RopeDanceModel", "at", "I", false)
  | 18 => ("RopeDanceModel", "net", "I", false)
  | 19 => ("RopeDanceModel", "aside", "[I", true)
  | 20 => ("RopeDanceModel", "fewest", "I", false)
  | 21 => ("RopeDanceModel", "found", "I", false)
  | 22 => ("RopeDanceModel", "comesTo", "[I", true)
  | 23 => ("RopeDanceModel", "plainKinds", "[I", true)
  | _ => ("RopeDanceModel", "folds", "[I", true)
def tyX5 : Nat → FieldType := fun k => match k with
  | 0 => .array .int
  | 1 => .array .int
  | 2 => .array .int
  | 3 => .int
  | 4 => .array .int
  | 5 => .array .int
  | 6 => .int
  | 7 => .array .int
  | 8 => .int
  | 9 => .array .int
  | 10 => .int
  | 11 => .array .int
  | 12 => .int
  | 13 => .array .int
  | 14 => .array .int
  | 15 => .array .int
  | 16 => .int
  | 17 => .int
  | 18 => .int
  | 19 => .array .int
  | 20 => .int
  | 21 => .int
  | 22 => .array .int
  | 23 => .array .int
  | _ => .array .int
abbrev wsX50 : List Cond := u_ws RX5 TX5 25
theorem nmX5 : ∀ a, a < 25 → ∀ b, b < 25 → a ≠ b → (TX5 a).2.1 ≠ (TX5 b).2.1 := by decide +kernel
theorem tyX5_ok : ∀ k, k < 25 → parseFieldDescriptor (TX5 k).2.2.1 = some (tyX5 k) := by decide +kernel
abbrev cX5_init : ByteArray := prog_7_method_1_code
def yX5_init : MethodName := ⟨RX5, "<init>", "()V"⟩
abbrev cX5_in : ByteArray := prog_7_method_2_code
def yX5_in : MethodName := ⟨RX5, "in", "(JJJ)Z"⟩
abbrev cX5_isPart : ByteArray := prog_7_method_3_code
def yX5_isPart : MethodName := ⟨RX5, "isPart", "(I)Z"⟩
abbrev cX5_isOne : ByteArray := prog_7_method_4_code
def yX5_isOne : MethodName := ⟨RX5, "isOne", "(I)Z"⟩
abbrev cX5_begin : ByteArray := prog_7_method_5_code
def yX5_begin : MethodName := ⟨RX5, "begin", "()V"⟩
abbrev cX5_write : ByteArray := prog_7_method_6_code
def yX5_write : MethodName := ⟨RX5, "write", "(I)I"⟩
abbrev cX5_wipe : ByteArray := prog_7_method_7_code
def yX5_wipe : MethodName := ⟨RX5, "wipe", "()I"⟩
abbrev cX5_letter : ByteArray := prog_7_method_8_code
def yX5_letter : MethodName := ⟨RX5, "letter", "(I)I"⟩
abbrev cX5_figureAt : ByteArray := prog_7_method_9_code
def yX5_figureAt : MethodName := ⟨RX5, "figureAt", "(II)I"⟩
abbrev cX5_readItem : ByteArray := prog_7_method_10_code
def yX5_readItem : MethodName := ⟨RX5, "readItem", "(I)I"⟩
abbrev cX5_fault : ByteArray := prog_7_method_11_code
def yX5_fault : MethodName := ⟨RX5, "fault", "()I"⟩
abbrev cX5_lay : ByteArray := prog_7_method_12_code
def yX5_lay : MethodName := ⟨RX5, "lay", "()I"⟩
abbrev cX5_placeOf : ByteArray := prog_7_method_13_code
def yX5_placeOf : MethodName := ⟨RX5, "placeOf", "(I)I"⟩
abbrev cX5_dancer : ByteArray := prog_7_method_14_code
def yX5_dancer : MethodName := ⟨RX5, "dancer", "(II)I"⟩
abbrev cX5_place : ByteArray := prog_7_method_15_code
def yX5_place : MethodName := ⟨RX5, "place", "(II)I"⟩
abbrev cX5_wound : ByteArray := prog_7_method_16_code
def yX5_wound : MethodName := ⟨RX5, "wound", "(I)I"⟩
abbrev cX5_row : ByteArray := prog_7_method_17_code
def yX5_row : MethodName := ⟨RX5, "row", "(I)I"⟩
abbrev cX5_common : ByteArray := prog_7_method_18_code
def yX5_common : MethodName := ⟨RX5, "common", "(II)I"⟩
abbrev cX5_isTight : ByteArray := prog_7_method_19_code
def yX5_isTight : MethodName := ⟨RX5, "isTight", "(II)Z"⟩
abbrev cX5_windsBy : ByteArray := prog_7_method_20_code
def yX5_windsBy : MethodName := ⟨RX5, "windsBy", "(I)I"⟩
abbrev cX5_changePlaces : ByteArray := prog_7_method_21_code
def yX5_changePlaces : MethodName := ⟨RX5, "changePlaces", "(II)V"⟩
abbrev cX5_winds : ByteArray := prog_7_method_22_code
def yX5_winds : MethodName := ⟨RX5, "winds", "(I)Z"⟩
abbrev cX5_turns : ByteArray := prog_7_method_23_code
def yX5_turns : MethodName := ⟨RX5, "turns", "()Z"⟩
abbrev cX5_dances : ByteArray := prog_7_method_24_code
def yX5_dances : MethodName := ⟨RX5, "dances", "(I)Z"⟩
abbrev cX5_note : ByteArray := prog_7_method_25_code
def yX5_note : MethodName := ⟨RX5, "note", "()V"⟩
abbrev cX5_dance : ByteArray := prog_7_method_26_code
def yX5_dance : MethodName := ⟨RX5, "dance", "(I)I"⟩
abbrev cX5_putThem : ByteArray := prog_7_method_27_code
def yX5_putThem : MethodName := ⟨RX5, "putThem", "(II)V"⟩
abbrev cX5_put : ByteArray := prog_7_method_28_code
def yX5_put : MethodName := ⟨RX5, "put", "(II)I"⟩
abbrev cX5_undo : ByteArray := prog_7_method_29_code
def yX5_undo : MethodName := ⟨RX5, "undo", "()I"⟩
abbrev cX5_putAside : ByteArray := prog_7_method_30_code
def yX5_putAside : MethodName := ⟨RX5, "putAside", "()V"⟩
abbrev cX5_takeBack : ByteArray := prog_7_method_31_code
def yX5_takeBack : MethodName := ⟨RX5, "takeBack", "()V"⟩
abbrev cX5_rowsOf : ByteArray := prog_7_method_32_code
def yX5_rowsOf : MethodName := ⟨RX5, "rowsOf", "(II)I"⟩
abbrev cX5_dancesRow : ByteArray := prog_7_method_33_code
def yX5_dancesRow : MethodName := ⟨RX5, "dancesRow", "(II)Z"⟩
abbrev cX5_isWound : ByteArray := prog_7_method_34_code
def yX5_isWound : MethodName := ⟨RX5, "isWound", "(II)Z"⟩
abbrev cX5_areBeside : ByteArray := prog_7_method_35_code
def yX5_areBeside : MethodName := ⟨RX5, "areBeside", "(II)Z"⟩
abbrev cX5_search : ByteArray := prog_7_method_36_code
def yX5_search : MethodName := ⟨RX5, "search", "(IIII)V"⟩
abbrev cX5_tells : ByteArray := prog_7_method_37_code
def yX5_tells : MethodName := ⟨RX5, "tells", "(I)I"⟩
abbrev cX5_isPlaceOfRow : ByteArray := prog_7_method_38_code
def yX5_isPlaceOfRow : MethodName := ⟨RX5, "isPlaceOfRow", "(I)Z"⟩
abbrev cX5_free : ByteArray := prog_7_method_39_code
def yX5_free : MethodName := ⟨RX5, "free", "(I)I"⟩
abbrev cX5_isFraction : ByteArray := prog_7_method_40_code
def yX5_isFraction : MethodName := ⟨RX5, "isFraction", "(II)Z"⟩
abbrev cX5_reach : ByteArray := prog_7_method_41_code
def yX5_reach : MethodName := ⟨RX5, "reach", "(III)I"⟩
abbrev cX5_meet : ByteArray := prog_7_method_42_code
def yX5_meet : MethodName := ⟨RX5, "meet", "(III)I"⟩
abbrev cX5_ways : ByteArray := prog_7_method_43_code
def yX5_ways : MethodName := ⟨RX5, "ways", "(I)I"⟩
abbrev cX5_plain : ByteArray := prog_7_method_44_code
def yX5_plain : MethodName := ⟨RX5, "plain", "()I"⟩
abbrev cX5_dancesOn : ByteArray := prog_7_method_45_code
def yX5_dancesOn : MethodName := ⟨RX5, "dancesOn", "(I)I"⟩
abbrev cX5_dancesFirst : ByteArray := prog_7_method_46_code
def yX5_dancesFirst : MethodName := ⟨RX5, "dancesFirst", "(I)Z"⟩
abbrev cX5_comes : ByteArray := prog_7_method_47_code
def yX5_comes : MethodName := ⟨RX5, "comes", "(I)I"⟩
abbrev cX5_behind : ByteArray := prog_7_method_48_code
def yX5_behind : MethodName := ⟨RX5, "behind", "(II)I"⟩
abbrev cX5_see : ByteArray := prog_7_method_49_code
def yX5_see : MethodName := ⟨RX5, "see", "(III)I"⟩
abbrev cX5_forget : ByteArray := prog_7_method_50_code
def yX5_forget : MethodName := ⟨RX5, "forget", "()I"⟩
abbrev cX5_isAsSeen : ByteArray := prog_7_method_51_code
def yX5_isAsSeen : MethodName := ⟨RX5, "isAsSeen", "()Z"⟩
abbrev cX5_kindSet : ByteArray := prog_7_method_52_code
def yX5_kindSet : MethodName := ⟨RX5, "kindSet", "(I)I"⟩
abbrev cX5_kinds : ByteArray := prog_7_method_53_code
def yX5_kinds : MethodName := ⟨RX5, "kinds", "(I)I"⟩
abbrev cX5_partBy : ByteArray := prog_7_method_54_code
def yX5_partBy : MethodName := ⟨RX5, "partBy", "(III)I"⟩
abbrev cX5_look : ByteArray := prog_7_method_55_code
def yX5_look : MethodName := ⟨RX5, "look", "(II)I"⟩
abbrev cX5_danced : ByteArray := prog_7_method_56_code
def yX5_danced : MethodName := ⟨RX5, "danced", "(I)I"⟩
abbrev cX5_greater : ByteArray := prog_7_method_57_code
def yX5_greater : MethodName := ⟨RX5, "greater", "()I"⟩
abbrev cX5_better : ByteArray := prog_7_method_58_code
def yX5_better : MethodName := ⟨RX5, "better", "(IIZ)I"⟩
abbrev cX5_duel : ByteArray := prog_7_method_59_code
def yX5_duel : MethodName := ⟨RX5, "duel", "(I)I"⟩
abbrev cX5_odds : ByteArray := prog_7_method_60_code
def yX5_odds : MethodName := ⟨RX5, "odds", "(III)I"⟩
abbrev cX5_evening : ByteArray := prog_7_method_61_code
def yX5_evening : MethodName := ⟨RX5, "evening", "(III)I"⟩
abbrev cX5_keep : ByteArray := prog_7_method_62_code
def yX5_keep : MethodName := ⟨RX5, "keep", "()I"⟩
abbrev cX5_back : ByteArray := prog_7_method_63_code
def yX5_back : MethodName := ⟨RX5, "back", "()I"⟩
abbrev cX5_count : ByteArray := prog_7_method_64_code
def yX5_count : MethodName := ⟨RX5, "count", "(I)I"⟩
def RJ6 : String := "java/lang/Integer"
def TJ6 : u_T := fun k => match k with
  | _ => ("", "", "", false)
def tyJ6 : Nat → FieldType := fun k => match k with
  | _ => .int
abbrev wsJ60 : List Cond := u_ws RJ6 TJ6 0
theorem nmJ6 : ∀ a, a < 0 → ∀ b, b < 0 → a ≠ b → (TJ6 a).2.1 ≠ (TJ6 b).2.1 := by decide +kernel
theorem tyJ6_ok : ∀ k, k < 0 → parseFieldDescriptor (TJ6 k).2.2.1 = some (tyJ6 k) := by decide +kernel
abbrev cJ6_bitCount_0f7a4 : ByteArray := prog_8_method_49_code
def yJ6_bitCount_0f7a4 : MethodName := ⟨RJ6, "bitCount", "(I)I"⟩
def RJ9 : String := "java/lang/Math"
def TJ9 : u_T := fun k => match k with
  | _ => ("", "", "", false)
def tyJ9 : Nat → FieldType := fun k => match k with
  | _ => .int
abbrev wsJ90 : List Cond := u_ws RJ9 TJ9 0
theorem nmJ9 : ∀ a, a < 0 → ∀ b, b < 0 → a ≠ b → (TJ9 a).2.1 ≠ (TJ9 b).2.1 := by decide +kernel
theorem tyJ9_ok : ∀ k, k < 0 → parseFieldDescriptor (TJ9 k).2.2.1 = some (tyJ9 k) := by decide +kernel
abbrev cJ9_abs_0f7a4 : ByteArray := prog_9_method_59_code
def yJ9_abs_0f7a4 : MethodName := ⟨RJ9, "abs", "(I)I"⟩
abbrev cJ9_max_7cf53 : ByteArray := prog_9_method_65_code
def yJ9_max_7cf53 : MethodName := ⟨RJ9, "max", "(II)I"⟩
abbrev cJ9_min_7cf53 : ByteArray := prog_9_method_69_code
def yJ9_min_7cf53 : MethodName := ⟨RJ9, "min", "(II)I"⟩
def RJ0 : String := "java/lang/String"
def TJ0 : u_T := fun k => match k with
  | _ => ("", "", "", false)
def tyJ0 : Nat → FieldType := fun k => match k with
  | _ => .int
abbrev wsJ00 : List Cond := u_ws RJ0 TJ0 0
theorem nmJ0 : ∀ a, a < 0 → ∀ b, b < 0 → a ≠ b → (TJ0 a).2.1 ≠ (TJ0 b).2.1 := by decide +kernel
theorem tyJ0_ok : ∀ k, k < 0 → parseFieldDescriptor (TJ0 k).2.2.1 = some (tyJ0 k) := by decide +kernel
abbrev cJ0_length_8abf5 : ByteArray := prog_10_method_54_code
def yJ0_length_8abf5 : MethodName := ⟨RJ0, "length", "()I"⟩
abbrev cJ0_charAt_5068e : ByteArray := prog_10_method_56_code
def yJ0_charAt_5068e : MethodName := ⟨RJ0, "charAt", "(I)C"⟩
abbrev cJ0_coder_7d493 : ByteArray := prog_10_method_152_code
def yJ0_coder_7d493 : MethodName := ⟨RJ0, "coder", "()B"⟩
abbrev cJ0_isLatin1_aae02 : ByteArray := prog_10_method_154_code
def yJ0_isLatin1_aae02 : MethodName := ⟨RJ0, "isLatin1", "()Z"⟩
abbrev cJ0_checkIndex_df160 : ByteArray := prog_10_method_155_code
def yJ0_checkIndex_df160 : MethodName := ⟨RJ0, "checkIndex", "(II)V"⟩
def RJ1 : String := "java/lang/StringLatin1"
def TJ1 : u_T := fun k => match k with
  | _ => ("", "", "", false)
def tyJ1 : Nat → FieldType := fun k => match k with
  | _ => .int
abbrev wsJ10 : List Cond := u_ws RJ1 TJ1 0
theorem nmJ1 : ∀ a, a < 0 → ∀ b, b < 0 → a ≠ b → (TJ1 a).2.1 ≠ (TJ1 b).2.1 := by decide +kernel
theorem tyJ1_ok : ∀ k, k < 0 → parseFieldDescriptor (TJ1 k).2.2.1 = some (tyJ1 k) := by decide +kernel
abbrev cJ1_charAt_3b067 : ByteArray := prog_11_method_2_code
def yJ1_charAt_3b067 : MethodName := ⟨RJ1, "charAt", "([BI)C"⟩
def RJ2 : String := "java/lang/StringUTF16"
def TJ2 : u_T := fun k => match k with
  | _ => ("", "", "", false)
def tyJ2 : Nat → FieldType := fun k => match k with
  | _ => .int
abbrev wsJ20 : List Cond := u_ws RJ2 TJ2 0
theorem nmJ2 : ∀ a, a < 0 → ∀ b, b < 0 → a ≠ b → (TJ2 a).2.1 ≠ (TJ2 b).2.1 := by decide +kernel
theorem tyJ2_ok : ∀ k, k < 0 → parseFieldDescriptor (TJ2 k).2.2.1 = some (tyJ2 k) := by decide +kernel
abbrev cJ2_getChar_3b067 : ByteArray := prog_12_method_5_code
def yJ2_getChar_3b067 : MethodName := ⟨RJ2, "getChar", "([BI)C"⟩
abbrev cJ2_length_9d52b : ByteArray := prog_12_method_6_code
def yJ2_length_9d52b : MethodName := ⟨RJ2, "length", "([B)I"⟩
abbrev cJ2_charAt_3b067 : ByteArray := prog_12_method_83_code
def yJ2_charAt_3b067 : MethodName := ⟨RJ2, "charAt", "([BI)C"⟩
abbrev cJ2_checkIndex_2214a : ByteArray := prog_12_method_91_code
def yJ2_checkIndex_2214a : MethodName := ⟨RJ2, "checkIndex", "(I[B)V"⟩
def RJ3 : String := "jdk/internal/util/Preconditions"
def TJ3 : u_T := fun k => match k with
  | _ => ("", "", "", false)
def tyJ3 : Nat → FieldType := fun k => match k with
  | _ => .int
abbrev wsJ30 : List Cond := u_ws RJ3 TJ3 0
theorem nmJ3 : ∀ a, a < 0 → ∀ b, b < 0 → a ≠ b → (TJ3 a).2.1 ≠ (TJ3 b).2.1 := by decide +kernel
theorem tyJ3_ok : ∀ k, k < 0 → parseFieldDescriptor (TJ3 k).2.2.1 = some (tyJ3 k) := by decide +kernel
abbrev cJ3_checkIndex_8e157 : ByteArray := prog_13_method_11_code
def yJ3_checkIndex_8e157 : MethodName := ⟨RJ3, "checkIndex", "(IILjava/util/function/BiFunction;)I"⟩
def RL : String := "RopeDanceLaw"
abbrev cL_law : ByteArray := code
def yL_law : MethodName := ⟨RL, "law", "([I)Z"⟩
abbrev vwCl : List vw_C := [(RX0, TX0, 3), (RX1, TX1, 6), (RX2, TX2, 9), (RX3, TX3, 6), (RX4, TX4, 14), (RX5, TX5, 25)]
