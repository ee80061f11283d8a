section
-- ===== PART A: goes FIRST, ahead of the names: the tables' words, and 'selects' of the private methods out of them =====
/-- a private method of a class that the tables say can be made, by its rows of tables_1 -/
def lw_okq (q : MethodName × Nat) : Prop := (q.1.cls ≠ "java/lang/invoke/MethodHandle" ∧ q.1.cls ≠ "java/lang/invoke/VarHandle") ∧ Cond.instantiable q.1.cls q.2 ∈ tables_1 ∧ Cond.privateMethod q.1 ∈ tables_1 ∧ Cond.instanceMethod q.1 ∈ tables_1
theorem lw_p0 : lw_okq (⟨"RopeDance$Script", "endOfItem", "(I)I"⟩, 6) := ⟨⟨by decide +kernel, by decide +kernel⟩, List.mem_of_getElem? (i := 22) (by decide +kernel), List.mem_of_getElem? (i := 206) (by decide +kernel), List.mem_of_getElem? (i := 207) (by decide +kernel)⟩
theorem lw_p1 : lw_okq (⟨"RopeDance$Script", "letterAt", "(I)I"⟩, 6) := ⟨⟨by decide +kernel, by decide +kernel⟩, List.mem_of_getElem? (i := 22) (by decide +kernel), List.mem_of_getElem? (i := 210) (by decide +kernel), List.mem_of_getElem? (i := 211) (by decide +kernel)⟩
theorem lw_p2 : lw_okq (⟨"RopeDance$Script", "endOfPair", "(II)I"⟩, 6) := ⟨⟨by decide +kernel, by decide +kernel⟩, List.mem_of_getElem? (i := 22) (by decide +kernel), List.mem_of_getElem? (i := 214) (by decide +kernel), List.mem_of_getElem? (i := 215) (by decide +kernel)⟩
theorem lw_p3 : lw_okq (⟨"RopeDance$Script", "isNumber", "(II)Z"⟩, 6) := ⟨⟨by decide +kernel, by decide +kernel⟩, List.mem_of_getElem? (i := 22) (by decide +kernel), List.mem_of_getElem? (i := 218) (by decide +kernel), List.mem_of_getElem? (i := 219) (by decide +kernel)⟩
theorem lw_p4 : lw_okq (⟨"RopeDance$Script", "readItems", "()V"⟩, 6) := ⟨⟨by decide +kernel, by decide +kernel⟩, List.mem_of_getElem? (i := 22) (by decide +kernel), List.mem_of_getElem? (i := 222) (by decide +kernel), List.mem_of_getElem? (i := 223) (by decide +kernel)⟩
theorem lw_p5 : lw_okq (⟨"RopeDance$Script", "readItem", "(I)V"⟩, 6) := ⟨⟨by decide +kernel, by decide +kernel⟩, List.mem_of_getElem? (i := 22) (by decide +kernel), List.mem_of_getElem? (i := 226) (by decide +kernel), List.mem_of_getElem? (i := 227) (by decide +kernel)⟩
theorem lw_p6 : lw_okq (⟨"RopeDance$Script", "areApart", "()Z"⟩, 6) := ⟨⟨by decide +kernel, by decide +kernel⟩, List.mem_of_getElem? (i := 22) (by decide +kernel), List.mem_of_getElem? (i := 233) (by decide +kernel), List.mem_of_getElem? (i := 234) (by decide +kernel)⟩
theorem lw_p7 : lw_okq (⟨"RopeDance", "takeScript", "()V"⟩, 14) := ⟨⟨by decide +kernel, by decide +kernel⟩, List.mem_of_getElem? (i := 14) (by decide +kernel), List.mem_of_getElem? (i := 246) (by decide +kernel), List.mem_of_getElem? (i := 247) (by decide +kernel)⟩
theorem lw_p8 : lw_okq (⟨"RopeDance$Stand", "turnAll", "()V"⟩, 6) := ⟨⟨by decide +kernel, by decide +kernel⟩, List.mem_of_getElem? (i := 52) (by decide +kernel), List.mem_of_getElem? (i := 398) (by decide +kernel), List.mem_of_getElem? (i := 399) (by decide +kernel)⟩
theorem lw_p9 : lw_okq (⟨"RopeDance$Stand", "swapPlaces", "(II)V"⟩, 6) := ⟨⟨by decide +kernel, by decide +kernel⟩, List.mem_of_getElem? (i := 52) (by decide +kernel), List.mem_of_getElem? (i := 402) (by decide +kernel), List.mem_of_getElem? (i := 403) (by decide +kernel)⟩
theorem lw_p10 : lw_okq (⟨"RopeDance", "figureOfFewest", "(I)I"⟩, 14) := ⟨⟨by decide +kernel, by decide +kernel⟩, List.mem_of_getElem? (i := 14) (by decide +kernel), List.mem_of_getElem? (i := 437) (by decide +kernel), List.mem_of_getElem? (i := 438) (by decide +kernel)⟩
theorem lw_p11 : lw_okq (⟨"RopeDance$Search", "isAtGoal", "(I)Z"⟩, 9) := ⟨⟨by decide +kernel, by decide +kernel⟩, List.mem_of_getElem? (i := 107) (by decide +kernel), List.mem_of_getElem? (i := 449) (by decide +kernel), List.mem_of_getElem? (i := 450) (by decide +kernel)⟩
theorem lw_p12 : lw_okq (⟨"RopeDance$Search", "goOn", "(II)Z"⟩, 9) := ⟨⟨by decide +kernel, by decide +kernel⟩, List.mem_of_getElem? (i := 107) (by decide +kernel), List.mem_of_getElem? (i := 458) (by decide +kernel), List.mem_of_getElem? (i := 459) (by decide +kernel)⟩
theorem lw_p13 : lw_okq (⟨"RopeDance", "tryRow", "(II)Z"⟩, 14) := ⟨⟨by decide +kernel, by decide +kernel⟩, List.mem_of_getElem? (i := 14) (by decide +kernel), List.mem_of_getElem? (i := 504) (by decide +kernel), List.mem_of_getElem? (i := 505) (by decide +kernel)⟩
theorem lw_p14 : lw_okq (⟨"RopeDance", "possibleKinds", "(I)I"⟩, 14) := ⟨⟨by decide +kernel, by decide +kernel⟩, List.mem_of_getElem? (i := 14) (by decide +kernel), List.mem_of_getElem? (i := 529) (by decide +kernel), List.mem_of_getElem? (i := 530) (by decide +kernel)⟩
theorem lw_p15 : lw_okq (⟨"RopeDance", "explainsSeen", "(I)Z"⟩, 14) := ⟨⟨by decide +kernel, by decide +kernel⟩, List.mem_of_getElem? (i := 14) (by decide +kernel), List.mem_of_getElem? (i := 534) (by decide +kernel), List.mem_of_getElem? (i := 535) (by decide +kernel)⟩
def lw_privs_1 : List (MethodName × Nat) := [(⟨"RopeDance$Script", "endOfItem", "(I)I"⟩, 6), (⟨"RopeDance$Script", "letterAt", "(I)I"⟩, 6), (⟨"RopeDance$Script", "endOfPair", "(II)I"⟩, 6), (⟨"RopeDance$Script", "isNumber", "(II)Z"⟩, 6), (⟨"RopeDance$Script", "readItems", "()V"⟩, 6), (⟨"RopeDance$Script", "readItem", "(I)V"⟩, 6), (⟨"RopeDance$Script", "areApart", "()Z"⟩, 6), (⟨"RopeDance", "takeScript", "()V"⟩, 14), (⟨"RopeDance$Stand", "turnAll", "()V"⟩, 6), (⟨"RopeDance$Stand", "swapPlaces", "(II)V"⟩, 6), (⟨"RopeDance", "figureOfFewest", "(I)I"⟩, 14), (⟨"RopeDance$Search", "isAtGoal", "(I)Z"⟩, 9), (⟨"RopeDance$Search", "goOn", "(II)Z"⟩, 9), (⟨"RopeDance", "tryRow", "(II)Z"⟩, 14), (⟨"RopeDance", "possibleKinds", "(I)I"⟩, 14), (⟨"RopeDance", "explainsSeen", "(I)Z"⟩, 14)]
theorem lw_r1 : ∀ q ∈ lw_privs_1, lw_okq q := List.forall_mem_cons.mpr ⟨lw_p0, List.forall_mem_cons.mpr ⟨lw_p1, List.forall_mem_cons.mpr ⟨lw_p2, List.forall_mem_cons.mpr ⟨lw_p3, List.forall_mem_cons.mpr ⟨lw_p4, List.forall_mem_cons.mpr ⟨lw_p5, List.forall_mem_cons.mpr ⟨lw_p6, List.forall_mem_cons.mpr ⟨lw_p7, List.forall_mem_cons.mpr ⟨lw_p8, List.forall_mem_cons.mpr ⟨lw_p9, List.forall_mem_cons.mpr ⟨lw_p10, List.forall_mem_cons.mpr ⟨lw_p11, List.forall_mem_cons.mpr ⟨lw_p12, List.forall_mem_cons.mpr ⟨lw_p13, List.forall_mem_cons.mpr ⟨lw_p14, List.forall_mem_cons.mpr ⟨lw_p15, fun _ h => absurd h List.not_mem_nil⟩⟩⟩⟩⟩⟩⟩⟩⟩⟩⟩⟩⟩⟩⟩⟩
theorem lw_p16 : lw_okq (⟨"RopeDance", "greatestPart", "(III)I"⟩, 14) := ⟨⟨by decide +kernel, by decide +kernel⟩, List.mem_of_getElem? (i := 14) (by decide +kernel), List.mem_of_getElem? (i := 544) (by decide +kernel), List.mem_of_getElem? (i := 545) (by decide +kernel)⟩
theorem lw_p17 : lw_okq (⟨"RopeDance", "partOf", "(I)I"⟩, 14) := ⟨⟨by decide +kernel, by decide +kernel⟩, List.mem_of_getElem? (i := 14) (by decide +kernel), List.mem_of_getElem? (i := 554) (by decide +kernel), List.mem_of_getElem? (i := 555) (by decide +kernel)⟩
theorem lw_p18 : lw_okq (⟨"RopeDance$Search", "greaterPart", "(I)I"⟩, 9) := ⟨⟨by decide +kernel, by decide +kernel⟩, List.mem_of_getElem? (i := 107) (by decide +kernel), List.mem_of_getElem? (i := 570) (by decide +kernel), List.mem_of_getElem? (i := 571) (by decide +kernel)⟩
theorem lw_p19 : lw_okq (⟨"RopeDanceModel", "begin", "()V"⟩, 25) := ⟨⟨by decide +kernel, by decide +kernel⟩, List.mem_of_getElem? (i := 616) (by decide +kernel), List.mem_of_getElem? (i := 622) (by decide +kernel), List.mem_of_getElem? (i := 623) (by decide +kernel)⟩
theorem lw_p20 : lw_okq (⟨"RopeDanceModel", "readItem", "(I)I"⟩, 25) := ⟨⟨by decide +kernel, by decide +kernel⟩, List.mem_of_getElem? (i := 616) (by decide +kernel), List.mem_of_getElem? (i := 719) (by decide +kernel), List.mem_of_getElem? (i := 720) (by decide +kernel)⟩
theorem lw_p21 : lw_okq (⟨"RopeDanceModel", "letter", "(I)I"⟩, 25) := ⟨⟨by decide +kernel, by decide +kernel⟩, List.mem_of_getElem? (i := 616) (by decide +kernel), List.mem_of_getElem? (i := 723) (by decide +kernel), List.mem_of_getElem? (i := 724) (by decide +kernel)⟩
theorem lw_p22 : lw_okq (⟨"RopeDanceModel", "figureAt", "(II)I"⟩, 25) := ⟨⟨by decide +kernel, by decide +kernel⟩, List.mem_of_getElem? (i := 616) (by decide +kernel), List.mem_of_getElem? (i := 727) (by decide +kernel), List.mem_of_getElem? (i := 728) (by decide +kernel)⟩
theorem lw_p23 : lw_okq (⟨"RopeDanceModel", "placeOf", "(I)I"⟩, 25) := ⟨⟨by decide +kernel, by decide +kernel⟩, List.mem_of_getElem? (i := 616) (by decide +kernel), List.mem_of_getElem? (i := 745) (by decide +kernel), List.mem_of_getElem? (i := 746) (by decide +kernel)⟩
theorem lw_p24 : lw_okq (⟨"RopeDanceModel", "putAside", "()V"⟩, 25) := ⟨⟨by decide +kernel, by decide +kernel⟩, List.mem_of_getElem? (i := 616) (by decide +kernel), List.mem_of_getElem? (i := 770) (by decide +kernel), List.mem_of_getElem? (i := 771) (by decide +kernel)⟩
theorem lw_p25 : lw_okq (⟨"RopeDanceModel", "dances", "(I)Z"⟩, 25) := ⟨⟨by decide +kernel, by decide +kernel⟩, List.mem_of_getElem? (i := 616) (by decide +kernel), List.mem_of_getElem? (i := 774) (by decide +kernel), List.mem_of_getElem? (i := 775) (by decide +kernel)⟩
theorem lw_p26 : lw_okq (⟨"RopeDanceModel", "turns", "()Z"⟩, 25) := ⟨⟨by decide +kernel, by decide +kernel⟩, List.mem_of_getElem? (i := 616) (by decide +kernel), List.mem_of_getElem? (i := 778) (by decide +kernel), List.mem_of_getElem? (i := 779) (by decide +kernel)⟩
theorem lw_p27 : lw_okq (⟨"RopeDanceModel", "winds", "(I)Z"⟩, 25) := ⟨⟨by decide +kernel, by decide +kernel⟩, List.mem_of_getElem? (i := 616) (by decide +kernel), List.mem_of_getElem? (i := 785) (by decide +kernel), List.mem_of_getElem? (i := 786) (by decide +kernel)⟩
theorem lw_p28 : lw_okq (⟨"RopeDanceModel", "windsBy", "(I)I"⟩, 25) := ⟨⟨by decide +kernel, by decide +kernel⟩, List.mem_of_getElem? (i := 616) (by decide +kernel), List.mem_of_getElem? (i := 789) (by decide +kernel), List.mem_of_getElem? (i := 790) (by decide +kernel)⟩
theorem lw_p29 : lw_okq (⟨"RopeDanceModel", "changePlaces", "(II)V"⟩, 25) := ⟨⟨by decide +kernel, by decide +kernel⟩, List.mem_of_getElem? (i := 616) (by decide +kernel), List.mem_of_getElem? (i := 793) (by decide +kernel), List.mem_of_getElem? (i := 794) (by decide +kernel)⟩
theorem lw_p30 : lw_okq (⟨"RopeDanceModel", "takeBack", "()V"⟩, 25) := ⟨⟨by decide +kernel, by decide +kernel⟩, List.mem_of_getElem? (i := 616) (by decide +kernel), List.mem_of_getElem? (i := 797) (by decide +kernel), List.mem_of_getElem? (i := 798) (by decide +kernel)⟩
theorem lw_p31 : lw_okq (⟨"RopeDanceModel", "note", "()V"⟩, 25) := ⟨⟨by decide +kernel, by decide +kernel⟩, List.mem_of_getElem? (i := 616) (by decide +kernel), List.mem_of_getElem? (i := 801) (by decide +kernel), List.mem_of_getElem? (i := 802) (by decide +kernel)⟩
def lw_privs_2 : List (MethodName × Nat) := [(⟨"RopeDance", "greatestPart", "(III)I"⟩, 14), (⟨"RopeDance", "partOf", "(I)I"⟩, 14), (⟨"RopeDance$Search", "greaterPart", "(I)I"⟩, 9), (⟨"RopeDanceModel", "begin", "()V"⟩, 25), (⟨"RopeDanceModel", "readItem", "(I)I"⟩, 25), (⟨"RopeDanceModel", "letter", "(I)I"⟩, 25), (⟨"RopeDanceModel", "figureAt", "(II)I"⟩, 25), (⟨"RopeDanceModel", "placeOf", "(I)I"⟩, 25), (⟨"RopeDanceModel", "putAside", "()V"⟩, 25), (⟨"RopeDanceModel", "dances", "(I)Z"⟩, 25), (⟨"RopeDanceModel", "turns", "()Z"⟩, 25), (⟨"RopeDanceModel", "winds", "(I)Z"⟩, 25), (⟨"RopeDanceModel", "windsBy", "(I)I"⟩, 25), (⟨"RopeDanceModel", "changePlaces", "(II)V"⟩, 25), (⟨"RopeDanceModel", "takeBack", "()V"⟩, 25), (⟨"RopeDanceModel", "note", "()V"⟩, 25)]
theorem lw_r2 : ∀ q ∈ lw_privs_2, lw_okq q := List.forall_mem_cons.mpr ⟨lw_p16, List.forall_mem_cons.mpr ⟨lw_p17, List.forall_mem_cons.mpr ⟨lw_p18, List.forall_mem_cons.mpr ⟨lw_p19, List.forall_mem_cons.mpr ⟨lw_p20, List.forall_mem_cons.mpr ⟨lw_p21, List.forall_mem_cons.mpr ⟨lw_p22, List.forall_mem_cons.mpr ⟨lw_p23, List.forall_mem_cons.mpr ⟨lw_p24, List.forall_mem_cons.mpr ⟨lw_p25, List.forall_mem_cons.mpr ⟨lw_p26, List.forall_mem_cons.mpr ⟨lw_p27, List.forall_mem_cons.mpr ⟨lw_p28, List.forall_mem_cons.mpr ⟨lw_p29, List.forall_mem_cons.mpr ⟨lw_p30, List.forall_mem_cons.mpr ⟨lw_p31, fun _ h => absurd h List.not_mem_nil⟩⟩⟩⟩⟩⟩⟩⟩⟩⟩⟩⟩⟩⟩⟩⟩
theorem lw_p32 : lw_okq (⟨"RopeDanceModel", "putThem", "(II)V"⟩, 25) := ⟨⟨by decide +kernel, by decide +kernel⟩, List.mem_of_getElem? (i := 616) (by decide +kernel), List.mem_of_getElem? (i := 809) (by decide +kernel), List.mem_of_getElem? (i := 810) (by decide +kernel)⟩
theorem lw_p33 : lw_okq (⟨"RopeDanceModel", "search", "(IIII)V"⟩, 25) := ⟨⟨by decide +kernel, by decide +kernel⟩, List.mem_of_getElem? (i := 616) (by decide +kernel), List.mem_of_getElem? (i := 826) (by decide +kernel), List.mem_of_getElem? (i := 827) (by decide +kernel)⟩
theorem lw_p34 : lw_okq (⟨"RopeDanceModel", "dancesRow", "(II)Z"⟩, 25) := ⟨⟨by decide +kernel, by decide +kernel⟩, List.mem_of_getElem? (i := 616) (by decide +kernel), List.mem_of_getElem? (i := 833) (by decide +kernel), List.mem_of_getElem? (i := 834) (by decide +kernel)⟩
theorem lw_p35 : lw_okq (⟨"RopeDanceModel", "isWound", "(II)Z"⟩, 25) := ⟨⟨by decide +kernel, by decide +kernel⟩, List.mem_of_getElem? (i := 616) (by decide +kernel), List.mem_of_getElem? (i := 837) (by decide +kernel), List.mem_of_getElem? (i := 838) (by decide +kernel)⟩
theorem lw_p36 : lw_okq (⟨"RopeDanceModel", "areBeside", "(II)Z"⟩, 25) := ⟨⟨by decide +kernel, by decide +kernel⟩, List.mem_of_getElem? (i := 616) (by decide +kernel), List.mem_of_getElem? (i := 841) (by decide +kernel), List.mem_of_getElem? (i := 842) (by decide +kernel)⟩
theorem lw_p37 : lw_okq (⟨"RopeDanceModel", "tells", "(I)I"⟩, 25) := ⟨⟨by decide +kernel, by decide +kernel⟩, List.mem_of_getElem? (i := 616) (by decide +kernel), List.mem_of_getElem? (i := 845) (by decide +kernel), List.mem_of_getElem? (i := 846) (by decide +kernel)⟩
theorem lw_p38 : lw_okq (⟨"RopeDanceModel", "dancesOn", "(I)I"⟩, 25) := ⟨⟨by decide +kernel, by decide +kernel⟩, List.mem_of_getElem? (i := 616) (by decide +kernel), List.mem_of_getElem? (i := 878) (by decide +kernel), List.mem_of_getElem? (i := 879) (by decide +kernel)⟩
theorem lw_p39 : lw_okq (⟨"RopeDanceModel", "dancesFirst", "(I)Z"⟩, 25) := ⟨⟨by decide +kernel, by decide +kernel⟩, List.mem_of_getElem? (i := 616) (by decide +kernel), List.mem_of_getElem? (i := 887) (by decide +kernel), List.mem_of_getElem? (i := 888) (by decide +kernel)⟩
theorem lw_p40 : lw_okq (⟨"RopeDanceModel", "kindSet", "(I)I"⟩, 25) := ⟨⟨by decide +kernel, by decide +kernel⟩, List.mem_of_getElem? (i := 616) (by decide +kernel), List.mem_of_getElem? (i := 904) (by decide +kernel), List.mem_of_getElem? (i := 905) (by decide +kernel)⟩
theorem lw_p41 : lw_okq (⟨"RopeDanceModel", "isAsSeen", "()Z"⟩, 25) := ⟨⟨by decide +kernel, by decide +kernel⟩, List.mem_of_getElem? (i := 616) (by decide +kernel), List.mem_of_getElem? (i := 908) (by decide +kernel), List.mem_of_getElem? (i := 909) (by decide +kernel)⟩
theorem lw_p42 : lw_okq (⟨"RopeDanceModel", "partBy", "(III)I"⟩, 25) := ⟨⟨by decide +kernel, by decide +kernel⟩, List.mem_of_getElem? (i := 616) (by decide +kernel), List.mem_of_getElem? (i := 916) (by decide +kernel), List.mem_of_getElem? (i := 917) (by decide +kernel)⟩
theorem lw_p43 : lw_okq (⟨"RopeDanceModel", "greater", "()I"⟩, 25) := ⟨⟨by decide +kernel, by decide +kernel⟩, List.mem_of_getElem? (i := 616) (by decide +kernel), List.mem_of_getElem? (i := 929) (by decide +kernel), List.mem_of_getElem? (i := 930) (by decide +kernel)⟩
theorem lw_p44 : lw_okq (⟨"RopeDanceModel", "better", "(IIZ)I"⟩, 25) := ⟨⟨by decide +kernel, by decide +kernel⟩, List.mem_of_getElem? (i := 616) (by decide +kernel), List.mem_of_getElem? (i := 933) (by decide +kernel), List.mem_of_getElem? (i := 934) (by decide +kernel)⟩
def lw_privs_3 : List (MethodName × Nat) := [(⟨"RopeDanceModel", "putThem", "(II)V"⟩, 25), (⟨"RopeDanceModel", "search", "(IIII)V"⟩, 25), (⟨"RopeDanceModel", "dancesRow", "(II)Z"⟩, 25), (⟨"RopeDanceModel", "isWound", "(II)Z"⟩, 25), (⟨"RopeDanceModel", "areBeside", "(II)Z"⟩, 25), (⟨"RopeDanceModel", "tells", "(I)I"⟩, 25), (⟨"RopeDanceModel", "dancesOn", "(I)I"⟩, 25), (⟨"RopeDanceModel", "dancesFirst", "(I)Z"⟩, 25), (⟨"RopeDanceModel", "kindSet", "(I)I"⟩, 25), (⟨"RopeDanceModel", "isAsSeen", "()Z"⟩, 25), (⟨"RopeDanceModel", "partBy", "(III)I"⟩, 25), (⟨"RopeDanceModel", "greater", "()I"⟩, 25), (⟨"RopeDanceModel", "better", "(IIZ)I"⟩, 25)]
theorem lw_r3 : ∀ q ∈ lw_privs_3, lw_okq q := List.forall_mem_cons.mpr ⟨lw_p32, List.forall_mem_cons.mpr ⟨lw_p33, List.forall_mem_cons.mpr ⟨lw_p34, List.forall_mem_cons.mpr ⟨lw_p35, List.forall_mem_cons.mpr ⟨lw_p36, List.forall_mem_cons.mpr ⟨lw_p37, List.forall_mem_cons.mpr ⟨lw_p38, List.forall_mem_cons.mpr ⟨lw_p39, List.forall_mem_cons.mpr ⟨lw_p40, List.forall_mem_cons.mpr ⟨lw_p41, List.forall_mem_cons.mpr ⟨lw_p42, List.forall_mem_cons.mpr ⟨lw_p43, List.forall_mem_cons.mpr ⟨lw_p44, fun _ h => absurd h List.not_mem_nil⟩⟩⟩⟩⟩⟩⟩⟩⟩⟩⟩⟩⟩
def lw_privs : List (MethodName × Nat) := lw_privs_1 ++ (lw_privs_2 ++ (lw_privs_3))
def lw_tbl : List Cond := k2_sels lw_privs ++ tables_1
theorem lw_privs_ok : ∀ q ∈ lw_privs, lw_okq q := by
  show ∀ q ∈ lw_privs_1 ++ (lw_privs_2 ++ (lw_privs_3)), lw_okq q
  exact List.forall_mem_append.mpr ⟨lw_r1, List.forall_mem_append.mpr ⟨lw_r2, lw_r3⟩⟩
def RX0 : String := "RopeDance$Pile"
def TX0 : u_T := fun k => match k with
  | 0 => ("RopeDance$Pile", "stands", "[LRopeDance$Stand;", true)
  | 1 => ("RopeDance$Pile", "next", "I", false)
  | _ => ("RopeDance$Pile", "size", "I", false)
def tyX0 : Nat → FieldType := fun k => match k with
  | 0 => .array (.object "RopeDance$Stand")
  | 1 => .int
  | _ => .int
abbrev wsX00 : List Cond := u_ws RX0 TX0 3
theorem nmX0 : ∀ a, a < 3 → ∀ b, b < 3 → a ≠ b → (TX0 a).2.1 ≠ (TX0 b).2.1 := by decide +kernel
theorem tyX0_ok : ∀ k, k < 3 → parseFieldDescriptor (TX0 k).2.2.1 = some (tyX0 k) := by decide +kernel
abbrev cX0_init : ByteArray := prog_2_method_1_code
def yX0_init : MethodName := ⟨RX0, "<init>", "(I)V"⟩
abbrev cX0_isFull : ByteArray := prog_2_method_2_code
def yX0_isFull : MethodName := ⟨RX0, "isFull", "()Z"⟩
abbrev cX0_push : ByteArray := prog_2_method_3_code
def yX0_push : MethodName := ⟨RX0, "push", "(LRopeDance$Stand;)V"⟩
abbrev cX0_pop : ByteArray := prog_2_method_4_code
def yX0_pop : MethodName := ⟨RX0, "pop", "(LRopeDance$Stand;)Z"⟩
abbrev cX0_clear : ByteArray := prog_2_method_5_code
def yX0_clear : MethodName := ⟨RX0, "clear", "()V"⟩
def RX1 : String := "RopeDance$Script"
def TX1 : u_T := fun k => match k with
  | 0 => ("RopeDance$Script", "letters", "[B", true)
  | 1 => ("RopeDance$Script", "length", "I", false)
  | 2 => ("RopeDance$Script", "kindBits", "I", false)
  | 3 => ("RopeDance$Script", "figureBits", "I", false)
  | 4 => ("RopeDance$Script", "figureCount", "I", false)
  | _ => ("RopeDance$Script", "placeBits", "I", false)
def tyX1 : Nat → FieldType := fun k => match k with
  | 0 => .array .byte
  | 1 => .int
  | 2 => .int
  | 3 => .int
  | 4 => .int
  | _ => .int
abbrev wsX10 : List Cond := u_ws RX1 TX1 6
theorem nmX1 : ∀ a, a < 6 → ∀ b, b < 6 → a ≠ b → (TX1 a).2.1 ≠ (TX1 b).2.1 := by decide +kernel
theorem tyX1_ok : ∀ k, k < 6 → parseFieldDescriptor (TX1 k).2.2.1 = some (tyX1 k) := by decide +kernel
abbrev cX1_init : ByteArray := prog_3_method_1_code
def yX1_init : MethodName := ⟨RX1, "<init>", "()V"⟩
abbrev cX1_add : ByteArray := prog_3_method_2_code
def yX1_add : MethodName := ⟨RX1, "add", "(I)Z"⟩
abbrev cX1_clear : ByteArray := prog_3_method_3_code
def yX1_clear : MethodName := ⟨RX1, "clear", "()V"⟩
abbrev cX1_firstFault : ByteArray := prog_3_method_4_code
def yX1_firstFault : MethodName := ⟨RX1, "firstFault", "()I"⟩
abbrev cX1_tellsDance : ByteArray := prog_3_method_5_code
def yX1_tellsDance : MethodName := ⟨RX1, "tellsDance", "()Z"⟩
abbrev cX1_orderBits : ByteArray := prog_3_method_6_code
def yX1_orderBits : MethodName := ⟨RX1, "orderBits", "()I"⟩
abbrev cX1_areApart : ByteArray := prog_3_method_7_code
def yX1_areApart : MethodName := ⟨RX1, "areApart", "()Z"⟩
abbrev cX1_readItems : ByteArray := prog_3_method_8_code
def yX1_readItems : MethodName := ⟨RX1, "readItems", "()V"⟩
abbrev cX1_readItem : ByteArray := prog_3_method_9_code
def yX1_readItem : MethodName := ⟨RX1, "readItem", "(I)V"⟩
abbrev cX1_endOfItem : ByteArray := prog_3_method_10_code
def yX1_endOfItem : MethodName := ⟨RX1, "endOfItem", "(I)I"⟩
abbrev cX1_endOfPair : ByteArray := prog_3_method_11_code
def yX1_endOfPair : MethodName := ⟨RX1, "endOfPair", "(II)I"⟩
abbrev cX1_isNumber : ByteArray := prog_3_method_12_code
def yX1_isNumber : MethodName := ⟨RX1, "isNumber", "(II)Z"⟩
abbrev cX1_letterAt : ByteArray := prog_3_method_13_code
def yX1_letterAt : MethodName := ⟨RX1, "letterAt", "(I)I"⟩
def RX2 : String := "RopeDance$Search"
def TX2 : u_T := fun k => match k with
  | 0 => ("RopeDance$Search", "levels", "[LRopeDance$Stand;", true)
  | 1 => ("RopeDance$Search", "kindBits", "I", false)
  | 2 => ("RopeDance$Search", "forMeeting", "Z", false)
  | 3 => ("RopeDance$Search", "goalU", "I", false)
  | 4 => ("RopeDance$Search", "goalL", "I", false)
  | 5 => ("RopeDance$Search", "oneDancer", "I", false)
  | 6 => ("RopeDance$Search", "otherDancer", "I", false)
  | 7 => ("RopeDance$Search", "fewest", "I", false)
  | _ => ("RopeDance$Search", "fewestRow", "I", false)
def tyX2 : Nat → FieldType := fun k => match k with
  | 0 => .array (.object "RopeDance$Stand")
  | 1 => .int
  | 2 => .boolean
  | 3 => .int
  | 4 => .int
  | 5 => .int
  | 6 => .int
  | 7 => .int
  | _ => .int
abbrev wsX20 : List Cond := u_ws RX2 TX2 9
theorem nmX2 : ∀ a, a < 9 → ∀ b, b < 9 → a ≠ b → (TX2 a).2.1 ≠ (TX2 b).2.1 := by decide +kernel
theorem tyX2_ok : ∀ k, k < 9 → parseFieldDescriptor (TX2 k).2.2.1 = some (tyX2 k) := by decide +kernel
abbrev cX2_init : ByteArray := prog_4_method_1_code
def yX2_init : MethodName := ⟨RX2, "<init>", "()V"⟩
abbrev cX2_aimAtWound : ByteArray := prog_4_method_2_code
def yX2_aimAtWound : MethodName := ⟨RX2, "aimAtWound", "(II)V"⟩
abbrev cX2_aimAtMeeting : ByteArray := prog_4_method_3_code
def yX2_aimAtMeeting : MethodName := ⟨RX2, "aimAtMeeting", "(II)V"⟩
abbrev cX2_startFrom : ByteArray := prog_4_method_4_code
def yX2_startFrom : MethodName := ⟨RX2, "startFrom", "(LRopeDance$Stand;I)V"⟩
abbrev cX2_isFound : ByteArray := prog_4_method_5_code
def yX2_isFound : MethodName := ⟨RX2, "isFound", "()Z"⟩
abbrev cX2_isAtGoal : ByteArray := prog_4_method_6_code
def yX2_isAtGoal : MethodName := ⟨RX2, "isAtGoal", "(I)Z"⟩
abbrev cX2_goOn : ByteArray := prog_4_method_7_code
def yX2_goOn : MethodName := ⟨RX2, "goOn", "(II)Z"⟩
abbrev cX2_greaterPart : ByteArray := prog_4_method_8_code
def yX2_greaterPart : MethodName := ⟨RX2, "greaterPart", "(I)I"⟩
abbrev cX2_seek : ByteArray := prog_4_method_9_code
def yX2_seek : MethodName := ⟨RX2, "seek", "(LRopeDance$Search;II)V"⟩
abbrev cX2_rowsFrom : ByteArray := prog_4_method_10_code
def yX2_rowsFrom : MethodName := ⟨RX2, "rowsFrom", "(LRopeDance$Search;II)I"⟩
abbrev cX2_bestFrom : ByteArray := prog_4_method_11_code
def yX2_bestFrom : MethodName := ⟨RX2, "bestFrom", "(LRopeDance$Search;II)I"⟩
abbrev cX2_better : ByteArray := prog_4_method_12_code
def yX2_better : MethodName := ⟨RX2, "better", "(ZII)I"⟩
abbrev cX2_chanceFrom : ByteArray := prog_4_method_13_code
def yX2_chanceFrom : MethodName := ⟨RX2, "chanceFrom", "(LRopeDance$Search;IIII)I"⟩
def RX3 : String := "RopeDance$Stand"
def TX3 : u_T := fun k => match k with
  | 0 => ("RopeDance$Stand", "order", "I", false)
  | 1 => ("RopeDance$Stand", "ropes", "I", false)
  | 2 => ("RopeDance$Stand", "u", "I", false)
  | 3 => ("RopeDance$Stand", "l", "I", false)
  | 4 => ("RopeDance$Stand", "last", "I", false)
  | _ => ("RopeDance$Stand", "beats", "I", false)
def tyX3 : Nat → FieldType := fun k => match k with
  | 0 => .int
  | 1 => .int
  | 2 => .int
  | 3 => .int
  | 4 => .int
  | _ => .int
abbrev wsX30 : List Cond := u_ws RX3 TX3 6
theorem nmX3 : ∀ a, a < 6 → ∀ b, b < 6 → a ≠ b → (TX3 a).2.1 ≠ (TX3 b).2.1 := by decide +kernel
theorem tyX3_ok : ∀ k, k < 6 → parseFieldDescriptor (TX3 k).2.2.1 = some (tyX3 k) := by decide +kernel
abbrev cX3_init : ByteArray := prog_5_method_1_code
def yX3_init : MethodName := ⟨RX3, "<init>", "()V"⟩
abbrev cX3_begin : ByteArray := prog_5_method_2_code
def yX3_begin : MethodName := ⟨RX3, "begin", "(I)V"⟩
abbrev cX3_take : ByteArray := prog_5_method_3_code
def yX3_take : MethodName := ⟨RX3, "take", "(LRopeDance$Stand;)V"⟩
abbrev cX3_whoAt : ByteArray := prog_5_method_4_code
def yX3_whoAt : MethodName := ⟨RX3, "whoAt", "(I)I"⟩
abbrev cX3_placeOf : ByteArray := prog_5_method_5_code
def yX3_placeOf : MethodName := ⟨RX3, "placeOf", "(I)I"⟩
abbrev cX3_ropeOf : ByteArray := prog_5_method_6_code
def yX3_ropeOf : MethodName := ⟨RX3, "ropeOf", "(I)I"⟩
abbrev cX3_twistsOf : ByteArray := prog_5_method_7_code
def yX3_twistsOf : MethodName := ⟨RX3, "twistsOf", "(II)I"⟩
abbrev cX3_isWoundAs : ByteArray := prog_5_method_8_code
def yX3_isWoundAs : MethodName := ⟨RX3, "isWoundAs", "(II)Z"⟩
abbrev cX3_woundCode : ByteArray := prog_5_method_9_code
def yX3_woundCode : MethodName := ⟨RX3, "woundCode", "()I"⟩
abbrev cX3_isTooTight : ByteArray := prog_5_method_10_code
def yX3_isTooTight : MethodName := ⟨RX3, "isTooTight", "(I)Z"⟩
abbrev cX3_step : ByteArray := prog_5_method_11_code
def yX3_step : MethodName := ⟨RX3, "step", "(II)Z"⟩
abbrev cX3_exchange : ByteArray := prog_5_method_12_code
def yX3_exchange : MethodName := ⟨RX3, "exchange", "(II)V"⟩
abbrev cX3_turnAll : ByteArray := prog_5_method_13_code
def yX3_turnAll : MethodName := ⟨RX3, "turnAll", "()V"⟩
abbrev cX3_swapPlaces : ByteArray := prog_5_method_14_code
def yX3_swapPlaces : MethodName := ⟨RX3, "swapPlaces", "(II)V"⟩
def RX4 : String := "RopeDance"
def TX4 : u_T := fun k => match k with
  | 0 => ("RopeDance", "script", "LRopeDance$Script;", true)
  | 1 => ("RopeDance", "now", "LRopeDance$Stand;", true)
  | 2 => ("RopeDance", "trial", "LRopeDance$Stand;", true)
  | 3 => ("RopeDance", "past", "LRopeDance$Pile;", true)
  | 4 => ("RopeDance", "shelf", "LRopeDance$Pile;", true)
  | 5 => ("RopeDance", "search", "LRopeDance$Search;", true)
  | 6 => ("RopeDance", "seenRows", "[I", true)
  | 7 => ("RopeDance", "seenU", "[I", true)
  | 8 => ("RopeDance", "seenL", "[I", true)
  | 9 => ("RopeDance", "codes", "[I", true)
  | 10 => ("RopeDance", "seenCount", "I", false)
  | 11 => ("RopeDance", "ownKinds", "I", false)
  | 12 => ("RopeDance", "figures", "I", false)
  | _ => ("RopeDance", "figureCount", "I", false)
def tyX4 : Nat → FieldType := fun k => match k with
  | 0 => .object "RopeDance$Script"
  | 1 => .object "RopeDance$Stand"
  | 2 => .object "RopeDance$Stand"
  | 3 => .object "RopeDance$Pile"
  | 4 => .object "RopeDance$Pile"
  | 5 => .object "RopeDance$Search"
  | 6 => .array .int
  | 7 => .array .int
  | 8 => .array .int
  | 9 => .array .int
  | 10 => .int
  | 11 => .int
  | 12 => .int
  | _ => .int
abbrev wsX40 : List Cond := u_ws RX4 TX4 14
theorem nmX4 : ∀ a, a < 14 → ∀ b, b < 14 → a ≠ b → (TX4 a).2.1 ≠ (TX4 b).2.1 := by decide +kernel
theorem tyX4_ok : ∀ k, k < 14 → parseFieldDescriptor (TX4 k).2.2.1 = some (tyX4 k) := by decide +kernel
abbrev cX4_init : ByteArray := prog_1_method_1_code
def yX4_init : MethodName := ⟨RX4, "<init>", "()V"⟩
abbrev cX4_write : ByteArray := prog_1_method_2_code
def yX4_write : MethodName := ⟨RX4, "write", "(I)I"⟩
abbrev cX4_wipe : ByteArray := prog_1_method_3_code
def yX4_wipe : MethodName := ⟨RX4, "wipe", "()I"⟩
abbrev cX4_fault : ByteArray := prog_1_method_4_code
def yX4_fault : MethodName := ⟨RX4, "fault", "()I"⟩
abbrev cX4_lay : ByteArray := prog_1_method_5_code
def yX4_lay : MethodName := ⟨RX4, "lay", "()I"⟩
abbrev cX4_dancer : ByteArray := prog_1_method_6_code
def yX4_dancer : MethodName := ⟨RX4, "dancer", "(II)I"⟩
abbrev cX4_place : ByteArray := prog_1_method_7_code
def yX4_place : MethodName := ⟨RX4, "place", "(II)I"⟩
abbrev cX4_wound : ByteArray := prog_1_method_8_code
def yX4_wound : MethodName := ⟨RX4, "wound", "(I)I"⟩
abbrev cX4_row : ByteArray := prog_1_method_9_code
def yX4_row : MethodName := ⟨RX4, "row", "(I)I"⟩
abbrev cX4_dance : ByteArray := prog_1_method_10_code
def yX4_dance : MethodName := ⟨RX4, "dance", "(I)I"⟩
abbrev cX4_put : ByteArray := prog_1_method_11_code
def yX4_put : MethodName := ⟨RX4, "put", "(II)I"⟩
abbrev cX4_undo : ByteArray := prog_1_method_12_code
def yX4_undo : MethodName := ⟨RX4, "undo", "()I"⟩
abbrev cX4_free : ByteArray := prog_1_method_13_code
def yX4_free : MethodName := ⟨RX4, "free", "(I)I"⟩
abbrev cX4_reach : ByteArray := prog_1_method_14_code
def yX4_reach : MethodName := ⟨RX4, "reach", "(III)I"⟩
abbrev cX4_meet : ByteArray := prog_1_method_15_code
def yX4_meet : MethodName := ⟨RX4, "meet", "(III)I"⟩
abbrev cX4_ways : ByteArray := prog_1_method_16_code
def yX4_ways : MethodName := ⟨RX4, "ways", "(I)I"⟩
abbrev cX4_plain : ByteArray := prog_1_method_17_code
def yX4_plain : MethodName := ⟨RX4, "plain", "()I"⟩
abbrev cX4_comes : ByteArray := prog_1_method_18_code
def yX4_comes : MethodName := ⟨RX4, "comes", "(I)I"⟩
abbrev cX4_behind : ByteArray := prog_1_method_19_code
def yX4_behind : MethodName := ⟨RX4, "behind", "(II)I"⟩
abbrev cX4_see : ByteArray := prog_1_method_20_code
def yX4_see : MethodName := ⟨RX4, "see", "(III)I"⟩
abbrev cX4_forget : ByteArray := prog_1_method_21_code
def yX4_forget : MethodName := ⟨RX4, "forget", "()I"⟩
abbrev cX4_kinds : ByteArray := prog_1_method_22_code
def yX4_kinds : MethodName := ⟨RX4, "kinds", "(I)I"⟩
abbrev cX4_look : ByteArray := prog_1_method_23_code
def yX4_look : MethodName := ⟨RX4, "look", "(II)I"⟩
abbrev cX4_danced : ByteArray := prog_1_method_24_code
def yX4_danced : MethodName := ⟨RX4, "danced", "(I)I"⟩
abbrev cX4_duel : ByteArray := prog_1_method_25_code
def yX4_duel : MethodName := ⟨RX4, "duel", "(I)I"⟩
abbrev cX4_odds : ByteArray := prog_1_method_26_code
def yX4_odds : MethodName := ⟨RX4, "odds", "(III)I"⟩
abbrev cX4_evening : ByteArray := prog_1_method_27_code
def yX4_evening : MethodName := ⟨RX4, "evening", "(III)I"⟩
abbrev cX4_keep : ByteArray := prog_1_method_28_code
def yX4_keep : MethodName := ⟨RX4, "keep", "()I"⟩
abbrev cX4_back : ByteArray := prog_1_method_29_code
def yX4_back : MethodName := ⟨RX4, "back", "()I"⟩
abbrev cX4_count : ByteArray := prog_1_method_30_code
def yX4_count : MethodName := ⟨RX4, "count", "(I)I"⟩
abbrev cX4_takeScript : ByteArray := prog_1_method_31_code
def yX4_takeScript : MethodName := ⟨RX4, "takeScript", "()V"⟩
abbrev cX4_figureOfFewest : ByteArray := prog_1_method_32_code
def yX4_figureOfFewest : MethodName := ⟨RX4, "figureOfFewest", "(I)I"⟩
abbrev cX4_tryRow : ByteArray := prog_1_method_33_code
def yX4_tryRow : MethodName := ⟨RX4, "tryRow", "(II)Z"⟩
abbrev cX4_possibleKinds : ByteArray := prog_1_method_34_code
def yX4_possibleKinds : MethodName := ⟨RX4, "possibleKinds", "(I)I"⟩
abbrev cX4_explainsSeen : ByteArray := prog_1_method_35_code
def yX4_explainsSeen : MethodName := ⟨RX4, "explainsSeen", "(I)Z"⟩
abbrev cX4_greatestPart : ByteArray := prog_1_method_36_code
def yX4_greatestPart : MethodName := ⟨RX4, "greatestPart", "(III)I"⟩
abbrev cX4_partOf : ByteArray := prog_1_method_37_code
def yX4_partOf : MethodName := ⟨RX4, "partOf", "(I)I"⟩
abbrev cX4_drawOf : ByteArray := prog_1_method_38_code
def yX4_drawOf : MethodName := ⟨RX4, "drawOf", "(II)I"⟩
abbrev cX4_isDancer : ByteArray := prog_1_method_39_code
def yX4_isDancer : MethodName := ⟨RX4, "isDancer", "(I)Z"⟩
abbrev cX4_areTwo : ByteArray := prog_1_method_40_code
def yX4_areTwo : MethodName := ⟨RX4, "areTwo", "(II)Z"⟩
abbrev cX4_isRowIndex : ByteArray := prog_1_method_41_code
def yX4_isRowIndex : MethodName := ⟨RX4, "isRowIndex", "(I)Z"⟩
abbrev cX4_isRowLength : ByteArray := prog_1_method_42_code
def yX4_isRowLength : MethodName := ⟨RX4, "isRowLength", "(I)Z"⟩
abbrev cX4_isFraction : ByteArray := prog_1_method_43_code
def yX4_isFraction : MethodName := ⟨RX4, "isFraction", "(II)Z"⟩
abbrev cX4_commonDivisor : ByteArray := prog_1_method_44_code
def yX4_commonDivisor : MethodName := ⟨RX4, "commonDivisor", "(II)I"⟩
abbrev cX4_pairAt : ByteArray := prog_1_method_45_code
def yX4_pairAt : MethodName := ⟨RX4, "pairAt", "(II)I"⟩
abbrev cX4_kindOf : ByteArray := prog_1_method_46_code
def yX4_kindOf : MethodName := ⟨RX4, "kindOf", "(II)I"⟩
abbrev cX4_withKind : ByteArray := prog_1_method_47_code
def yX4_withKind : MethodName := ⟨RX4, "withKind", "(III)I"⟩
def RX5 : String := "RopeDanceModel"
def TX5 : u_T := fun k => match k with
  | 0 => ("RopeDanceModel", "kinds", "[I", true)
  | 1 => ("RopeDanceModel", "firsts", "[I", true)
  | 2 => ("RopeDanceModel", "row", "[I", true)
  | 3 => ("RopeDanceModel", "rowMany", "I", false)
  | 4 => ("RopeDanceModel", "st", "[I", true)
  | 5 => ("RopeDanceModel", "past", "[I", true)
  | 6 => ("RopeDanceModel", "undoMany", "I", false)
  | 7 => ("RopeDanceModel", "kept", "[I", true)
  | 8 => ("RopeDanceModel", "keptMany", "I", false)
  | 9 => ("RopeDanceModel", "seen", "[I", true)
  | 10 => ("RopeDanceModel", "seenMany", "I", false)
  | 11 => ("RopeDanceModel", "text", "[I", true)
  | 12 => ("RopeDanceModel", "length", "I", false)
  | 13 => ("RopeDanceModel", "newKinds", "[I", true)
  | 14 => ("RopeDanceModel", "newFirsts", "[I", true)
  | 15 => ("RopeDanceModel", "newRow", "[I", true)
  | 16 => ("RopeDanceModel", "newMany", "I", false)
  | 17 => ("RopeDanceModel", "at", "I", false)
  | 18 => ("RopeDanceModel", "net", "I", false)
  | 19 => ("RopeDanceModel", "aside", "[I", true)
  | 20 => ("RopeDanceModel", "fewest", "I", false)
  | 21 => ("RopeDanceModel", "found", "I", false)
  | 22 => ("RopeDanceModel", "comesTo", "[I", true)
  | 23 => ("RopeDanceModel", "plainKinds", "[I", true)
  | _ => ("RopeDanceModel", "folds", "[I", true)
def tyX5 : Nat → FieldType := fun k => match k with
  | 0 => .array .int
  | 1 => .array .int
  | 2 => .array .int
  | 3 => .int
  | 4 => .array .int
  | 5 => .array .int
  | 6 => .int
  | 7 => .array .int
  | 8 => .int
  | 9 => .array .int
  | 10 => .int
  | 11 => .array .int
  | 12 => .int
  | 13 => .array .int
  | 14 => .array .int
  | 15 => .array .int
  | 16 => .int
  | 17 => .int
  | 18 => .int
  | 19 => .array .int
  | 20 => .int
  | 21 => .int
  | 22 => .array .int
  | 23 => .array .int
  | _ => .array .int
abbrev wsX50 : List Cond := u_ws RX5 TX5 25
theorem nmX5 : ∀ a, a < 25 → ∀ b, b < 25 → a ≠ b → (TX5 a).2.1 ≠ (TX5 b).2.1 := by decide +kernel
theorem tyX5_ok : ∀ k, k < 25 → parseFieldDescriptor (TX5 k).2.2.1 = some (tyX5 k) := by decide +kernel
abbrev cX5_init : ByteArray := prog_7_method_1_code
def yX5_init : MethodName := ⟨RX5, "<init>", "()V"⟩
abbrev cX5_in : ByteArray := prog_7_method_2_code
def yX5_in : MethodName := ⟨RX5, "in", "(JJJ)Z"⟩
abbrev cX5_isPart : ByteArray := prog_7_method_3_code
def yX5_isPart : MethodName := ⟨RX5, "isPart", "(I)Z"⟩
abbrev cX5_isOne : ByteArray := prog_7_method_4_code
def yX5_isOne : MethodName := ⟨RX5, "isOne", "(I)Z"⟩
abbrev cX5_begin : ByteArray := prog_7_method_5_code
def yX5_begin : MethodName := ⟨RX5, "begin", "()V"⟩
abbrev cX5_write : ByteArray := prog_7_method_6_code
def yX5_write : MethodName := ⟨RX5, "write", "(I)I"⟩
abbrev cX5_wipe : ByteArray := prog_7_method_7_code
def yX5_wipe : MethodName := ⟨RX5, "wipe", "()I"⟩
abbrev cX5_letter : ByteArray := prog_7_method_8_code
def yX5_letter : MethodName := ⟨RX5, "letter", "(I)I"⟩
abbrev cX5_figureAt : ByteArray := prog_7_method_9_code
def yX5_figureAt : MethodName := ⟨RX5, "figureAt", "(II)I"⟩
abbrev cX5_readItem : ByteArray := prog_7_method_10_code
def yX5_readItem : MethodName := ⟨RX5, "readItem", "(I)I"⟩
abbrev cX5_fault : ByteArray := prog_7_method_11_code
def yX5_fault : MethodName := ⟨RX5, "fault", "()I"⟩
abbrev cX5_lay : ByteArray := prog_7_method_12_code
def yX5_lay : MethodName := ⟨RX5, "lay", "()I"⟩
abbrev cX5_placeOf : ByteArray := prog_7_method_13_code
def yX5_placeOf : MethodName := ⟨RX5, "placeOf", "(I)I"⟩
abbrev cX5_dancer : ByteArray := prog_7_method_14_code
def yX5_dancer : MethodName := ⟨RX5, "dancer", "(II)I"⟩
abbrev cX5_place : ByteArray := prog_7_method_15_code
def yX5_place : MethodName := ⟨RX5, "place", "(II)I"⟩
abbrev cX5_wound : ByteArray := prog_7_method_16_code
def yX5_wound : MethodName := ⟨RX5, "wound", "(I)I"⟩
abbrev cX5_row : ByteArray := prog_7_method_17_code
def yX5_row : MethodName := ⟨RX5, "row", "(I)I"⟩
abbrev cX5_common : ByteArray := prog_7_method_18_code
def yX5_common : MethodName := ⟨RX5, "common", "(II)I"⟩
abbrev cX5_isTight : ByteArray := prog_7_method_19_code
def yX5_isTight : MethodName := ⟨RX5, "isTight", "(II)Z"⟩
abbrev cX5_windsBy : ByteArray := prog_7_method_20_code
def yX5_windsBy : MethodName := ⟨RX5, "windsBy", "(I)I"⟩
abbrev cX5_changePlaces : ByteArray := prog_7_method_21_code
def yX5_changePlaces : MethodName := ⟨RX5, "changePlaces", "(II)V"⟩
abbrev cX5_winds : ByteArray := prog_7_method_22_code
def yX5_winds : MethodName := ⟨RX5, "winds", "(I)Z"⟩
abbrev cX5_turns : ByteArray := prog_7_method_23_code
def yX5_turns : MethodName := ⟨RX5, "turns", "()Z"⟩
abbrev cX5_dances : ByteArray := prog_7_method_24_code
def yX5_dances : MethodName := ⟨RX5, "dances", "(I)Z"⟩
abbrev cX5_note : ByteArray := prog_7_method_25_code
def yX5_note : MethodName := ⟨RX5, "note", "()V"⟩
abbrev cX5_dance : ByteArray := prog_7_method_26_code
def yX5_dance : MethodName := ⟨RX5, "dance", "(I)I"⟩
abbrev cX5_putThem : ByteArray := prog_7_method_27_code
def yX5_putThem : MethodName := ⟨RX5, "putThem", "(II)V"⟩
abbrev cX5_put : ByteArray := prog_7_method_28_code
def yX5_put : MethodName := ⟨RX5, "put", "(II)I"⟩
abbrev cX5_undo : ByteArray := prog_7_method_29_code
def yX5_undo : MethodName := ⟨RX5, "undo", "()I"⟩
abbrev cX5_putAside : ByteArray := prog_7_method_30_code
def yX5_putAside : MethodName := ⟨RX5, "putAside", "()V"⟩
abbrev cX5_takeBack : ByteArray := prog_7_method_31_code
def yX5_takeBack : MethodName := ⟨RX5, "takeBack", "()V"⟩
abbrev cX5_rowsOf : ByteArray := prog_7_method_32_code
def yX5_rowsOf : MethodName := ⟨RX5, "rowsOf", "(II)I"⟩
abbrev cX5_dancesRow : ByteArray := prog_7_method_33_code
def yX5_dancesRow : MethodName := ⟨RX5, "dancesRow", "(II)Z"⟩
abbrev cX5_isWound : ByteArray := prog_7_method_34_code
def yX5_isWound : MethodName := ⟨RX5, "isWound", "(II)Z"⟩
abbrev cX5_areBeside : ByteArray := prog_7_method_35_code
def yX5_areBeside : MethodName := ⟨RX5, "areBeside", "(II)Z"⟩
abbrev cX5_search : ByteArray := prog_7_method_36_code
def yX5_search : MethodName := ⟨RX5, "search", "(IIII)V"⟩
abbrev cX5_tells : ByteArray := prog_7_method_37_code
def yX5_tells : MethodName := ⟨RX5, "tells", "(I)I"⟩
abbrev cX5_isPlaceOfRow : ByteArray := prog_7_method_38_code
def yX5_isPlaceOfRow : MethodName := ⟨RX5, "isPlaceOfRow", "(I)Z"⟩
abbrev cX5_free : ByteArray := prog_7_method_39_code
def yX5_free : MethodName := ⟨RX5, "free", "(I)I"⟩
abbrev cX5_isFraction : ByteArray := prog_7_method_40_code
def yX5_isFraction : MethodName := ⟨RX5, "isFraction", "(II)Z"⟩
abbrev cX5_reach : ByteArray := prog_7_method_41_code
def yX5_reach : MethodName := ⟨RX5, "reach", "(III)I"⟩
abbrev cX5_meet : ByteArray := prog_7_method_42_code
def yX5_meet : MethodName := ⟨RX5, "meet", "(III)I"⟩
abbrev cX5_ways : ByteArray := prog_7_method_43_code
def yX5_ways : MethodName := ⟨RX5, "ways", "(I)I"⟩
abbrev cX5_plain : ByteArray := prog_7_method_44_code
def yX5_plain : MethodName := ⟨RX5, "plain", "()I"⟩
abbrev cX5_dancesOn : ByteArray := prog_7_method_45_code
def yX5_dancesOn : MethodName := ⟨RX5, "dancesOn", "(I)I"⟩
abbrev cX5_dancesFirst : ByteArray := prog_7_method_46_code
def yX5_dancesFirst : MethodName := ⟨RX5, "dancesFirst", "(I)Z"⟩
abbrev cX5_comes : ByteArray := prog_7_method_47_code
def yX5_comes : MethodName := ⟨RX5, "comes", "(I)I"⟩
abbrev cX5_behind : ByteArray := prog_7_method_48_code
def yX5_behind : MethodName := ⟨RX5, "behind", "(II)I"⟩
abbrev cX5_see : ByteArray := prog_7_method_49_code
def yX5_see : MethodName := ⟨RX5, "see", "(III)I"⟩
abbrev cX5_forget : ByteArray := prog_7_method_50_code
def yX5_forget : MethodName := ⟨RX5, "forget", "()I"⟩
abbrev cX5_isAsSeen : ByteArray := prog_7_method_51_code
def yX5_isAsSeen : MethodName := ⟨RX5, "isAsSeen", "()Z"⟩
abbrev cX5_kindSet : ByteArray := prog_7_method_52_code
def yX5_kindSet : MethodName := ⟨RX5, "kindSet", "(I)I"⟩
abbrev cX5_kinds : ByteArray := prog_7_method_53_code
def yX5_kinds : MethodName := ⟨RX5, "kinds", "(I)I"⟩
abbrev cX5_partBy : ByteArray := prog_7_method_54_code
def yX5_partBy : MethodName := ⟨RX5, "partBy", "(III)I"⟩
abbrev cX5_look : ByteArray := prog_7_method_55_code
def yX5_look : MethodName := ⟨RX5, "look", "(II)I"⟩
abbrev cX5_danced : ByteArray := prog_7_method_56_code
def yX5_danced : MethodName := ⟨RX5, "danced", "(I)I"⟩
abbrev cX5_greater : ByteArray := prog_7_method_57_code
def yX5_greater : MethodName := ⟨RX5, "greater", "()I"⟩
abbrev cX5_better : ByteArray := prog_7_method_58_code
def yX5_better : MethodName := ⟨RX5, "better", "(IIZ)I"⟩
abbrev cX5_duel : ByteArray := prog_7_method_59_code
def yX5_duel : MethodName := ⟨RX5, "duel", "(I)I"⟩
abbrev cX5_odds : ByteArray := prog_7_method_60_code
def yX5_odds : MethodName := ⟨RX5, "odds", "(III)I"⟩
abbrev cX5_evening : ByteArray := prog_7_method_61_code
def yX5_evening : MethodName := ⟨RX5, "evening", "(III)I"⟩
abbrev cX5_keep : ByteArray := prog_7_method_62_code
def yX5_keep : MethodName := ⟨RX5, "keep", "()I"⟩
abbrev cX5_back : ByteArray := prog_7_method_63_code
def yX5_back : MethodName := ⟨RX5, "back", "()I"⟩
abbrev cX5_count : ByteArray := prog_7_method_64_code
def yX5_count : MethodName := ⟨RX5, "count", "(I)I"⟩
def RJ6 : String := "java/lang/Integer"
def TJ6 : u_T := fun k => match k with
  | _ => ("", "", "", false)
def tyJ6 : Nat → FieldType := fun k => match k with
  | _ => .int
abbrev wsJ60 : List Cond := u_ws RJ6 TJ6 0
theorem nmJ6 : ∀ a, a < 0 → ∀ b, b < 0 → a ≠ b → (TJ6 a).2.1 ≠ (TJ6 b).2.1 := by decide +kernel
theorem tyJ6_ok : ∀ k, k < 0 → parseFieldDescriptor (TJ6 k).2.2.1 = some (tyJ6 k) := by decide +kernel
abbrev cJ6_bitCount_0f7a4 : ByteArray := prog_8_method_49_code
def yJ6_bitCount_0f7a4 : MethodName := ⟨RJ6, "bitCount", "(I)I"⟩
def RJ9 : String := "java/lang/Math"
def TJ9 : u_T := fun k => match k with
  | _ => ("", "", "", false)
def tyJ9 : Nat → FieldType := fun k => match k with
  | _ => .int
abbrev wsJ90 : List Cond := u_ws RJ9 TJ9 0
theorem nmJ9 : ∀ a, a < 0 → ∀ b, b < 0 → a ≠ b → (TJ9 a).2.1 ≠ (TJ9 b).2.1 := by decide +kernel
theorem tyJ9_ok : ∀ k, k < 0 → parseFieldDescriptor (TJ9 k).2.2.1 = some (tyJ9 k) := by decide +kernel
abbrev cJ9_abs_0f7a4 : ByteArray := prog_9_method_59_code
def yJ9_abs_0f7a4 : MethodName := ⟨RJ9, "abs", "(I)I"⟩
abbrev cJ9_max_7cf53 : ByteArray := prog_9_method_65_code
def yJ9_max_7cf53 : MethodName := ⟨RJ9, "max", "(II)I"⟩
abbrev cJ9_min_7cf53 : ByteArray := prog_9_method_69_code
def yJ9_min_7cf53 : MethodName := ⟨RJ9, "min", "(II)I"⟩
def RJ0 : String := "java/lang/String"
def TJ0 : u_T := fun k => match k with
  | _ => ("", "", "", false)
def tyJ0 : Nat → FieldType := fun k => match k with
  | _ => .int
abbrev wsJ00 : List Cond := u_ws RJ0 TJ0 0
theorem nmJ0 : ∀ a, a < 0 → ∀ b, b < 0 → a ≠ b → (TJ0 a).2.1 ≠ (TJ0 b).2.1 := by decide +kernel
theorem tyJ0_ok : ∀ k, k < 0 → parseFieldDescriptor (TJ0 k).2.2.1 = some (tyJ0 k) := by decide +kernel
abbrev cJ0_length_8abf5 : ByteArray := prog_10_method_54_code
def yJ0_length_8abf5 : MethodName := ⟨RJ0, "length", "()I"⟩
abbrev cJ0_charAt_5068e : ByteArray := prog_10_method_56_code
def yJ0_charAt_5068e : MethodName := ⟨RJ0, "charAt", "(I)C"⟩
abbrev cJ0_coder_7d493 : ByteArray := prog_10_method_152_code
def yJ0_coder_7d493 : MethodName := ⟨RJ0, "coder", "()B"⟩
abbrev cJ0_isLatin1_aae02 : ByteArray := prog_10_method_154_code
def yJ0_isLatin1_aae02 : MethodName := ⟨RJ0, "isLatin1", "()Z"⟩
abbrev cJ0_checkIndex_df160 : ByteArray := prog_10_method_155_code
def yJ0_checkIndex_df160 : MethodName := ⟨RJ0, "checkIndex", "(II)V"⟩
def RJ1 : String := "java/lang/StringLatin1"
def TJ1 : u_T := fun k => match k with
  | _ => ("", "", "", false)
def tyJ1 : Nat → FieldType := fun k => match k with
  | _ => .int
abbrev wsJ10 : List Cond := u_ws RJ1 TJ1 0
theorem nmJ1 : ∀ a, a < 0 → ∀ b, b < 0 → a ≠ b → (TJ1 a).2.1 ≠ (TJ1 b).2.1 := by decide +kernel
theorem tyJ1_ok : ∀ k, k < 0 → parseFieldDescriptor (TJ1 k).2.2.1 = some (tyJ1 k) := by decide +kernel
abbrev cJ1_charAt_3b067 : ByteArray := prog_11_method_2_code
def yJ1_charAt_3b067 : MethodName := ⟨RJ1, "charAt", "([BI)C"⟩
def RJ2 : String := "java/lang/StringUTF16"
def TJ2 : u_T := fun k => match k with
  | _ => ("", "", "", false)
def tyJ2 : Nat → FieldType := fun k => match k with
  | _ => .int
abbrev wsJ20 : List Cond := u_ws RJ2 TJ2 0
theorem nmJ2 : ∀ a, a < 0 → ∀ b, b < 0 → a ≠ b → (TJ2 a).2.1 ≠ (TJ2 b).2.1 := by decide +kernel
theorem tyJ2_ok : ∀ k, k < 0 → parseFieldDescriptor (TJ2 k).2.2.1 = some (tyJ2 k) := by decide +kernel
abbrev cJ2_getChar_3b067 : ByteArray := prog_12_method_5_code
def yJ2_getChar_3b067 : MethodName := ⟨RJ2, "getChar", "([BI)C"⟩
abbrev cJ2_length_9d52b : ByteArray := prog_12_method_6_code
def yJ2_length_9d52b : MethodName := ⟨RJ2, "length", "([B)I"⟩
abbrev cJ2_charAt_3b067 : ByteArray := prog_12_method_83_code
def yJ2_charAt_3b067 : MethodName := ⟨RJ2, "charAt", "([BI)C"⟩
abbrev cJ2_checkIndex_2214a : ByteArray := prog_12_method_91_code
def yJ2_checkIndex_2214a : MethodName := ⟨RJ2, "checkIndex", "(I[B)V"⟩
def RJ3 : String := "jdk/internal/util/Preconditions"
def TJ3 : u_T := fun k => match k with
  | _ => ("", "", "", false)
def tyJ3 : Nat → FieldType := fun k => match k with
  | _ => .int
abbrev wsJ30 : List Cond := u_ws RJ3 TJ3 0
theorem nmJ3 : ∀ a, a < 0 → ∀ b, b < 0 → a ≠ b → (TJ3 a).2.1 ≠ (TJ3 b).2.1 := by decide +kernel
theorem tyJ3_ok : ∀ k, k < 0 → parseFieldDescriptor (TJ3 k).2.2.1 = some (tyJ3 k) := by decide +kernel
abbrev cJ3_checkIndex_8e157 : ByteArray := prog_13_method_11_code
def yJ3_checkIndex_8e157 : MethodName := ⟨RJ3, "checkIndex", "(IILjava/util/function/BiFunction;)I"⟩
def RL : String := "RopeDanceLaw"
abbrev cL_law : ByteArray := code
def yL_law : MethodName := ⟨RL, "law", "([I)Z"⟩
abbrev vwCl : List vw_C := [(RX0, TX0, 3), (RX1, TX1, 6), (RX2, TX2, 9), (RX3, TX3, 6), (RX4, TX4, 14), (RX5, TX5, 25)]
end
section
theorem dX0_init_0 : decode cX0_init 0 = .ok (.aload_n 0, 1) := by decide +kernel
theorem dX0_init_1 : decode cX0_init 1 = .ok (.invokespecial 1, 3) := by decide +kernel
theorem dX0_init_4 : decode cX0_init 4 = .ok (.aload_n 0, 1) := by decide +kernel
theorem dX0_init_5 : decode cX0_init 5 = .ok (.iconst 1, 1) := by decide +kernel
theorem dX0_init_6 : decode cX0_init 6 = .ok (.iload_n 1, 1) := by decide +kernel
theorem dX0_init_7 : decode cX0_init 7 = .ok (.invokestatic 7, 3) := by decide +kernel
theorem dX0_init_10 : decode cX0_init 10 = .ok (.anewarray 13, 3) := by decide +kernel
theorem dX0_init_13 : decode cX0_init 13 = .ok (.putfield 15, 3) := by decide +kernel
theorem dX0_init_16 : decode cX0_init 16 = .ok (.iconst 0, 1) := by decide +kernel
theorem dX0_init_17 : decode cX0_init 17 = .ok (.istore_n 2, 1) := by decide +kernel
theorem dX0_init_18 : decode cX0_init 18 = .ok (.iload_n 2, 1) := by decide +kernel
theorem dX0_init_19 : decode cX0_init 19 = .ok (.aload_n 0, 1) := by decide +kernel
theorem dX0_init_20 : decode cX0_init 20 = .ok (.getfield 15, 3) := by decide +kernel
theorem dX0_init_23 : decode cX0_init 23 = .ok (.arraylength, 1) := by decide +kernel
theorem dX0_init_24 : decode cX0_init 24 = .ok (.if_icmp .ge 22, 3) := by decide +kernel
theorem dX0_init_27 : decode cX0_init 27 = .ok (.aload_n 0, 1) := by decide +kernel
theorem dX0_init_28 : decode cX0_init 28 = .ok (.getfield 15, 3) := by decide +kernel
theorem dX0_init_31 : decode cX0_init 31 = .ok (.iload_n 2, 1) := by decide +kernel
theorem dX0_init_32 : decode cX0_init 32 = .ok (.new 13, 3) := by decide +kernel
theorem dX0_init_35 : decode cX0_init 35 = .ok (.dup, 1) := by decide +kernel
theorem dX0_init_36 : decode cX0_init 36 = .ok (.invokespecial 21, 3) := by decide +kernel
theorem dX0_init_39 : decode cX0_init 39 = .ok (.aastore, 1) := by decide +kernel
theorem dX0_init_40 : decode cX0_init 40 = .ok (.iinc 2 1, 3) := by decide +kernel
theorem dX0_init_43 : decode cX0_init 43 = .ok (.goto (-25), 3) := by decide +kernel
theorem dX0_init_46 : decode cX0_init 46 = .ok (.return_, 1) := by decide +kernel
theorem dX0_isFull_0 : decode cX0_isFull 0 = .ok (.aload_n 0, 1) := by decide +kernel
theorem dX0_isFull_1 : decode cX0_isFull 1 = .ok (.getfield 22, 3) := by decide +kernel
theorem dX0_isFull_4 : decode cX0_isFull 4 = .ok (.aload_n 0, 1) := by decide +kernel
theorem dX0_isFull_5 : decode cX0_isFull 5 = .ok (.getfield 15, 3) := by decide +kernel
theorem dX0_isFull_8 : decode cX0_isFull 8 = .ok (.arraylength, 1) := by decide +kernel
theorem dX0_isFull_9 : decode cX0_isFull 9 = .ok (.if_icmp .lt 7, 3) := by decide +kernel
theorem dX0_isFull_12 : decode cX0_isFull 12 = .ok (.iconst 1, 1) := by decide +kernel
theorem dX0_isFull_13 : decode cX0_isFull 13 = .ok (.goto 4, 3) := by decide +kernel
theorem dX0_isFull_16 : decode cX0_isFull 16 = .ok (.iconst 0, 1) := by decide +kernel
theorem dX0_isFull_17 : decode cX0_isFull 17 = .ok (.ireturn, 1) := by decide +kernel
theorem dX0_push_0 : decode cX0_push 0 = .ok (.aload_n 0, 1) := by decide +kernel
theorem dX0_push_1 : decode cX0_push 1 = .ok (.getfield 26, 3) := by decide +kernel
theorem dX0_push_4 : decode cX0_push 4 = .ok (.ifCond .lt 15, 3) := by decide +kernel
theorem dX0_push_7 : decode cX0_push 7 = .ok (.aload_n 0, 1) := by decide +kernel
theorem dX0_push_8 : decode cX0_push 8 = .ok (.getfield 26, 3) := by decide +kernel
theorem dX0_push_11 : decode cX0_push 11 = .ok (.aload_n 0, 1) := by decide +kernel
theorem dX0_push_12 : decode cX0_push 12 = .ok (.getfield 15, 3) := by decide +kernel
theorem dX0_push_15 : decode cX0_push 15 = .ok (.arraylength, 1) := by decide +kernel
theorem dX0_push_16 : decode cX0_push 16 = .ok (.if_icmp .lt 8, 3) := by decide +kernel
theorem dX0_push_19 : decode cX0_push 19 = .ok (.aload_n 0, 1) := by decide +kernel
theorem dX0_push_20 : decode cX0_push 20 = .ok (.iconst 0, 1) := by decide +kernel
theorem dX0_push_21 : decode cX0_push 21 = .ok (.putfield 26, 3) := by decide +kernel
theorem dX0_push_24 : decode cX0_push 24 = .ok (.aload_n 0, 1) := by decide +kernel
theorem dX0_push_25 : decode cX0_push 25 = .ok (.getfield 15, 3) := by decide +kernel
theorem dX0_push_28 : decode cX0_push 28 = .ok (.aload_n 0, 1) := by decide +kernel
theorem dX0_push_29 : decode cX0_push 29 = .ok (.getfield 26, 3) := by decide +kernel
theorem dX0_push_32 : decode cX0_push 32 = .ok (.aaload, 1) := by decide +kernel
theorem dX0_push_33 : decode cX0_push 33 = .ok (.aload_n 1, 1) := by decide +kernel
theorem dX0_push_34 : decode cX0_push 34 = .ok (.invokevirtual 29, 3) := by decide +kernel
theorem dX0_push_37 : decode cX0_push 37 = .ok (.aload_n 0, 1) := by decide +kernel
theorem dX0_push_38 : decode cX0_push 38 = .ok (.dup, 1) := by decide +kernel
theorem dX0_push_39 : decode cX0_push 39 = .ok (.getfield 26, 3) := by decide +kernel
theorem dX0_push_42 : decode cX0_push 42 = .ok (.iconst 1, 1) := by decide +kernel
theorem dX0_push_43 : decode cX0_push 43 = .ok (.iadd, 1) := by decide +kernel
theorem dX0_push_44 : decode cX0_push 44 = .ok (.putfield 26, 3) := by decide +kernel
theorem dX0_push_47 : decode cX0_push 47 = .ok (.aload_n 0, 1) := by decide +kernel
theorem dX0_push_48 : decode cX0_push 48 = .ok (.aload_n 0, 1) := by decide +kernel
theorem dX0_push_49 : decode cX0_push 49 = .ok (.getfield 22, 3) := by decide +kernel
theorem dX0_push_52 : decode cX0_push 52 = .ok (.iconst 1, 1) := by decide +kernel
theorem dX0_push_53 : decode cX0_push 53 = .ok (.iadd, 1) := by decide +kernel
theorem dX0_push_54 : decode cX0_push 54 = .ok (.aload_n 0, 1) := by decide +kernel
theorem dX0_push_55 : decode cX0_push 55 = .ok (.getfield 15, 3) := by decide +kernel
theorem dX0_push_58 : decode cX0_push 58 = .ok (.arraylength, 1) := by decide +kernel
theorem dX0_push_59 : decode cX0_push 59 = .ok (.invokestatic 33, 3) := by decide +kernel
theorem dX0_push_62 : decode cX0_push 62 = .ok (.putfield 22, 3) := by decide +kernel
theorem dX0_push_65 : decode cX0_push 65 = .ok (.return_, 1) := by decide +kernel
theorem dX0_pop_0 : decode cX0_pop 0 = .ok (.aload_n 0, 1) := by decide +kernel
theorem dX0_pop_1 : decode cX0_pop 1 = .ok (.getfield 22, 3) := by decide +kernel
theorem dX0_pop_4 : decode cX0_pop 4 = .ok (.ifCond .gt 5, 3) := by decide +kernel
theorem dX0_pop_7 : decode cX0_pop 7 = .ok (.iconst 0, 1) := by decide +kernel
theorem dX0_pop_8 : decode cX0_pop 8 = .ok (.ireturn, 1) := by decide +kernel
theorem dX0_pop_9 : decode cX0_pop 9 = .ok (.aload_n 0, 1) := by decide +kernel
theorem dX0_pop_10 : decode cX0_pop 10 = .ok (.aload_n 0, 1) := by decide +kernel
theorem dX0_pop_11 : decode cX0_pop 11 = .ok (.getfield 26, 3) := by decide +kernel
theorem dX0_pop_14 : decode cX0_pop 14 = .ok (.ifCond .le 24, 3) := by decide +kernel
theorem dX0_pop_17 : decode cX0_pop 17 = .ok (.aload_n 0, 1) := by decide +kernel
theorem dX0_pop_18 : decode cX0_pop 18 = .ok (.getfield 26, 3) := by decide +kernel
theorem dX0_pop_21 : decode cX0_pop 21 = .ok (.aload_n 0, 1) := by decide +kernel
theorem dX0_pop_22 : decode cX0_pop 22 = .ok (.getfield 15, 3) := by decide +kernel
theorem dX0_pop_25 : decode cX0_pop 25 = .ok (.arraylength, 1) := by decide +kernel
theorem dX0_pop_26 : decode cX0_pop 26 = .ok (.if_icmp .gt 12, 3) := by decide +kernel
theorem dX0_pop_29 : decode cX0_pop 29 = .ok (.aload_n 0, 1) := by decide +kernel
theorem dX0_pop_30 : decode cX0_pop 30 = .ok (.getfield 26, 3) := by decide +kernel
theorem dX0_pop_33 : decode cX0_pop 33 = .ok (.iconst 1, 1) := by decide +kernel
theorem dX0_pop_34 : decode cX0_pop 34 = .ok (.isub, 1) := by decide +kernel
theorem dX0_pop_35 : decode cX0_pop 35 = .ok (.goto 10, 3) := by decide +kernel
theorem dX0_pop_38 : decode cX0_pop 38 = .ok (.aload_n 0, 1) := by decide +kernel
theorem dX0_pop_39 : decode cX0_pop 39 = .ok (.getfield 15, 3) := by decide +kernel
theorem dX0_pop_42 : decode cX0_pop 42 = .ok (.arraylength, 1) := by decide +kernel
theorem dX0_pop_43 : decode cX0_pop 43 = .ok (.iconst 1, 1) := by decide +kernel
theorem dX0_pop_44 : decode cX0_pop 44 = .ok (.isub, 1) := by decide +kernel
theorem dX0_pop_45 : decode cX0_pop 45 = .ok (.putfield 26, 3) := by decide +kernel
theorem dX0_pop_48 : decode cX0_pop 48 = .ok (.aload_n 1, 1) := by decide +kernel
theorem dX0_pop_49 : decode cX0_pop 49 = .ok (.aload_n 0, 1) := by decide +kernel
theorem dX0_pop_50 : decode cX0_pop 50 = .ok (.getfield 15, 3) := by decide +kernel
theorem dX0_pop_53 : decode cX0_pop 53 = .ok (.aload_n 0, 1) := by decide +kernel
theorem dX0_pop_54 : decode cX0_pop 54 = .ok (.getfield 26, 3) := by decide +kernel
theorem dX0_pop_57 : decode cX0_pop 57 = .ok (.aaload, 1) := by decide +kernel
theorem dX0_pop_58 : decode cX0_pop 58 = .ok (.invokevirtual 29, 3) := by decide +kernel
theorem dX0_pop_61 : decode cX0_pop 61 = .ok (.aload_n 0, 1) := by decide +kernel
theorem dX0_pop_62 : decode cX0_pop 62 = .ok (.dup, 1) := by decide +kernel
theorem dX0_pop_63 : decode cX0_pop 63 = .ok (.getfield 22, 3) := by decide +kernel
theorem dX0_pop_66 : decode cX0_pop 66 = .ok (.iconst 1, 1) := by decide +kernel
theorem dX0_pop_67 : decode cX0_pop 67 = .ok (.isub, 1) := by decide +kernel
theorem dX0_pop_68 : decode cX0_pop 68 = .ok (.putfield 22, 3) := by decide +kernel
theorem dX0_pop_71 : decode cX0_pop 71 = .ok (.iconst 1, 1) := by decide +kernel
theorem dX0_pop_72 : decode cX0_pop 72 = .ok (.ireturn, 1) := by decide +kernel
theorem dX0_clear_0 : decode cX0_clear 0 = .ok (.aload_n 0, 1) := by decide +kernel
theorem dX0_clear_1 : decode cX0_clear 1 = .ok (.iconst 0, 1) := by decide +kernel
theorem dX0_clear_2 : decode cX0_clear 2 = .ok (.putfield 22, 3) := by decide +kernel
theorem dX0_clear_5 : decode cX0_clear 5 = .ok (.return_, 1) := by decide +kernel
theorem dX1_init_0 : decode cX1_init 0 = .ok (.aload_n 0, 1) := by decide +kernel
theorem dX1_init_1 : decode cX1_init 1 = .ok (.invokespecial 3, 3) := by decide +kernel
theorem dX1_init_4 : decode cX1_init 4 = .ok (.aload_n 0, 1) := by decide +kernel
theorem dX1_init_5 : decode cX1_init 5 = .ok (.sipush 200, 3) := by decide +kernel
theorem dX1_init_8 : decode cX1_init 8 = .ok (.newarray .byte, 2) := by decide +kernel
theorem dX1_init_10 : decode cX1_init 10 = .ok (.putfield 9, 3) := by decide +kernel
theorem dX1_init_13 : decode cX1_init 13 = .ok (.return_, 1) := by decide +kernel
theorem dX1_add_0 : decode cX1_add 0 = .ok (.aload_n 0, 1) := by decide +kernel
theorem dX1_add_1 : decode cX1_add 1 = .ok (.getfield 15, 3) := by decide +kernel
theorem dX1_add_4 : decode cX1_add 4 = .ok (.ifCond .lt 15, 3) := by decide +kernel
theorem dX1_add_7 : decode cX1_add 7 = .ok (.aload_n 0, 1) := by decide +kernel
theorem dX1_add_8 : decode cX1_add 8 = .ok (.getfield 15, 3) := by decide +kernel
theorem dX1_add_11 : decode cX1_add 11 = .ok (.aload_n 0, 1) := by decide +kernel
theorem dX1_add_12 : decode cX1_add 12 = .ok (.getfield 9, 3) := by decide +kernel
theorem dX1_add_15 : decode cX1_add 15 = .ok (.arraylength, 1) := by decide +kernel
theorem dX1_add_16 : decode cX1_add 16 = .ok (.if_icmp .lt 5, 3) := by decide +kernel
theorem dX1_add_19 : decode cX1_add 19 = .ok (.iconst 0, 1) := by decide +kernel
theorem dX1_add_20 : decode cX1_add 20 = .ok (.ireturn, 1) := by decide +kernel
theorem dX1_add_21 : decode cX1_add 21 = .ok (.aload_n 0, 1) := by decide +kernel
theorem dX1_add_22 : decode cX1_add 22 = .ok (.getfield 9, 3) := by decide +kernel
theorem dX1_add_25 : decode cX1_add 25 = .ok (.aload_n 0, 1) := by decide +kernel
theorem dX1_add_26 : decode cX1_add 26 = .ok (.getfield 15, 3) := by decide +kernel
theorem dX1_add_29 : decode cX1_add 29 = .ok (.iload_n 1, 1) := by decide +kernel
theorem dX1_add_30 : decode cX1_add 30 = .ok (.i2b, 1) := by decide +kernel
theorem dX1_add_31 : decode cX1_add 31 = .ok (.bastore, 1) := by decide +kernel
theorem dX1_add_32 : decode cX1_add 32 = .ok (.aload_n 0, 1) := by decide +kernel
theorem dX1_add_33 : decode cX1_add 33 = .ok (.dup, 1) := by decide +kernel
theorem dX1_add_34 : decode cX1_add 34 = .ok (.getfield 15, 3) := by decide +kernel
theorem dX1_add_37 : decode cX1_add 37 = .ok (.iconst 1, 1) := by decide +kernel
theorem dX1_add_38 : decode cX1_add 38 = .ok (.iadd, 1) := by decide +kernel
theorem dX1_add_39 : decode cX1_add 39 = .ok (.putfield 15, 3) := by decide +kernel
theorem dX1_add_42 : decode cX1_add 42 = .ok (.iconst 1, 1) := by decide +kernel
theorem dX1_add_43 : decode cX1_add 43 = .ok (.ireturn, 1) := by decide +kernel
theorem dX1_clear_0 : decode cX1_clear 0 = .ok (.aload_n 0, 1) := by decide +kernel
theorem dX1_clear_1 : decode cX1_clear 1 = .ok (.iconst 0, 1) := by decide +kernel
theorem dX1_clear_2 : decode cX1_clear 2 = .ok (.putfield 15, 3) := by decide +kernel
theorem dX1_clear_5 : decode cX1_clear 5 = .ok (.return_, 1) := by decide +kernel
theorem dX1_firstFault_0 : decode cX1_firstFault 0 = .ok (.iconst 0, 1) := by decide +kernel
theorem dX1_firstFault_1 : decode cX1_firstFault 1 = .ok (.istore_n 1, 1) := by decide +kernel
theorem dX1_firstFault_2 : decode cX1_firstFault 2 = .ok (.iconst 0, 1) := by decide +kernel
theorem dX1_firstFault_3 : decode cX1_firstFault 3 = .ok (.istore_n 2, 1) := by decide +kernel
theorem dX1_firstFault_4 : decode cX1_firstFault 4 = .ok (.iconst 0, 1) := by decide +kernel
theorem dX1_firstFault_5 : decode cX1_firstFault 5 = .ok (.istore_n 3, 1) := by decide +kernel
theorem dX1_firstFault_6 : decode cX1_firstFault 6 = .ok (.iload_n 3, 1) := by decide +kernel
theorem dX1_firstFault_7 : decode cX1_firstFault 7 = .ok (.sipush 200, 3) := by decide +kernel
theorem dX1_firstFault_10 : decode cX1_firstFault 10 = .ok (.if_icmp .ge 54, 3) := by decide +kernel
theorem dX1_firstFault_13 : decode cX1_firstFault 13 = .ok (.iload_n 1, 1) := by decide +kernel
theorem dX1_firstFault_14 : decode cX1_firstFault 14 = .ok (.aload_n 0, 1) := by decide +kernel
theorem dX1_firstFault_15 : decode cX1_firstFault 15 = .ok (.getfield 15, 3) := by decide +kernel
theorem dX1_firstFault_18 : decode cX1_firstFault 18 = .ok (.if_icmp .ge 46, 3) := by decide +kernel
theorem dX1_firstFault_21 : decode cX1_firstFault 21 = .ok (.aload_n 0, 1) := by decide +kernel
theorem dX1_firstFault_22 : decode cX1_firstFault 22 = .ok (.iload_n 1, 1) := by decide +kernel
theorem dX1_firstFault_23 : decode cX1_firstFault 23 = .ok (.invokevirtual 19, 3) := by decide +kernel
theorem dX1_firstFault_26 : decode cX1_firstFault 26 = .ok (.istore 4, 2) := by decide +kernel
theorem dX1_firstFault_28 : decode cX1_firstFault 28 = .ok (.aload_n 0, 1) := by decide +kernel
theorem dX1_firstFault_29 : decode cX1_firstFault 29 = .ok (.iload_n 1, 1) := by decide +kernel
theorem dX1_firstFault_30 : decode cX1_firstFault 30 = .ok (.invokevirtual 23, 3) := by decide +kernel
theorem dX1_firstFault_33 : decode cX1_firstFault 33 = .ok (.bipush 114, 2) := by decide +kernel
theorem dX1_firstFault_35 : decode cX1_firstFault 35 = .ok (.if_icmp .ne 6, 3) := by decide +kernel
theorem dX1_firstFault_38 : decode cX1_firstFault 38 = .ok (.iinc 2 1, 3) := by decide +kernel
theorem dX1_firstFault_41 : decode cX1_firstFault 41 = .ok (.iload 4, 2) := by decide +kernel
theorem dX1_firstFault_43 : decode cX1_firstFault 43 = .ok (.iconst (-1), 1) := by decide +kernel
theorem dX1_firstFault_44 : decode cX1_firstFault 44 = .ok (.if_icmp .eq 9, 3) := by decide +kernel
theorem dX1_firstFault_47 : decode cX1_firstFault 47 = .ok (.iload_n 2, 1) := by decide +kernel
theorem dX1_firstFault_48 : decode cX1_firstFault 48 = .ok (.bipush 12, 2) := by decide +kernel
theorem dX1_firstFault_50 : decode cX1_firstFault 50 = .ok (.if_icmp .le 5, 3) := by decide +kernel
theorem dX1_firstFault_53 : decode cX1_firstFault 53 = .ok (.iload_n 1, 1) := by decide +kernel
theorem dX1_firstFault_54 : decode cX1_firstFault 54 = .ok (.ireturn, 1) := by decide +kernel
theorem dX1_firstFault_55 : decode cX1_firstFault 55 = .ok (.iload 4, 2) := by decide +kernel
theorem dX1_firstFault_57 : decode cX1_firstFault 57 = .ok (.istore_n 1, 1) := by decide +kernel
theorem dX1_firstFault_58 : decode cX1_firstFault 58 = .ok (.iinc 3 1, 3) := by decide +kernel
theorem dX1_firstFault_61 : decode cX1_firstFault 61 = .ok (.goto (-55), 3) := by decide +kernel
theorem dX1_firstFault_64 : decode cX1_firstFault 64 = .ok (.bipush (-4), 2) := by decide +kernel
theorem dX1_firstFault_66 : decode cX1_firstFault 66 = .ok (.ireturn, 1) := by decide +kernel
theorem dX1_tellsDance_0 : decode cX1_tellsDance 0 = .ok (.aload_n 0, 1) := by decide +kernel
theorem dX1_tellsDance_1 : decode cX1_tellsDance 1 = .ok (.getfield 15, 3) := by decide +kernel
theorem dX1_tellsDance_4 : decode cX1_tellsDance 4 = .ok (.ifCond .eq 12, 3) := by decide +kernel
theorem dX1_tellsDance_7 : decode cX1_tellsDance 7 = .ok (.aload_n 0, 1) := by decide +kernel
theorem dX1_tellsDance_8 : decode cX1_tellsDance 8 = .ok (.invokevirtual 26, 3) := by decide +kernel
theorem dX1_tellsDance_11 : decode cX1_tellsDance 11 = .ok (.bipush (-4), 2) := by decide +kernel
theorem dX1_tellsDance_13 : decode cX1_tellsDance 13 = .ok (.if_icmp .eq 5, 3) := by decide +kernel
theorem dX1_tellsDance_16 : decode cX1_tellsDance 16 = .ok (.iconst 0, 1) := by decide +kernel
theorem dX1_tellsDance_17 : decode cX1_tellsDance 17 = .ok (.ireturn, 1) := by decide +kernel
theorem dX1_tellsDance_18 : decode cX1_tellsDance 18 = .ok (.aload_n 0, 1) := by decide +kernel
theorem dX1_tellsDance_19 : decode cX1_tellsDance 19 = .ok (.invokevirtual 30, 3) := by decide +kernel
theorem dX1_tellsDance_22 : decode cX1_tellsDance 22 = .ok (.aload_n 0, 1) := by decide +kernel
theorem dX1_tellsDance_23 : decode cX1_tellsDance 23 = .ok (.invokevirtual 33, 3) := by decide +kernel
theorem dX1_tellsDance_26 : decode cX1_tellsDance 26 = .ok (.ireturn, 1) := by decide +kernel
theorem dX1_orderBits_0 : decode cX1_orderBits 0 = .ok (.iconst 0, 1) := by decide +kernel
theorem dX1_orderBits_1 : decode cX1_orderBits 1 = .ok (.istore_n 1, 1) := by decide +kernel
theorem dX1_orderBits_2 : decode cX1_orderBits 2 = .ok (.iconst 0, 1) := by decide +kernel
theorem dX1_orderBits_3 : decode cX1_orderBits 3 = .ok (.istore_n 2, 1) := by decide +kernel
theorem dX1_orderBits_4 : decode cX1_orderBits 4 = .ok (.iload_n 2, 1) := by decide +kernel
theorem dX1_orderBits_5 : decode cX1_orderBits 5 = .ok (.iconst 4, 1) := by decide +kernel
theorem dX1_orderBits_6 : decode cX1_orderBits 6 = .ok (.if_icmp .ge 24, 3) := by decide +kernel
theorem dX1_orderBits_9 : decode cX1_orderBits 9 = .ok (.iload_n 1, 1) := by decide +kernel
theorem dX1_orderBits_10 : decode cX1_orderBits 10 = .ok (.iload_n 2, 1) := by decide +kernel
theorem dX1_orderBits_11 : decode cX1_orderBits 11 = .ok (.iconst 2, 1) := by decide +kernel
theorem dX1_orderBits_12 : decode cX1_orderBits 12 = .ok (.aload_n 0, 1) := by decide +kernel
theorem dX1_orderBits_13 : decode cX1_orderBits 13 = .ok (.getfield 37, 3) := by decide +kernel
theorem dX1_orderBits_16 : decode cX1_orderBits 16 = .ok (.iload_n 2, 1) := by decide +kernel
theorem dX1_orderBits_17 : decode cX1_orderBits 17 = .ok (.invokestatic 40, 3) := by decide +kernel
theorem dX1_orderBits_20 : decode cX1_orderBits 20 = .ok (.imul, 1) := by decide +kernel
theorem dX1_orderBits_21 : decode cX1_orderBits 21 = .ok (.ishl, 1) := by decide +kernel
theorem dX1_orderBits_22 : decode cX1_orderBits 22 = .ok (.ior, 1) := by decide +kernel
theorem dX1_orderBits_23 : decode cX1_orderBits 23 = .ok (.istore_n 1, 1) := by decide +kernel
theorem dX1_orderBits_24 : decode cX1_orderBits 24 = .ok (.iinc 2 1, 3) := by decide +kernel
theorem dX1_orderBits_27 : decode cX1_orderBits 27 = .ok (.goto (-23), 3) := by decide +kernel
theorem dX1_orderBits_30 : decode cX1_orderBits 30 = .ok (.iload_n 1, 1) := by decide +kernel
theorem dX1_orderBits_31 : decode cX1_orderBits 31 = .ok (.ireturn, 1) := by decide +kernel
theorem dX1_areApart_0 : decode cX1_areApart 0 = .ok (.iconst 0, 1) := by decide +kernel
theorem dX1_areApart_1 : decode cX1_areApart 1 = .ok (.istore_n 1, 1) := by decide +kernel
theorem dX1_areApart_2 : decode cX1_areApart 2 = .ok (.iconst 0, 1) := by decide +kernel
theorem dX1_areApart_3 : decode cX1_areApart 3 = .ok (.istore_n 2, 1) := by decide +kernel
theorem dX1_areApart_4 : decode cX1_areApart 4 = .ok (.iload_n 2, 1) := by decide +kernel
theorem dX1_areApart_5 : decode cX1_areApart 5 = .ok (.iconst 4, 1) := by decide +kernel
theorem dX1_areApart_6 : decode cX1_areApart 6 = .ok (.if_icmp .ge 22, 3) := by decide +kernel
theorem dX1_areApart_9 : decode cX1_areApart 9 = .ok (.iload_n 1, 1) := by decide +kernel
theorem dX1_areApart_10 : decode cX1_areApart 10 = .ok (.iconst 1, 1) := by decide +kernel
theorem dX1_areApart_11 : decode cX1_areApart 11 = .ok (.aload_n 0, 1) := by decide +kernel
theorem dX1_areApart_12 : decode cX1_areApart 12 = .ok (.getfield 37, 3) := by decide +kernel
theorem dX1_areApart_15 : decode cX1_areApart 15 = .ok (.iload_n 2, 1) := by decide +kernel
theorem dX1_areApart_16 : decode cX1_areApart 16 = .ok (.invokestatic 40, 3) := by decide +kernel
theorem dX1_areApart_19 : decode cX1_areApart 19 = .ok (.ishl, 1) := by decide +kernel
theorem dX1_areApart_20 : decode cX1_areApart 20 = .ok (.ior, 1) := by decide +kernel
theorem dX1_areApart_21 : decode cX1_areApart 21 = .ok (.istore_n 1, 1) := by decide +kernel
theorem dX1_areApart_22 : decode cX1_areApart 22 = .ok (.iinc 2 1, 3) := by decide +kernel
theorem dX1_areApart_25 : decode cX1_areApart 25 = .ok (.goto (-21), 3) := by decide +kernel
theorem dX1_areApart_28 : decode cX1_areApart 28 = .ok (.iload_n 1, 1) := by decide +kernel
theorem dX1_areApart_29 : decode cX1_areApart 29 = .ok (.invokestatic 44, 3) := by decide +kernel
theorem dX1_areApart_32 : decode cX1_areApart 32 = .ok (.iconst 4, 1) := by decide +kernel
theorem dX1_areApart_33 : decode cX1_areApart 33 = .ok (.if_icmp .ne 7, 3) := by decide +kernel
theorem dX1_areApart_36 : decode cX1_areApart 36 = .ok (.iconst 1, 1) := by decide +kernel
theorem dX1_areApart_37 : decode cX1_areApart 37 = .ok (.goto 4, 3) := by decide +kernel
theorem dX1_areApart_40 : decode cX1_areApart 40 = .ok (.iconst 0, 1) := by decide +kernel
theorem dX1_areApart_41 : decode cX1_areApart 41 = .ok (.ireturn, 1) := by decide +kernel
theorem dX1_readItems_0 : decode cX1_readItems 0 = .ok (.aload_n 0, 1) := by decide +kernel
theorem dX1_readItems_1 : decode cX1_readItems 1 = .ok (.iconst 0, 1) := by decide +kernel
theorem dX1_readItems_2 : decode cX1_readItems 2 = .ok (.putfield 49, 3) := by decide +kernel
theorem dX1_readItems_5 : decode cX1_readItems 5 = .ok (.aload_n 0, 1) := by decide +kernel
theorem dX1_readItems_6 : decode cX1_readItems 6 = .ok (.iconst 0, 1) := by decide +kernel
theorem dX1_readItems_7 : decode cX1_readItems 7 = .ok (.putfield 52, 3) := by decide +kernel
theorem dX1_readItems_10 : decode cX1_readItems 10 = .ok (.aload_n 0, 1) := by decide +kernel
theorem dX1_readItems_11 : decode cX1_readItems 11 = .ok (.iconst 0, 1) := by decide +kernel
theorem dX1_readItems_12 : decode cX1_readItems 12 = .ok (.putfield 55, 3) := by decide +kernel
theorem dX1_readItems_15 : decode cX1_readItems 15 = .ok (.aload_n 0, 1) := by decide +kernel
theorem dX1_readItems_16 : decode cX1_readItems 16 = .ok (.sipush 228, 3) := by decide +kernel
theorem dX1_readItems_19 : decode cX1_readItems 19 = .ok (.putfield 37, 3) := by decide +kernel
theorem dX1_readItems_22 : decode cX1_readItems 22 = .ok (.iconst 0, 1) := by decide +kernel
theorem dX1_readItems_23 : decode cX1_readItems 23 = .ok (.istore_n 1, 1) := by decide +kernel
theorem dX1_readItems_24 : decode cX1_readItems 24 = .ok (.iconst 0, 1) := by decide +kernel
theorem dX1_readItems_25 : decode cX1_readItems 25 = .ok (.istore_n 2, 1) := by decide +kernel
theorem dX1_readItems_26 : decode cX1_readItems 26 = .ok (.iload_n 2, 1) := by decide +kernel
theorem dX1_readItems_27 : decode cX1_readItems 27 = .ok (.sipush 200, 3) := by decide +kernel
theorem dX1_readItems_30 : decode cX1_readItems 30 = .ok (.if_icmp .ge 40, 3) := by decide +kernel
theorem dX1_readItems_33 : decode cX1_readItems 33 = .ok (.iload_n 1, 1) := by decide +kernel
theorem dX1_readItems_34 : decode cX1_readItems 34 = .ok (.aload_n 0, 1) := by decide +kernel
theorem dX1_readItems_35 : decode cX1_readItems 35 = .ok (.getfield 15, 3) := by decide +kernel
theorem dX1_readItems_38 : decode cX1_readItems 38 = .ok (.if_icmp .ge 32, 3) := by decide +kernel
theorem dX1_readItems_41 : decode cX1_readItems 41 = .ok (.aload_n 0, 1) := by decide +kernel
theorem dX1_readItems_42 : decode cX1_readItems 42 = .ok (.iload_n 1, 1) := by decide +kernel
theorem dX1_readItems_43 : decode cX1_readItems 43 = .ok (.invokevirtual 60, 3) := by decide +kernel
theorem dX1_readItems_46 : decode cX1_readItems 46 = .ok (.iload_n 1, 1) := by decide +kernel
theorem dX1_readItems_47 : decode cX1_readItems 47 = .ok (.aload_n 0, 1) := by decide +kernel
theorem dX1_readItems_48 : decode cX1_readItems 48 = .ok (.iload_n 1, 1) := by decide +kernel
theorem dX1_readItems_49 : decode cX1_readItems 49 = .ok (.invokevirtual 23, 3) := by decide +kernel
theorem dX1_readItems_52 : decode cX1_readItems 52 = .ok (.bipush 114, 2) := by decide +kernel
theorem dX1_readItems_54 : decode cX1_readItems 54 = .ok (.if_icmp .ne 7, 3) := by decide +kernel
theorem dX1_readItems_57 : decode cX1_readItems 57 = .ok (.iconst 3, 1) := by decide +kernel
theorem dX1_readItems_58 : decode cX1_readItems 58 = .ok (.goto 4, 3) := by decide +kernel
theorem dX1_readItems_61 : decode cX1_readItems 61 = .ok (.iconst 5, 1) := by decide +kernel
theorem dX1_readItems_62 : decode cX1_readItems 62 = .ok (.iadd, 1) := by decide +kernel
theorem dX1_readItems_63 : decode cX1_readItems 63 = .ok (.istore_n 1, 1) := by decide +kernel
theorem dX1_readItems_64 : decode cX1_readItems 64 = .ok (.iinc 2 1, 3) := by decide +kernel
theorem dX1_readItems_67 : decode cX1_readItems 67 = .ok (.goto (-41), 3) := by decide +kernel
theorem dX1_readItems_70 : decode cX1_readItems 70 = .ok (.return_, 1) := by decide +kernel
theorem dX1_readItem_0 : decode cX1_readItem 0 = .ok (.aload_n 0, 1) := by decide +kernel
theorem dX1_readItem_1 : decode cX1_readItem 1 = .ok (.iload_n 1, 1) := by decide +kernel
theorem dX1_readItem_2 : decode cX1_readItem 2 = .ok (.iconst 1, 1) := by decide +kernel
theorem dX1_readItem_3 : decode cX1_readItem 3 = .ok (.iadd, 1) := by decide +kernel
theorem dX1_readItem_4 : decode cX1_readItem 4 = .ok (.invokevirtual 23, 3) := by decide +kernel
theorem dX1_readItem_7 : decode cX1_readItem 7 = .ok (.bipush 48, 2) := by decide +kernel
theorem dX1_readItem_9 : decode cX1_readItem 9 = .ok (.isub, 1) := by decide +kernel
theorem dX1_readItem_10 : decode cX1_readItem 10 = .ok (.istore_n 2, 1) := by decide +kernel
theorem dX1_readItem_11 : decode cX1_readItem 11 = .ok (.aload_n 0, 1) := by decide +kernel
theorem dX1_readItem_12 : decode cX1_readItem 12 = .ok (.iload_n 1, 1) := by decide +kernel
theorem dX1_readItem_13 : decode cX1_readItem 13 = .ok (.iconst 3, 1) := by decide +kernel
theorem dX1_readItem_14 : decode cX1_readItem 14 = .ok (.iadd, 1) := by decide +kernel
theorem dX1_readItem_15 : decode cX1_readItem 15 = .ok (.invokevirtual 23, 3) := by decide +kernel
theorem dX1_readItem_18 : decode cX1_readItem 18 = .ok (.bipush 48, 2) := by decide +kernel
theorem dX1_readItem_20 : decode cX1_readItem 20 = .ok (.isub, 1) := by decide +kernel
theorem dX1_readItem_21 : decode cX1_readItem 21 = .ok (.istore_n 3, 1) := by decide +kernel
theorem dX1_readItem_22 : decode cX1_readItem 22 = .ok (.aload_n 0, 1) := by decide +kernel
theorem dX1_readItem_23 : decode cX1_readItem 23 = .ok (.iload_n 1, 1) := by decide +kernel
theorem dX1_readItem_24 : decode cX1_readItem 24 = .ok (.invokevirtual 23, 3) := by decide +kernel
theorem dX1_readItem_27 : decode cX1_readItem 27 = .ok (.lookupswitch 66 #[(100, 25), (112, 41)], 25) := by decide +kernel
theorem dX1_readItem_52 : decode cX1_readItem 52 = .ok (.aload_n 0, 1) := by decide +kernel
theorem dX1_readItem_53 : decode cX1_readItem 53 = .ok (.aload_n 0, 1) := by decide +kernel
theorem dX1_readItem_54 : decode cX1_readItem 54 = .ok (.getfield 49, 3) := by decide +kernel
theorem dX1_readItem_57 : decode cX1_readItem 57 = .ok (.iload_n 2, 1) := by decide +kernel
theorem dX1_readItem_58 : decode cX1_readItem 58 = .ok (.iload_n 3, 1) := by decide +kernel
theorem dX1_readItem_59 : decode cX1_readItem 59 = .ok (.invokestatic 64, 3) := by decide +kernel
theorem dX1_readItem_62 : decode cX1_readItem 62 = .ok (.putfield 49, 3) := by decide +kernel
theorem dX1_readItem_65 : decode cX1_readItem 65 = .ok (.goto 55, 3) := by decide +kernel
theorem dX1_readItem_68 : decode cX1_readItem 68 = .ok (.aload_n 0, 1) := by decide +kernel
theorem dX1_readItem_69 : decode cX1_readItem 69 = .ok (.aload_n 0, 1) := by decide +kernel
theorem dX1_readItem_70 : decode cX1_readItem 70 = .ok (.getfield 37, 3) := by decide +kernel
theorem dX1_readItem_73 : decode cX1_readItem 73 = .ok (.iconst 3, 1) := by decide +kernel
theorem dX1_readItem_74 : decode cX1_readItem 74 = .ok (.iconst 2, 1) := by decide +kernel
theorem dX1_readItem_75 : decode cX1_readItem 75 = .ok (.iload_n 2, 1) := by decide +kernel
theorem dX1_readItem_76 : decode cX1_readItem 76 = .ok (.imul, 1) := by decide +kernel
theorem dX1_readItem_77 : decode cX1_readItem 77 = .ok (.ishl, 1) := by decide +kernel
theorem dX1_readItem_78 : decode cX1_readItem 78 = .ok (.iconst (-1), 1) := by decide +kernel
theorem dX1_readItem_79 : decode cX1_readItem 79 = .ok (.ixor, 1) := by decide +kernel
theorem dX1_readItem_80 : decode cX1_readItem 80 = .ok (.iand, 1) := by decide +kernel
theorem dX1_readItem_81 : decode cX1_readItem 81 = .ok (.iload_n 3, 1) := by decide +kernel
theorem dX1_readItem_82 : decode cX1_readItem 82 = .ok (.iconst 2, 1) := by decide +kernel
theorem dX1_readItem_83 : decode cX1_readItem 83 = .ok (.iload_n 2, 1) := by decide +kernel
theorem dX1_readItem_84 : decode cX1_readItem 84 = .ok (.imul, 1) := by decide +kernel
theorem dX1_readItem_85 : decode cX1_readItem 85 = .ok (.ishl, 1) := by decide +kernel
theorem dX1_readItem_86 : decode cX1_readItem 86 = .ok (.ior, 1) := by decide +kernel
theorem dX1_readItem_87 : decode cX1_readItem 87 = .ok (.putfield 37, 3) := by decide +kernel
theorem dX1_readItem_90 : decode cX1_readItem 90 = .ok (.goto 30, 3) := by decide +kernel
theorem dX1_readItem_93 : decode cX1_readItem 93 = .ok (.aload_n 0, 1) := by decide +kernel
theorem dX1_readItem_94 : decode cX1_readItem 94 = .ok (.dup, 1) := by decide +kernel
theorem dX1_readItem_95 : decode cX1_readItem 95 = .ok (.getfield 52, 3) := by decide +kernel
theorem dX1_readItem_98 : decode cX1_readItem 98 = .ok (.iload_n 2, 1) := by decide +kernel
theorem dX1_readItem_99 : decode cX1_readItem 99 = .ok (.iconst 2, 1) := by decide +kernel
theorem dX1_readItem_100 : decode cX1_readItem 100 = .ok (.aload_n 0, 1) := by decide +kernel
theorem dX1_readItem_101 : decode cX1_readItem 101 = .ok (.getfield 55, 3) := by decide +kernel
theorem dX1_readItem_104 : decode cX1_readItem 104 = .ok (.imul, 1) := by decide +kernel
theorem dX1_readItem_105 : decode cX1_readItem 105 = .ok (.ishl, 1) := by decide +kernel
theorem dX1_readItem_106 : decode cX1_readItem 106 = .ok (.ior, 1) := by decide +kernel
theorem dX1_readItem_107 : decode cX1_readItem 107 = .ok (.putfield 52, 3) := by decide +kernel
theorem dX1_readItem_110 : decode cX1_readItem 110 = .ok (.aload_n 0, 1) := by decide +kernel
theorem dX1_readItem_111 : decode cX1_readItem 111 = .ok (.dup, 1) := by decide +kernel
theorem dX1_readItem_112 : decode cX1_readItem 112 = .ok (.getfield 55, 3) := by decide +kernel
theorem dX1_readItem_115 : decode cX1_readItem 115 = .ok (.iconst 1, 1) := by decide +kernel
theorem dX1_readItem_116 : decode cX1_readItem 116 = .ok (.iadd, 1) := by decide +kernel
theorem dX1_readItem_117 : decode cX1_readItem 117 = .ok (.putfield 55, 3) := by decide +kernel
theorem dX1_readItem_120 : decode cX1_readItem 120 = .ok (.return_, 1) := by decide +kernel
theorem dX1_endOfItem_0 : decode cX1_endOfItem 0 = .ok (.aload_n 0, 1) := by decide +kernel
theorem dX1_endOfItem_1 : decode cX1_endOfItem 1 = .ok (.iload_n 1, 1) := by decide +kernel
theorem dX1_endOfItem_2 : decode cX1_endOfItem 2 = .ok (.invokevirtual 23, 3) := by decide +kernel
theorem dX1_endOfItem_5 : decode cX1_endOfItem 5 = .ok (.lookupswitch 80 #[(100, 35), (112, 42), (114, 49)], 35) := by decide +kernel
theorem dX1_endOfItem_40 : decode cX1_endOfItem 40 = .ok (.aload_n 0, 1) := by decide +kernel
theorem dX1_endOfItem_41 : decode cX1_endOfItem 41 = .ok (.iload_n 1, 1) := by decide +kernel
theorem dX1_endOfItem_42 : decode cX1_endOfItem 42 = .ok (.iconst 5, 1) := by decide +kernel
theorem dX1_endOfItem_43 : decode cX1_endOfItem 43 = .ok (.invokevirtual 68, 3) := by decide +kernel
theorem dX1_endOfItem_46 : decode cX1_endOfItem 46 = .ok (.ireturn, 1) := by decide +kernel
theorem dX1_endOfItem_47 : decode cX1_endOfItem 47 = .ok (.aload_n 0, 1) := by decide +kernel
theorem dX1_endOfItem_48 : decode cX1_endOfItem 48 = .ok (.iload_n 1, 1) := by decide +kernel
theorem dX1_endOfItem_49 : decode cX1_endOfItem 49 = .ok (.iconst 3, 1) := by decide +kernel
theorem dX1_endOfItem_50 : decode cX1_endOfItem 50 = .ok (.invokevirtual 68, 3) := by decide +kernel
theorem dX1_endOfItem_53 : decode cX1_endOfItem 53 = .ok (.ireturn, 1) := by decide +kernel
theorem dX1_endOfItem_54 : decode cX1_endOfItem 54 = .ok (.aload_n 0, 1) := by decide +kernel
theorem dX1_endOfItem_55 : decode cX1_endOfItem 55 = .ok (.iload_n 1, 1) := by decide +kernel
theorem dX1_endOfItem_56 : decode cX1_endOfItem 56 = .ok (.iconst 1, 1) := by decide +kernel
theorem dX1_endOfItem_57 : decode cX1_endOfItem 57 = .ok (.iadd, 1) := by decide +kernel
theorem dX1_endOfItem_58 : decode cX1_endOfItem 58 = .ok (.iconst 3, 1) := by decide +kernel
theorem dX1_endOfItem_59 : decode cX1_endOfItem 59 = .ok (.invokevirtual 71, 3) := by decide +kernel
theorem dX1_endOfItem_62 : decode cX1_endOfItem 62 = .ok (.ifCond .eq 21, 3) := by decide +kernel
theorem dX1_endOfItem_65 : decode cX1_endOfItem 65 = .ok (.aload_n 0, 1) := by decide +kernel
theorem dX1_endOfItem_66 : decode cX1_endOfItem 66 = .ok (.iload_n 1, 1) := by decide +kernel
theorem dX1_endOfItem_67 : decode cX1_endOfItem 67 = .ok (.iconst 2, 1) := by decide +kernel
theorem dX1_endOfItem_68 : decode cX1_endOfItem 68 = .ok (.iadd, 1) := by decide +kernel
theorem dX1_endOfItem_69 : decode cX1_endOfItem 69 = .ok (.invokevirtual 23, 3) := by decide +kernel
theorem dX1_endOfItem_72 : decode cX1_endOfItem 72 = .ok (.bipush 59, 2) := by decide +kernel
theorem dX1_endOfItem_74 : decode cX1_endOfItem 74 = .ok (.if_icmp .ne 9, 3) := by decide +kernel
theorem dX1_endOfItem_77 : decode cX1_endOfItem 77 = .ok (.iload_n 1, 1) := by decide +kernel
theorem dX1_endOfItem_78 : decode cX1_endOfItem 78 = .ok (.iconst 3, 1) := by decide +kernel
theorem dX1_endOfItem_79 : decode cX1_endOfItem 79 = .ok (.iadd, 1) := by decide +kernel
theorem dX1_endOfItem_80 : decode cX1_endOfItem 80 = .ok (.goto 4, 3) := by decide +kernel
theorem dX1_endOfItem_83 : decode cX1_endOfItem 83 = .ok (.iconst (-1), 1) := by decide +kernel
theorem dX1_endOfItem_84 : decode cX1_endOfItem 84 = .ok (.ireturn, 1) := by decide +kernel
theorem dX1_endOfItem_85 : decode cX1_endOfItem 85 = .ok (.iconst (-1), 1) := by decide +kernel
theorem dX1_endOfItem_86 : decode cX1_endOfItem 86 = .ok (.ireturn, 1) := by decide +kernel
theorem dX1_endOfPair_0 : decode cX1_endOfPair 0 = .ok (.aload_n 0, 1) := by decide +kernel
theorem dX1_endOfPair_1 : decode cX1_endOfPair 1 = .ok (.iload_n 1, 1) := by decide +kernel
theorem dX1_endOfPair_2 : decode cX1_endOfPair 2 = .ok (.iconst 1, 1) := by decide +kernel
theorem dX1_endOfPair_3 : decode cX1_endOfPair 3 = .ok (.iadd, 1) := by decide +kernel
theorem dX1_endOfPair_4 : decode cX1_endOfPair 4 = .ok (.iconst 3, 1) := by decide +kernel
theorem dX1_endOfPair_5 : decode cX1_endOfPair 5 = .ok (.invokevirtual 71, 3) := by decide +kernel
theorem dX1_endOfPair_8 : decode cX1_endOfPair 8 = .ok (.ifCond .eq 42, 3) := by decide +kernel
theorem dX1_endOfPair_11 : decode cX1_endOfPair 11 = .ok (.aload_n 0, 1) := by decide +kernel
theorem dX1_endOfPair_12 : decode cX1_endOfPair 12 = .ok (.iload_n 1, 1) := by decide +kernel
theorem dX1_endOfPair_13 : decode cX1_endOfPair 13 = .ok (.iconst 2, 1) := by decide +kernel
theorem dX1_endOfPair_14 : decode cX1_endOfPair 14 = .ok (.iadd, 1) := by decide +kernel
theorem dX1_endOfPair_15 : decode cX1_endOfPair 15 = .ok (.invokevirtual 23, 3) := by decide +kernel
theorem dX1_endOfPair_18 : decode cX1_endOfPair 18 = .ok (.bipush 44, 2) := by decide +kernel
theorem dX1_endOfPair_20 : decode cX1_endOfPair 20 = .ok (.if_icmp .ne 30, 3) := by decide +kernel
theorem dX1_endOfPair_23 : decode cX1_endOfPair 23 = .ok (.aload_n 0, 1) := by decide +kernel
theorem dX1_endOfPair_24 : decode cX1_endOfPair 24 = .ok (.iload_n 1, 1) := by decide +kernel
theorem dX1_endOfPair_25 : decode cX1_endOfPair 25 = .ok (.iconst 3, 1) := by decide +kernel
theorem dX1_endOfPair_26 : decode cX1_endOfPair 26 = .ok (.iadd, 1) := by decide +kernel
theorem dX1_endOfPair_27 : decode cX1_endOfPair 27 = .ok (.iload_n 2, 1) := by decide +kernel
theorem dX1_endOfPair_28 : decode cX1_endOfPair 28 = .ok (.invokevirtual 71, 3) := by decide +kernel
theorem dX1_endOfPair_31 : decode cX1_endOfPair 31 = .ok (.ifCond .eq 19, 3) := by decide +kernel
theorem dX1_endOfPair_34 : decode cX1_endOfPair 34 = .ok (.aload_n 0, 1) := by decide +kernel
theorem dX1_endOfPair_35 : decode cX1_endOfPair 35 = .ok (.iload_n 1, 1) := by decide +kernel
theorem dX1_endOfPair_36 : decode cX1_endOfPair 36 = .ok (.iconst 4, 1) := by decide +kernel
theorem dX1_endOfPair_37 : decode cX1_endOfPair 37 = .ok (.iadd, 1) := by decide +kernel
theorem dX1_endOfPair_38 : decode cX1_endOfPair 38 = .ok (.invokevirtual 23, 3) := by decide +kernel
theorem dX1_endOfPair_41 : decode cX1_endOfPair 41 = .ok (.bipush 59, 2) := by decide +kernel
theorem dX1_endOfPair_43 : decode cX1_endOfPair 43 = .ok (.if_icmp .ne 7, 3) := by decide +kernel
theorem dX1_endOfPair_46 : decode cX1_endOfPair 46 = .ok (.iconst 1, 1) := by decide +kernel
theorem dX1_endOfPair_47 : decode cX1_endOfPair 47 = .ok (.goto 4, 3) := by decide +kernel
theorem dX1_endOfPair_50 : decode cX1_endOfPair 50 = .ok (.iconst 0, 1) := by decide +kernel
theorem dX1_endOfPair_51 : decode cX1_endOfPair 51 = .ok (.istore_n 3, 1) := by decide +kernel
theorem dX1_endOfPair_52 : decode cX1_endOfPair 52 = .ok (.iload_n 3, 1) := by decide +kernel
theorem dX1_endOfPair_53 : decode cX1_endOfPair 53 = .ok (.ifCond .eq 9, 3) := by decide +kernel
theorem dX1_endOfPair_56 : decode cX1_endOfPair 56 = .ok (.iload_n 1, 1) := by decide +kernel
theorem dX1_endOfPair_57 : decode cX1_endOfPair 57 = .ok (.iconst 5, 1) := by decide +kernel
theorem dX1_endOfPair_58 : decode cX1_endOfPair 58 = .ok (.iadd, 1) := by decide +kernel
theorem dX1_endOfPair_59 : decode cX1_endOfPair 59 = .ok (.goto 4, 3) := by decide +kernel
theorem dX1_endOfPair_62 : decode cX1_endOfPair 62 = .ok (.iconst (-1), 1) := by decide +kernel
theorem dX1_endOfPair_63 : decode cX1_endOfPair 63 = .ok (.ireturn, 1) := by decide +kernel
theorem dX1_isNumber_0 : decode cX1_isNumber 0 = .ok (.aload_n 0, 1) := by decide +kernel
theorem dX1_isNumber_1 : decode cX1_isNumber 1 = .ok (.iload_n 1, 1) := by decide +kernel
theorem dX1_isNumber_2 : decode cX1_isNumber 2 = .ok (.invokevirtual 23, 3) := by decide +kernel
theorem dX1_isNumber_5 : decode cX1_isNumber 5 = .ok (.istore_n 3, 1) := by decide +kernel
theorem dX1_isNumber_6 : decode cX1_isNumber 6 = .ok (.iload_n 3, 1) := by decide +kernel
theorem dX1_isNumber_7 : decode cX1_isNumber 7 = .ok (.bipush 48, 2) := by decide +kernel
theorem dX1_isNumber_9 : decode cX1_isNumber 9 = .ok (.if_icmp .lt 15, 3) := by decide +kernel
theorem dX1_isNumber_12 : decode cX1_isNumber 12 = .ok (.iload_n 3, 1) := by decide +kernel
theorem dX1_isNumber_13 : decode cX1_isNumber 13 = .ok (.bipush 48, 2) := by decide +kernel
theorem dX1_isNumber_15 : decode cX1_isNumber 15 = .ok (.iload_n 2, 1) := by decide +kernel
theorem dX1_isNumber_16 : decode cX1_isNumber 16 = .ok (.iadd, 1) := by decide +kernel
theorem dX1_isNumber_17 : decode cX1_isNumber 17 = .ok (.if_icmp .gt 7, 3) := by decide +kernel
theorem dX1_isNumber_20 : decode cX1_isNumber 20 = .ok (.iconst 1, 1) := by decide +kernel
theorem dX1_isNumber_21 : decode cX1_isNumber 21 = .ok (.goto 4, 3) := by decide +kernel
theorem dX1_isNumber_24 : decode cX1_isNumber 24 = .ok (.iconst 0, 1) := by decide +kernel
theorem dX1_isNumber_25 : decode cX1_isNumber 25 = .ok (.ireturn, 1) := by decide +kernel
theorem dX1_letterAt_0 : decode cX1_letterAt 0 = .ok (.iload_n 1, 1) := by decide +kernel
theorem dX1_letterAt_1 : decode cX1_letterAt 1 = .ok (.ifCond .lt 29, 3) := by decide +kernel
theorem dX1_letterAt_4 : decode cX1_letterAt 4 = .ok (.iload_n 1, 1) := by decide +kernel
theorem dX1_letterAt_5 : decode cX1_letterAt 5 = .ok (.aload_n 0, 1) := by decide +kernel
theorem dX1_letterAt_6 : decode cX1_letterAt 6 = .ok (.getfield 15, 3) := by decide +kernel
theorem dX1_letterAt_9 : decode cX1_letterAt 9 = .ok (.if_icmp .ge 21, 3) := by decide +kernel
theorem dX1_letterAt_12 : decode cX1_letterAt 12 = .ok (.iload_n 1, 1) := by decide +kernel
theorem dX1_letterAt_13 : decode cX1_letterAt 13 = .ok (.aload_n 0, 1) := by decide +kernel
theorem dX1_letterAt_14 : decode cX1_letterAt 14 = .ok (.getfield 9, 3) := by decide +kernel
theorem dX1_letterAt_17 : decode cX1_letterAt 17 = .ok (.arraylength, 1) := by decide +kernel
theorem dX1_letterAt_18 : decode cX1_letterAt 18 = .ok (.if_icmp .ge 12, 3) := by decide +kernel
theorem dX1_letterAt_21 : decode cX1_letterAt 21 = .ok (.aload_n 0, 1) := by decide +kernel
theorem dX1_letterAt_22 : decode cX1_letterAt 22 = .ok (.getfield 9, 3) := by decide +kernel
theorem dX1_letterAt_25 : decode cX1_letterAt 25 = .ok (.iload_n 1, 1) := by decide +kernel
theorem dX1_letterAt_26 : decode cX1_letterAt 26 = .ok (.baload, 1) := by decide +kernel
theorem dX1_letterAt_27 : decode cX1_letterAt 27 = .ok (.goto 4, 3) := by decide +kernel
theorem dX1_letterAt_30 : decode cX1_letterAt 30 = .ok (.iconst 0, 1) := by decide +kernel
theorem dX1_letterAt_31 : decode cX1_letterAt 31 = .ok (.ireturn, 1) := by decide +kernel
theorem dX2_init_0 : decode cX2_init 0 = .ok (.aload_n 0, 1) := by decide +kernel
theorem dX2_init_1 : decode cX2_init 1 = .ok (.invokespecial 3, 3) := by decide +kernel
theorem dX2_init_4 : decode cX2_init 4 = .ok (.aload_n 0, 1) := by decide +kernel
theorem dX2_init_5 : decode cX2_init 5 = .ok (.bipush 8, 2) := by decide +kernel
theorem dX2_init_7 : decode cX2_init 7 = .ok (.anewarray 9, 3) := by decide +kernel
theorem dX2_init_10 : decode cX2_init 10 = .ok (.putfield 11, 3) := by decide +kernel
theorem dX2_init_13 : decode cX2_init 13 = .ok (.iconst 0, 1) := by decide +kernel
theorem dX2_init_14 : decode cX2_init 14 = .ok (.istore_n 1, 1) := by decide +kernel
theorem dX2_init_15 : decode cX2_init 15 = .ok (.iload_n 1, 1) := by decide +kernel
theorem dX2_init_16 : decode cX2_init 16 = .ok (.aload_n 0, 1) := by decide +kernel
theorem dX2_init_17 : decode cX2_init 17 = .ok (.getfield 11, 3) := by decide +kernel
theorem dX2_init_20 : decode cX2_init 20 = .ok (.arraylength, 1) := by decide +kernel
theorem dX2_init_21 : decode cX2_init 21 = .ok (.if_icmp .ge 22, 3) := by decide +kernel
theorem dX2_init_24 : decode cX2_init 24 = .ok (.aload_n 0, 1) := by decide +kernel
theorem dX2_init_25 : decode cX2_init 25 = .ok (.getfield 11, 3) := by decide +kernel
theorem dX2_init_28 : decode cX2_init 28 = .ok (.iload_n 1, 1) := by decide +kernel
theorem dX2_init_29 : decode cX2_init 29 = .ok (.new 9, 3) := by decide +kernel
theorem dX2_init_32 : decode cX2_init 32 = .ok (.dup, 1) := by decide +kernel
theorem dX2_init_33 : decode cX2_init 33 = .ok (.invokespecial 17, 3) := by decide +kernel
theorem dX2_init_36 : decode cX2_init 36 = .ok (.aastore, 1) := by decide +kernel
theorem dX2_init_37 : decode cX2_init 37 = .ok (.iinc 1 1, 3) := by decide +kernel
theorem dX2_init_40 : decode cX2_init 40 = .ok (.goto (-25), 3) := by decide +kernel
theorem dX2_init_43 : decode cX2_init 43 = .ok (.return_, 1) := by decide +kernel
theorem dX2_aimAtWound_0 : decode cX2_aimAtWound 0 = .ok (.aload_n 0, 1) := by decide +kernel
theorem dX2_aimAtWound_1 : decode cX2_aimAtWound 1 = .ok (.iconst 0, 1) := by decide +kernel
theorem dX2_aimAtWound_2 : decode cX2_aimAtWound 2 = .ok (.putfield 18, 3) := by decide +kernel
theorem dX2_aimAtWound_5 : decode cX2_aimAtWound 5 = .ok (.aload_n 0, 1) := by decide +kernel
theorem dX2_aimAtWound_6 : decode cX2_aimAtWound 6 = .ok (.iload_n 1, 1) := by decide +kernel
theorem dX2_aimAtWound_7 : decode cX2_aimAtWound 7 = .ok (.putfield 22, 3) := by decide +kernel
theorem dX2_aimAtWound_10 : decode cX2_aimAtWound 10 = .ok (.aload_n 0, 1) := by decide +kernel
theorem dX2_aimAtWound_11 : decode cX2_aimAtWound 11 = .ok (.iload_n 2, 1) := by decide +kernel
theorem dX2_aimAtWound_12 : decode cX2_aimAtWound 12 = .ok (.putfield 26, 3) := by decide +kernel
theorem dX2_aimAtWound_15 : decode cX2_aimAtWound 15 = .ok (.return_, 1) := by decide +kernel
theorem dX2_aimAtMeeting_0 : decode cX2_aimAtMeeting 0 = .ok (.aload_n 0, 1) := by decide +kernel
theorem dX2_aimAtMeeting_1 : decode cX2_aimAtMeeting 1 = .ok (.iconst 1, 1) := by decide +kernel
theorem dX2_aimAtMeeting_2 : decode cX2_aimAtMeeting 2 = .ok (.putfield 18, 3) := by decide +kernel
theorem dX2_aimAtMeeting_5 : decode cX2_aimAtMeeting 5 = .ok (.aload_n 0, 1) := by decide +kernel
theorem dX2_aimAtMeeting_6 : decode cX2_aimAtMeeting 6 = .ok (.iload_n 1, 1) := by decide +kernel
theorem dX2_aimAtMeeting_7 : decode cX2_aimAtMeeting 7 = .ok (.putfield 29, 3) := by decide +kernel
theorem dX2_aimAtMeeting_10 : decode cX2_aimAtMeeting 10 = .ok (.aload_n 0, 1) := by decide +kernel
theorem dX2_aimAtMeeting_11 : decode cX2_aimAtMeeting 11 = .ok (.iload_n 2, 1) := by decide +kernel
theorem dX2_aimAtMeeting_12 : decode cX2_aimAtMeeting 12 = .ok (.putfield 32, 3) := by decide +kernel
theorem dX2_aimAtMeeting_15 : decode cX2_aimAtMeeting 15 = .ok (.return_, 1) := by decide +kernel
theorem dX2_startFrom_0 : decode cX2_startFrom 0 = .ok (.aload_n 0, 1) := by decide +kernel
theorem dX2_startFrom_1 : decode cX2_startFrom 1 = .ok (.getfield 11, 3) := by decide +kernel
theorem dX2_startFrom_4 : decode cX2_startFrom 4 = .ok (.iconst 0, 1) := by decide +kernel
theorem dX2_startFrom_5 : decode cX2_startFrom 5 = .ok (.aaload, 1) := by decide +kernel
theorem dX2_startFrom_6 : decode cX2_startFrom 6 = .ok (.aload_n 1, 1) := by decide +kernel
theorem dX2_startFrom_7 : decode cX2_startFrom 7 = .ok (.invokevirtual 35, 3) := by decide +kernel
theorem dX2_startFrom_10 : decode cX2_startFrom 10 = .ok (.aload_n 0, 1) := by decide +kernel
theorem dX2_startFrom_11 : decode cX2_startFrom 11 = .ok (.iload_n 2, 1) := by decide +kernel
theorem dX2_startFrom_12 : decode cX2_startFrom 12 = .ok (.putfield 39, 3) := by decide +kernel
theorem dX2_startFrom_15 : decode cX2_startFrom 15 = .ok (.aload_n 0, 1) := by decide +kernel
theorem dX2_startFrom_16 : decode cX2_startFrom 16 = .ok (.bipush 8, 2) := by decide +kernel
theorem dX2_startFrom_18 : decode cX2_startFrom 18 = .ok (.putfield 42, 3) := by decide +kernel
theorem dX2_startFrom_21 : decode cX2_startFrom 21 = .ok (.aload_n 0, 1) := by decide +kernel
theorem dX2_startFrom_22 : decode cX2_startFrom 22 = .ok (.iconst 0, 1) := by decide +kernel
theorem dX2_startFrom_23 : decode cX2_startFrom 23 = .ok (.putfield 45, 3) := by decide +kernel
theorem dX2_startFrom_26 : decode cX2_startFrom 26 = .ok (.return_, 1) := by decide +kernel
theorem dX2_isFound_0 : decode cX2_isFound 0 = .ok (.aload_n 0, 1) := by decide +kernel
theorem dX2_isFound_1 : decode cX2_isFound 1 = .ok (.getfield 42, 3) := by decide +kernel
theorem dX2_isFound_4 : decode cX2_isFound 4 = .ok (.bipush 7, 2) := by decide +kernel
theorem dX2_isFound_6 : decode cX2_isFound 6 = .ok (.if_icmp .gt 7, 3) := by decide +kernel
theorem dX2_isFound_9 : decode cX2_isFound 9 = .ok (.iconst 1, 1) := by decide +kernel
theorem dX2_isFound_10 : decode cX2_isFound 10 = .ok (.goto 4, 3) := by decide +kernel
theorem dX2_isFound_13 : decode cX2_isFound 13 = .ok (.iconst 0, 1) := by decide +kernel
theorem dX2_isFound_14 : decode cX2_isFound 14 = .ok (.ireturn, 1) := by decide +kernel
theorem dX2_isAtGoal_0 : decode cX2_isAtGoal 0 = .ok (.iload_n 1, 1) := by decide +kernel
theorem dX2_isAtGoal_1 : decode cX2_isAtGoal 1 = .ok (.ifCond .lt 12, 3) := by decide +kernel
theorem dX2_isAtGoal_4 : decode cX2_isAtGoal 4 = .ok (.iload_n 1, 1) := by decide +kernel
theorem dX2_isAtGoal_5 : decode cX2_isAtGoal 5 = .ok (.aload_n 0, 1) := by decide +kernel
theorem dX2_isAtGoal_6 : decode cX2_isAtGoal 6 = .ok (.getfield 11, 3) := by decide +kernel
theorem dX2_isAtGoal_9 : decode cX2_isAtGoal 9 = .ok (.arraylength, 1) := by decide +kernel
theorem dX2_isAtGoal_10 : decode cX2_isAtGoal 10 = .ok (.if_icmp .lt 5, 3) := by decide +kernel
theorem dX2_isAtGoal_13 : decode cX2_isAtGoal 13 = .ok (.iconst 0, 1) := by decide +kernel
theorem dX2_isAtGoal_14 : decode cX2_isAtGoal 14 = .ok (.ireturn, 1) := by decide +kernel
theorem dX2_isAtGoal_15 : decode cX2_isAtGoal 15 = .ok (.aload_n 0, 1) := by decide +kernel
theorem dX2_isAtGoal_16 : decode cX2_isAtGoal 16 = .ok (.getfield 11, 3) := by decide +kernel
theorem dX2_isAtGoal_19 : decode cX2_isAtGoal 19 = .ok (.iload_n 1, 1) := by decide +kernel
theorem dX2_isAtGoal_20 : decode cX2_isAtGoal 20 = .ok (.aaload, 1) := by decide +kernel
theorem dX2_isAtGoal_21 : decode cX2_isAtGoal 21 = .ok (.astore_n 2, 1) := by decide +kernel
theorem dX2_isAtGoal_22 : decode cX2_isAtGoal 22 = .ok (.aload_n 0, 1) := by decide +kernel
theorem dX2_isAtGoal_23 : decode cX2_isAtGoal 23 = .ok (.getfield 18, 3) := by decide +kernel
theorem dX2_isAtGoal_26 : decode cX2_isAtGoal 26 = .ok (.ifCond .eq 31, 3) := by decide +kernel
theorem dX2_isAtGoal_29 : decode cX2_isAtGoal 29 = .ok (.aload_n 2, 1) := by decide +kernel
theorem dX2_isAtGoal_30 : decode cX2_isAtGoal 30 = .ok (.aload_n 0, 1) := by decide +kernel
theorem dX2_isAtGoal_31 : decode cX2_isAtGoal 31 = .ok (.getfield 29, 3) := by decide +kernel
theorem dX2_isAtGoal_34 : decode cX2_isAtGoal 34 = .ok (.invokevirtual 48, 3) := by decide +kernel
theorem dX2_isAtGoal_37 : decode cX2_isAtGoal 37 = .ok (.aload_n 2, 1) := by decide +kernel
theorem dX2_isAtGoal_38 : decode cX2_isAtGoal 38 = .ok (.aload_n 0, 1) := by decide +kernel
theorem dX2_isAtGoal_39 : decode cX2_isAtGoal 39 = .ok (.getfield 32, 3) := by decide +kernel
theorem dX2_isAtGoal_42 : decode cX2_isAtGoal 42 = .ok (.invokevirtual 48, 3) := by decide +kernel
theorem dX2_isAtGoal_45 : decode cX2_isAtGoal 45 = .ok (.iadd, 1) := by decide +kernel
theorem dX2_isAtGoal_46 : decode cX2_isAtGoal 46 = .ok (.iconst 2, 1) := by decide +kernel
theorem dX2_isAtGoal_47 : decode cX2_isAtGoal 47 = .ok (.irem, 1) := by decide +kernel
theorem dX2_isAtGoal_48 : decode cX2_isAtGoal 48 = .ok (.ifCond .eq 7, 3) := by decide +kernel
theorem dX2_isAtGoal_51 : decode cX2_isAtGoal 51 = .ok (.iconst 1, 1) := by decide +kernel
theorem dX2_isAtGoal_52 : decode cX2_isAtGoal 52 = .ok (.goto 4, 3) := by decide +kernel
theorem dX2_isAtGoal_55 : decode cX2_isAtGoal 55 = .ok (.iconst 0, 1) := by decide +kernel
theorem dX2_isAtGoal_56 : decode cX2_isAtGoal 56 = .ok (.ireturn, 1) := by decide +kernel
theorem dX2_isAtGoal_57 : decode cX2_isAtGoal 57 = .ok (.aload_n 2, 1) := by decide +kernel
theorem dX2_isAtGoal_58 : decode cX2_isAtGoal 58 = .ok (.aload_n 0, 1) := by decide +kernel
theorem dX2_isAtGoal_59 : decode cX2_isAtGoal 59 = .ok (.getfield 22, 3) := by decide +kernel
theorem dX2_isAtGoal_62 : decode cX2_isAtGoal 62 = .ok (.aload_n 0, 1) := by decide +kernel
theorem dX2_isAtGoal_63 : decode cX2_isAtGoal 63 = .ok (.getfield 26, 3) := by decide +kernel
theorem dX2_isAtGoal_66 : decode cX2_isAtGoal 66 = .ok (.invokevirtual 52, 3) := by decide +kernel
theorem dX2_isAtGoal_69 : decode cX2_isAtGoal 69 = .ok (.ireturn, 1) := by decide +kernel
theorem dX2_goOn_0 : decode cX2_goOn 0 = .ok (.iload_n 1, 1) := by decide +kernel
theorem dX2_goOn_1 : decode cX2_goOn 1 = .ok (.ifCond .lt 14, 3) := by decide +kernel
theorem dX2_goOn_4 : decode cX2_goOn 4 = .ok (.iload_n 1, 1) := by decide +kernel
theorem dX2_goOn_5 : decode cX2_goOn 5 = .ok (.iconst 1, 1) := by decide +kernel
theorem dX2_goOn_6 : decode cX2_goOn 6 = .ok (.iadd, 1) := by decide +kernel
theorem dX2_goOn_7 : decode cX2_goOn 7 = .ok (.aload_n 0, 1) := by decide +kernel
theorem dX2_goOn_8 : decode cX2_goOn 8 = .ok (.getfield 11, 3) := by decide +kernel
theorem dX2_goOn_11 : decode cX2_goOn 11 = .ok (.arraylength, 1) := by decide +kernel
theorem dX2_goOn_12 : decode cX2_goOn 12 = .ok (.if_icmp .lt 5, 3) := by decide +kernel
theorem dX2_goOn_15 : decode cX2_goOn 15 = .ok (.iconst 0, 1) := by decide +kernel
theorem dX2_goOn_16 : decode cX2_goOn 16 = .ok (.ireturn, 1) := by decide +kernel
theorem dX2_goOn_17 : decode cX2_goOn 17 = .ok (.aload_n 0, 1) := by decide +kernel
theorem dX2_goOn_18 : decode cX2_goOn 18 = .ok (.getfield 11, 3) := by decide +kernel
theorem dX2_goOn_21 : decode cX2_goOn 21 = .ok (.iload_n 1, 1) := by decide +kernel
theorem dX2_goOn_22 : decode cX2_goOn 22 = .ok (.iconst 1, 1) := by decide +kernel
theorem dX2_goOn_23 : decode cX2_goOn 23 = .ok (.iadd, 1) := by decide +kernel
theorem dX2_goOn_24 : decode cX2_goOn 24 = .ok (.aaload, 1) := by decide +kernel
theorem dX2_goOn_25 : decode cX2_goOn 25 = .ok (.aload_n 0, 1) := by decide +kernel
theorem dX2_goOn_26 : decode cX2_goOn 26 = .ok (.getfield 11, 3) := by decide +kernel
theorem dX2_goOn_29 : decode cX2_goOn 29 = .ok (.iload_n 1, 1) := by decide +kernel
theorem dX2_goOn_30 : decode cX2_goOn 30 = .ok (.aaload, 1) := by decide +kernel
theorem dX2_goOn_31 : decode cX2_goOn 31 = .ok (.invokevirtual 35, 3) := by decide +kernel
theorem dX2_goOn_34 : decode cX2_goOn 34 = .ok (.aload_n 0, 1) := by decide +kernel
theorem dX2_goOn_35 : decode cX2_goOn 35 = .ok (.getfield 11, 3) := by decide +kernel
theorem dX2_goOn_38 : decode cX2_goOn 38 = .ok (.iload_n 1, 1) := by decide +kernel
theorem dX2_goOn_39 : decode cX2_goOn 39 = .ok (.iconst 1, 1) := by decide +kernel
theorem dX2_goOn_40 : decode cX2_goOn 40 = .ok (.iadd, 1) := by decide +kernel
theorem dX2_goOn_41 : decode cX2_goOn 41 = .ok (.aaload, 1) := by decide +kernel
theorem dX2_goOn_42 : decode cX2_goOn 42 = .ok (.iload_n 2, 1) := by decide +kernel
theorem dX2_goOn_43 : decode cX2_goOn 43 = .ok (.aload_n 0, 1) := by decide +kernel
theorem dX2_goOn_44 : decode cX2_goOn 44 = .ok (.getfield 39, 3) := by decide +kernel
theorem dX2_goOn_47 : decode cX2_goOn 47 = .ok (.invokevirtual 56, 3) := by decide +kernel
theorem dX2_goOn_50 : decode cX2_goOn 50 = .ok (.ireturn, 1) := by decide +kernel
theorem dX2_greaterPart_0 : decode cX2_greaterPart 0 = .ok (.iload_n 1, 1) := by decide +kernel
theorem dX2_greaterPart_1 : decode cX2_greaterPart 1 = .ok (.ifCond .lt 12, 3) := by decide +kernel
theorem dX2_greaterPart_4 : decode cX2_greaterPart 4 = .ok (.iload_n 1, 1) := by decide +kernel
theorem dX2_greaterPart_5 : decode cX2_greaterPart 5 = .ok (.aload_n 0, 1) := by decide +kernel
theorem dX2_greaterPart_6 : decode cX2_greaterPart 6 = .ok (.getfield 11, 3) := by decide +kernel
theorem dX2_greaterPart_9 : decode cX2_greaterPart 9 = .ok (.arraylength, 1) := by decide +kernel
theorem dX2_greaterPart_10 : decode cX2_greaterPart 10 = .ok (.if_icmp .lt 5, 3) := by decide +kernel
theorem dX2_greaterPart_13 : decode cX2_greaterPart 13 = .ok (.iconst 0, 1) := by decide +kernel
theorem dX2_greaterPart_14 : decode cX2_greaterPart 14 = .ok (.ireturn, 1) := by decide +kernel
theorem dX2_greaterPart_15 : decode cX2_greaterPart 15 = .ok (.aload_n 0, 1) := by decide +kernel
theorem dX2_greaterPart_16 : decode cX2_greaterPart 16 = .ok (.getfield 11, 3) := by decide +kernel
theorem dX2_greaterPart_19 : decode cX2_greaterPart 19 = .ok (.iload_n 1, 1) := by decide +kernel
theorem dX2_greaterPart_20 : decode cX2_greaterPart 20 = .ok (.aaload, 1) := by decide +kernel
theorem dX2_greaterPart_21 : decode cX2_greaterPart 21 = .ok (.getfield 59, 3) := by decide +kernel
theorem dX2_greaterPart_24 : decode cX2_greaterPart 24 = .ok (.invokestatic 62, 3) := by decide +kernel
theorem dX2_greaterPart_27 : decode cX2_greaterPart 27 = .ok (.aload_n 0, 1) := by decide +kernel
theorem dX2_greaterPart_28 : decode cX2_greaterPart 28 = .ok (.getfield 11, 3) := by decide +kernel
theorem dX2_greaterPart_31 : decode cX2_greaterPart 31 = .ok (.iload_n 1, 1) := by decide +kernel
theorem dX2_greaterPart_32 : decode cX2_greaterPart 32 = .ok (.aaload, 1) := by decide +kernel
theorem dX2_greaterPart_33 : decode cX2_greaterPart 33 = .ok (.getfield 67, 3) := by decide +kernel
theorem dX2_greaterPart_36 : decode cX2_greaterPart 36 = .ok (.invokestatic 70, 3) := by decide +kernel
theorem dX2_greaterPart_39 : decode cX2_greaterPart 39 = .ok (.ireturn, 1) := by decide +kernel
theorem dX2_seek_0 : decode cX2_seek 0 = .ok (.iload_n 1, 1) := by decide +kernel
theorem dX2_seek_1 : decode cX2_seek 1 = .ok (.aload_n 0, 1) := by decide +kernel
theorem dX2_seek_2 : decode cX2_seek 2 = .ok (.getfield 42, 3) := by decide +kernel
theorem dX2_seek_5 : decode cX2_seek 5 = .ok (.if_icmp .ge 9, 3) := by decide +kernel
theorem dX2_seek_8 : decode cX2_seek 8 = .ok (.iload_n 1, 1) := by decide +kernel
theorem dX2_seek_9 : decode cX2_seek 9 = .ok (.bipush 7, 2) := by decide +kernel
theorem dX2_seek_11 : decode cX2_seek 11 = .ok (.if_icmp .le 4, 3) := by decide +kernel
theorem dX2_seek_14 : decode cX2_seek 14 = .ok (.return_, 1) := by decide +kernel
theorem dX2_seek_15 : decode cX2_seek 15 = .ok (.aload_n 0, 1) := by decide +kernel
theorem dX2_seek_16 : decode cX2_seek 16 = .ok (.iload_n 1, 1) := by decide +kernel
theorem dX2_seek_17 : decode cX2_seek 17 = .ok (.invokevirtual 74, 3) := by decide +kernel
theorem dX2_seek_20 : decode cX2_seek 20 = .ok (.ifCond .eq 14, 3) := by decide +kernel
theorem dX2_seek_23 : decode cX2_seek 23 = .ok (.aload_n 0, 1) := by decide +kernel
theorem dX2_seek_24 : decode cX2_seek 24 = .ok (.iload_n 1, 1) := by decide +kernel
theorem dX2_seek_25 : decode cX2_seek 25 = .ok (.putfield 42, 3) := by decide +kernel
theorem dX2_seek_28 : decode cX2_seek 28 = .ok (.aload_n 0, 1) := by decide +kernel
theorem dX2_seek_29 : decode cX2_seek 29 = .ok (.iload_n 2, 1) := by decide +kernel
theorem dX2_seek_30 : decode cX2_seek 30 = .ok (.putfield 45, 3) := by decide +kernel
theorem dX2_seek_33 : decode cX2_seek 33 = .ok (.return_, 1) := by decide +kernel
theorem dX2_seek_34 : decode cX2_seek 34 = .ok (.iconst 0, 1) := by decide +kernel
theorem dX2_seek_35 : decode cX2_seek 35 = .ok (.istore_n 3, 1) := by decide +kernel
theorem dX2_seek_36 : decode cX2_seek 36 = .ok (.iload_n 3, 1) := by decide +kernel
theorem dX2_seek_37 : decode cX2_seek 37 = .ok (.iconst 2, 1) := by decide +kernel
theorem dX2_seek_38 : decode cX2_seek 38 = .ok (.if_icmp .gt 42, 3) := by decide +kernel
theorem dX2_seek_41 : decode cX2_seek 41 = .ok (.iload_n 1, 1) := by decide +kernel
theorem dX2_seek_42 : decode cX2_seek 42 = .ok (.iconst 1, 1) := by decide +kernel
theorem dX2_seek_43 : decode cX2_seek 43 = .ok (.iadd, 1) := by decide +kernel
theorem dX2_seek_44 : decode cX2_seek 44 = .ok (.aload_n 0, 1) := by decide +kernel
theorem dX2_seek_45 : decode cX2_seek 45 = .ok (.getfield 42, 3) := by decide +kernel
theorem dX2_seek_48 : decode cX2_seek 48 = .ok (.if_icmp .ge 32, 3) := by decide +kernel
theorem dX2_seek_51 : decode cX2_seek 51 = .ok (.aload_n 0, 1) := by decide +kernel
theorem dX2_seek_52 : decode cX2_seek 52 = .ok (.iload_n 1, 1) := by decide +kernel
theorem dX2_seek_53 : decode cX2_seek 53 = .ok (.iload_n 3, 1) := by decide +kernel
theorem dX2_seek_54 : decode cX2_seek 54 = .ok (.invokevirtual 78, 3) := by decide +kernel
theorem dX2_seek_57 : decode cX2_seek 57 = .ok (.ifCond .eq 17, 3) := by decide +kernel
theorem dX2_seek_60 : decode cX2_seek 60 = .ok (.aload_n 0, 1) := by decide +kernel
theorem dX2_seek_61 : decode cX2_seek 61 = .ok (.iload_n 1, 1) := by decide +kernel
theorem dX2_seek_62 : decode cX2_seek 62 = .ok (.iconst 1, 1) := by decide +kernel
theorem dX2_seek_63 : decode cX2_seek 63 = .ok (.iadd, 1) := by decide +kernel
theorem dX2_seek_64 : decode cX2_seek 64 = .ok (.iload_n 2, 1) := by decide +kernel
theorem dX2_seek_65 : decode cX2_seek 65 = .ok (.iload_n 3, 1) := by decide +kernel
theorem dX2_seek_66 : decode cX2_seek 66 = .ok (.iconst 2, 1) := by decide +kernel
theorem dX2_seek_67 : decode cX2_seek 67 = .ok (.iload_n 1, 1) := by decide +kernel
theorem dX2_seek_68 : decode cX2_seek 68 = .ok (.imul, 1) := by decide +kernel
theorem dX2_seek_69 : decode cX2_seek 69 = .ok (.ishl, 1) := by decide +kernel
theorem dX2_seek_70 : decode cX2_seek 70 = .ok (.ior, 1) := by decide +kernel
theorem dX2_seek_71 : decode cX2_seek 71 = .ok (.invokestatic 81, 3) := by decide +kernel
theorem dX2_seek_74 : decode cX2_seek 74 = .ok (.iinc 3 1, 3) := by decide +kernel
theorem dX2_seek_77 : decode cX2_seek 77 = .ok (.goto (-41), 3) := by decide +kernel
theorem dX2_seek_80 : decode cX2_seek 80 = .ok (.return_, 1) := by decide +kernel
theorem dX2_rowsFrom_0 : decode cX2_rowsFrom 0 = .ok (.iload_n 1, 1) := by decide +kernel
theorem dX2_rowsFrom_1 : decode cX2_rowsFrom 1 = .ok (.iload_n 2, 1) := by decide +kernel
theorem dX2_rowsFrom_2 : decode cX2_rowsFrom 2 = .ok (.if_icmp .ge 9, 3) := by decide +kernel
theorem dX2_rowsFrom_5 : decode cX2_rowsFrom 5 = .ok (.iload_n 1, 1) := by decide +kernel
theorem dX2_rowsFrom_6 : decode cX2_rowsFrom 6 = .ok (.bipush 7, 2) := by decide +kernel
theorem dX2_rowsFrom_8 : decode cX2_rowsFrom 8 = .ok (.if_icmp .lt 17, 3) := by decide +kernel
theorem dX2_rowsFrom_11 : decode cX2_rowsFrom 11 = .ok (.aload_n 0, 1) := by decide +kernel
theorem dX2_rowsFrom_12 : decode cX2_rowsFrom 12 = .ok (.iload_n 1, 1) := by decide +kernel
theorem dX2_rowsFrom_13 : decode cX2_rowsFrom 13 = .ok (.invokevirtual 74, 3) := by decide +kernel
theorem dX2_rowsFrom_16 : decode cX2_rowsFrom 16 = .ok (.ifCond .eq 7, 3) := by decide +kernel
theorem dX2_rowsFrom_19 : decode cX2_rowsFrom 19 = .ok (.iconst 1, 1) := by decide +kernel
theorem dX2_rowsFrom_20 : decode cX2_rowsFrom 20 = .ok (.goto 4, 3) := by decide +kernel
theorem dX2_rowsFrom_23 : decode cX2_rowsFrom 23 = .ok (.iconst 0, 1) := by decide +kernel
theorem dX2_rowsFrom_24 : decode cX2_rowsFrom 24 = .ok (.ireturn, 1) := by decide +kernel
theorem dX2_rowsFrom_25 : decode cX2_rowsFrom 25 = .ok (.iconst 0, 1) := by decide +kernel
theorem dX2_rowsFrom_26 : decode cX2_rowsFrom 26 = .ok (.istore_n 3, 1) := by decide +kernel
theorem dX2_rowsFrom_27 : decode cX2_rowsFrom 27 = .ok (.iconst 0, 1) := by decide +kernel
theorem dX2_rowsFrom_28 : decode cX2_rowsFrom 28 = .ok (.istore 4, 2) := by decide +kernel
theorem dX2_rowsFrom_30 : decode cX2_rowsFrom 30 = .ok (.iload 4, 2) := by decide +kernel
theorem dX2_rowsFrom_32 : decode cX2_rowsFrom 32 = .ok (.iconst 2, 1) := by decide +kernel
theorem dX2_rowsFrom_33 : decode cX2_rowsFrom 33 = .ok (.if_icmp .gt 30, 3) := by decide +kernel
theorem dX2_rowsFrom_36 : decode cX2_rowsFrom 36 = .ok (.aload_n 0, 1) := by decide +kernel
theorem dX2_rowsFrom_37 : decode cX2_rowsFrom 37 = .ok (.iload_n 1, 1) := by decide +kernel
theorem dX2_rowsFrom_38 : decode cX2_rowsFrom 38 = .ok (.iload 4, 2) := by decide +kernel
theorem dX2_rowsFrom_40 : decode cX2_rowsFrom 40 = .ok (.invokevirtual 78, 3) := by decide +kernel
theorem dX2_rowsFrom_43 : decode cX2_rowsFrom 43 = .ok (.ifCond .eq 14, 3) := by decide +kernel
theorem dX2_rowsFrom_46 : decode cX2_rowsFrom 46 = .ok (.iload_n 3, 1) := by decide +kernel
theorem dX2_rowsFrom_47 : decode cX2_rowsFrom 47 = .ok (.aload_n 0, 1) := by decide +kernel
theorem dX2_rowsFrom_48 : decode cX2_rowsFrom 48 = .ok (.iload_n 1, 1) := by decide +kernel
theorem dX2_rowsFrom_49 : decode cX2_rowsFrom 49 = .ok (.iconst 1, 1) := by decide +kernel
theorem dX2_rowsFrom_50 : decode cX2_rowsFrom 50 = .ok (.iadd, 1) := by decide +kernel
theorem dX2_rowsFrom_51 : decode cX2_rowsFrom 51 = .ok (.iload_n 2, 1) := by decide +kernel
theorem dX2_rowsFrom_52 : decode cX2_rowsFrom 52 = .ok (.invokestatic 85, 3) := by decide +kernel
theorem dX2_rowsFrom_55 : decode cX2_rowsFrom 55 = .ok (.iadd, 1) := by decide +kernel
theorem dX2_rowsFrom_56 : decode cX2_rowsFrom 56 = .ok (.istore_n 3, 1) := by decide +kernel
theorem dX2_rowsFrom_57 : decode cX2_rowsFrom 57 = .ok (.iinc 4 1, 3) := by decide +kernel
theorem dX2_rowsFrom_60 : decode cX2_rowsFrom 60 = .ok (.goto (-30), 3) := by decide +kernel
theorem dX2_rowsFrom_63 : decode cX2_rowsFrom 63 = .ok (.iload_n 3, 1) := by decide +kernel
theorem dX2_rowsFrom_64 : decode cX2_rowsFrom 64 = .ok (.ireturn, 1) := by decide +kernel
theorem dX2_bestFrom_0 : decode cX2_bestFrom 0 = .ok (.iload_n 1, 1) := by decide +kernel
theorem dX2_bestFrom_1 : decode cX2_bestFrom 1 = .ok (.iload_n 2, 1) := by decide +kernel
theorem dX2_bestFrom_2 : decode cX2_bestFrom 2 = .ok (.if_icmp .ge 9, 3) := by decide +kernel
theorem dX2_bestFrom_5 : decode cX2_bestFrom 5 = .ok (.iload_n 1, 1) := by decide +kernel
theorem dX2_bestFrom_6 : decode cX2_bestFrom 6 = .ok (.bipush 7, 2) := by decide +kernel
theorem dX2_bestFrom_8 : decode cX2_bestFrom 8 = .ok (.if_icmp .lt 9, 3) := by decide +kernel
theorem dX2_bestFrom_11 : decode cX2_bestFrom 11 = .ok (.aload_n 0, 1) := by decide +kernel
theorem dX2_bestFrom_12 : decode cX2_bestFrom 12 = .ok (.iload_n 1, 1) := by decide +kernel
theorem dX2_bestFrom_13 : decode cX2_bestFrom 13 = .ok (.invokevirtual 89, 3) := by decide +kernel
theorem dX2_bestFrom_16 : decode cX2_bestFrom 16 = .ok (.ireturn, 1) := by decide +kernel
theorem dX2_bestFrom_17 : decode cX2_bestFrom 17 = .ok (.iload_n 1, 1) := by decide +kernel
theorem dX2_bestFrom_18 : decode cX2_bestFrom 18 = .ok (.iconst 2, 1) := by decide +kernel
theorem dX2_bestFrom_19 : decode cX2_bestFrom 19 = .ok (.irem, 1) := by decide +kernel
theorem dX2_bestFrom_20 : decode cX2_bestFrom 20 = .ok (.ifCond .ne 7, 3) := by decide +kernel
theorem dX2_bestFrom_23 : decode cX2_bestFrom 23 = .ok (.iconst 1, 1) := by decide +kernel
theorem dX2_bestFrom_24 : decode cX2_bestFrom 24 = .ok (.goto 4, 3) := by decide +kernel
theorem dX2_bestFrom_27 : decode cX2_bestFrom 27 = .ok (.iconst 0, 1) := by decide +kernel
theorem dX2_bestFrom_28 : decode cX2_bestFrom 28 = .ok (.istore_n 3, 1) := by decide +kernel
theorem dX2_bestFrom_29 : decode cX2_bestFrom 29 = .ok (.aload_n 0, 1) := by decide +kernel
theorem dX2_bestFrom_30 : decode cX2_bestFrom 30 = .ok (.iload_n 1, 1) := by decide +kernel
theorem dX2_bestFrom_31 : decode cX2_bestFrom 31 = .ok (.iconst 3, 1) := by decide +kernel
theorem dX2_bestFrom_32 : decode cX2_bestFrom 32 = .ok (.invokevirtual 78, 3) := by decide +kernel
theorem dX2_bestFrom_35 : decode cX2_bestFrom 35 = .ok (.pop, 1) := by decide +kernel
theorem dX2_bestFrom_36 : decode cX2_bestFrom 36 = .ok (.aload_n 0, 1) := by decide +kernel
theorem dX2_bestFrom_37 : decode cX2_bestFrom 37 = .ok (.iload_n 1, 1) := by decide +kernel
theorem dX2_bestFrom_38 : decode cX2_bestFrom 38 = .ok (.iconst 1, 1) := by decide +kernel
theorem dX2_bestFrom_39 : decode cX2_bestFrom 39 = .ok (.iadd, 1) := by decide +kernel
theorem dX2_bestFrom_40 : decode cX2_bestFrom 40 = .ok (.iload_n 2, 1) := by decide +kernel
theorem dX2_bestFrom_41 : decode cX2_bestFrom 41 = .ok (.invokestatic 92, 3) := by decide +kernel
theorem dX2_bestFrom_44 : decode cX2_bestFrom 44 = .ok (.istore 4, 2) := by decide +kernel
theorem dX2_bestFrom_46 : decode cX2_bestFrom 46 = .ok (.aload_n 0, 1) := by decide +kernel
theorem dX2_bestFrom_47 : decode cX2_bestFrom 47 = .ok (.iload_n 1, 1) := by decide +kernel
theorem dX2_bestFrom_48 : decode cX2_bestFrom 48 = .ok (.iconst 2, 1) := by decide +kernel
theorem dX2_bestFrom_49 : decode cX2_bestFrom 49 = .ok (.invokevirtual 78, 3) := by decide +kernel
theorem dX2_bestFrom_52 : decode cX2_bestFrom 52 = .ok (.ifCond .eq 19, 3) := by decide +kernel
theorem dX2_bestFrom_55 : decode cX2_bestFrom 55 = .ok (.iload_n 3, 1) := by decide +kernel
theorem dX2_bestFrom_56 : decode cX2_bestFrom 56 = .ok (.iload 4, 2) := by decide +kernel
theorem dX2_bestFrom_58 : decode cX2_bestFrom 58 = .ok (.aload_n 0, 1) := by decide +kernel
theorem dX2_bestFrom_59 : decode cX2_bestFrom 59 = .ok (.iload_n 1, 1) := by decide +kernel
theorem dX2_bestFrom_60 : decode cX2_bestFrom 60 = .ok (.iconst 1, 1) := by decide +kernel
theorem dX2_bestFrom_61 : decode cX2_bestFrom 61 = .ok (.iadd, 1) := by decide +kernel
theorem dX2_bestFrom_62 : decode cX2_bestFrom 62 = .ok (.iload_n 2, 1) := by decide +kernel
theorem dX2_bestFrom_63 : decode cX2_bestFrom 63 = .ok (.invokestatic 92, 3) := by decide +kernel
theorem dX2_bestFrom_66 : decode cX2_bestFrom 66 = .ok (.invokestatic 95, 3) := by decide +kernel
theorem dX2_bestFrom_69 : decode cX2_bestFrom 69 = .ok (.istore 4, 2) := by decide +kernel
theorem dX2_bestFrom_71 : decode cX2_bestFrom 71 = .ok (.aload_n 0, 1) := by decide +kernel
theorem dX2_bestFrom_72 : decode cX2_bestFrom 72 = .ok (.iload_n 1, 1) := by decide +kernel
theorem dX2_bestFrom_73 : decode cX2_bestFrom 73 = .ok (.iload_n 3, 1) := by decide +kernel
theorem dX2_bestFrom_74 : decode cX2_bestFrom 74 = .ok (.ifCond .eq 7, 3) := by decide +kernel
theorem dX2_bestFrom_77 : decode cX2_bestFrom 77 = .ok (.iconst 0, 1) := by decide +kernel
theorem dX2_bestFrom_78 : decode cX2_bestFrom 78 = .ok (.goto 4, 3) := by decide +kernel
theorem dX2_bestFrom_81 : decode cX2_bestFrom 81 = .ok (.iconst 1, 1) := by decide +kernel
theorem dX2_bestFrom_82 : decode cX2_bestFrom 82 = .ok (.invokevirtual 78, 3) := by decide +kernel
theorem dX2_bestFrom_85 : decode cX2_bestFrom 85 = .ok (.ifCond .eq 19, 3) := by decide +kernel
theorem dX2_bestFrom_88 : decode cX2_bestFrom 88 = .ok (.iload_n 3, 1) := by decide +kernel
theorem dX2_bestFrom_89 : decode cX2_bestFrom 89 = .ok (.iload 4, 2) := by decide +kernel
theorem dX2_bestFrom_91 : decode cX2_bestFrom 91 = .ok (.aload_n 0, 1) := by decide +kernel
theorem dX2_bestFrom_92 : decode cX2_bestFrom 92 = .ok (.iload_n 1, 1) := by decide +kernel
theorem dX2_bestFrom_93 : decode cX2_bestFrom 93 = .ok (.iconst 1, 1) := by decide +kernel
theorem dX2_bestFrom_94 : decode cX2_bestFrom 94 = .ok (.iadd, 1) := by decide +kernel
theorem dX2_bestFrom_95 : decode cX2_bestFrom 95 = .ok (.iload_n 2, 1) := by decide +kernel
theorem dX2_bestFrom_96 : decode cX2_bestFrom 96 = .ok (.invokestatic 92, 3) := by decide +kernel
theorem dX2_bestFrom_99 : decode cX2_bestFrom 99 = .ok (.invokestatic 95, 3) := by decide +kernel
theorem dX2_bestFrom_102 : decode cX2_bestFrom 102 = .ok (.istore 4, 2) := by decide +kernel
theorem dX2_bestFrom_104 : decode cX2_bestFrom 104 = .ok (.iload 4, 2) := by decide +kernel
theorem dX2_bestFrom_106 : decode cX2_bestFrom 106 = .ok (.ireturn, 1) := by decide +kernel
theorem dX2_better_0 : decode cX2_better 0 = .ok (.iload_n 0, 1) := by decide +kernel
theorem dX2_better_1 : decode cX2_better 1 = .ok (.ifCond .eq 11, 3) := by decide +kernel
theorem dX2_better_4 : decode cX2_better 4 = .ok (.iload_n 1, 1) := by decide +kernel
theorem dX2_better_5 : decode cX2_better 5 = .ok (.iload_n 2, 1) := by decide +kernel
theorem dX2_better_6 : decode cX2_better 6 = .ok (.invokestatic 70, 3) := by decide +kernel
theorem dX2_better_9 : decode cX2_better 9 = .ok (.goto 8, 3) := by decide +kernel
theorem dX2_better_12 : decode cX2_better 12 = .ok (.iload_n 1, 1) := by decide +kernel
theorem dX2_better_13 : decode cX2_better 13 = .ok (.iload_n 2, 1) := by decide +kernel
theorem dX2_better_14 : decode cX2_better 14 = .ok (.invokestatic 99, 3) := by decide +kernel
theorem dX2_better_17 : decode cX2_better 17 = .ok (.ireturn, 1) := by decide +kernel
theorem dX2_chanceFrom_0 : decode cX2_chanceFrom 0 = .ok (.iload_n 1, 1) := by decide +kernel
theorem dX2_chanceFrom_1 : decode cX2_chanceFrom 1 = .ok (.iload_n 2, 1) := by decide +kernel
theorem dX2_chanceFrom_2 : decode cX2_chanceFrom 2 = .ok (.if_icmp .ge 9, 3) := by decide +kernel
theorem dX2_chanceFrom_5 : decode cX2_chanceFrom 5 = .ok (.iload_n 1, 1) := by decide +kernel
theorem dX2_chanceFrom_6 : decode cX2_chanceFrom 6 = .ok (.bipush 7, 2) := by decide +kernel
theorem dX2_chanceFrom_8 : decode cX2_chanceFrom 8 = .ok (.if_icmp .lt 17, 3) := by decide +kernel
theorem dX2_chanceFrom_11 : decode cX2_chanceFrom 11 = .ok (.aload_n 0, 1) := by decide +kernel
theorem dX2_chanceFrom_12 : decode cX2_chanceFrom 12 = .ok (.iload_n 1, 1) := by decide +kernel
theorem dX2_chanceFrom_13 : decode cX2_chanceFrom 13 = .ok (.invokevirtual 74, 3) := by decide +kernel
theorem dX2_chanceFrom_16 : decode cX2_chanceFrom 16 = .ok (.ifCond .eq 7, 3) := by decide +kernel
theorem dX2_chanceFrom_19 : decode cX2_chanceFrom 19 = .ok (.iconst 1, 1) := by decide +kernel
theorem dX2_chanceFrom_20 : decode cX2_chanceFrom 20 = .ok (.goto 4, 3) := by decide +kernel
theorem dX2_chanceFrom_23 : decode cX2_chanceFrom 23 = .ok (.iconst 0, 1) := by decide +kernel
theorem dX2_chanceFrom_24 : decode cX2_chanceFrom 24 = .ok (.ireturn, 1) := by decide +kernel
theorem dX2_chanceFrom_25 : decode cX2_chanceFrom 25 = .ok (.aload_n 0, 1) := by decide +kernel
theorem dX2_chanceFrom_26 : decode cX2_chanceFrom 26 = .ok (.iload_n 1, 1) := by decide +kernel
theorem dX2_chanceFrom_27 : decode cX2_chanceFrom 27 = .ok (.iconst 3, 1) := by decide +kernel
theorem dX2_chanceFrom_28 : decode cX2_chanceFrom 28 = .ok (.invokevirtual 78, 3) := by decide +kernel
theorem dX2_chanceFrom_31 : decode cX2_chanceFrom 31 = .ok (.pop, 1) := by decide +kernel
theorem dX2_chanceFrom_32 : decode cX2_chanceFrom 32 = .ok (.aload_n 0, 1) := by decide +kernel
theorem dX2_chanceFrom_33 : decode cX2_chanceFrom 33 = .ok (.iload_n 1, 1) := by decide +kernel
theorem dX2_chanceFrom_34 : decode cX2_chanceFrom 34 = .ok (.iconst 1, 1) := by decide +kernel
theorem dX2_chanceFrom_35 : decode cX2_chanceFrom 35 = .ok (.iadd, 1) := by decide +kernel
theorem dX2_chanceFrom_36 : decode cX2_chanceFrom 36 = .ok (.iload_n 2, 1) := by decide +kernel
theorem dX2_chanceFrom_37 : decode cX2_chanceFrom 37 = .ok (.iload_n 3, 1) := by decide +kernel
theorem dX2_chanceFrom_38 : decode cX2_chanceFrom 38 = .ok (.iload 4, 2) := by decide +kernel
theorem dX2_chanceFrom_40 : decode cX2_chanceFrom 40 = .ok (.invokestatic 102, 3) := by decide +kernel
theorem dX2_chanceFrom_43 : decode cX2_chanceFrom 43 = .ok (.istore 5, 2) := by decide +kernel
theorem dX2_chanceFrom_45 : decode cX2_chanceFrom 45 = .ok (.aload_n 0, 1) := by decide +kernel
theorem dX2_chanceFrom_46 : decode cX2_chanceFrom 46 = .ok (.iload_n 1, 1) := by decide +kernel
theorem dX2_chanceFrom_47 : decode cX2_chanceFrom 47 = .ok (.iload_n 3, 1) := by decide +kernel
theorem dX2_chanceFrom_48 : decode cX2_chanceFrom 48 = .ok (.iload_n 1, 1) := by decide +kernel
theorem dX2_chanceFrom_49 : decode cX2_chanceFrom 49 = .ok (.invokestatic 106, 3) := by decide +kernel
theorem dX2_chanceFrom_52 : decode cX2_chanceFrom 52 = .ok (.invokevirtual 78, 3) := by decide +kernel
theorem dX2_chanceFrom_55 : decode cX2_chanceFrom 55 = .ok (.ifCond .ne 10, 3) := by decide +kernel
theorem dX2_chanceFrom_58 : decode cX2_chanceFrom 58 = .ok (.aload_n 0, 1) := by decide +kernel
theorem dX2_chanceFrom_59 : decode cX2_chanceFrom 59 = .ok (.iload_n 1, 1) := by decide +kernel
theorem dX2_chanceFrom_60 : decode cX2_chanceFrom 60 = .ok (.iconst 3, 1) := by decide +kernel
theorem dX2_chanceFrom_61 : decode cX2_chanceFrom 61 = .ok (.invokevirtual 78, 3) := by decide +kernel
theorem dX2_chanceFrom_64 : decode cX2_chanceFrom 64 = .ok (.pop, 1) := by decide +kernel
theorem dX2_chanceFrom_65 : decode cX2_chanceFrom 65 = .ok (.aload_n 0, 1) := by decide +kernel
theorem dX2_chanceFrom_66 : decode cX2_chanceFrom 66 = .ok (.iload_n 1, 1) := by decide +kernel
theorem dX2_chanceFrom_67 : decode cX2_chanceFrom 67 = .ok (.iconst 1, 1) := by decide +kernel
theorem dX2_chanceFrom_68 : decode cX2_chanceFrom 68 = .ok (.iadd, 1) := by decide +kernel
theorem dX2_chanceFrom_69 : decode cX2_chanceFrom 69 = .ok (.iload_n 2, 1) := by decide +kernel
theorem dX2_chanceFrom_70 : decode cX2_chanceFrom 70 = .ok (.iload_n 3, 1) := by decide +kernel
theorem dX2_chanceFrom_71 : decode cX2_chanceFrom 71 = .ok (.iload 4, 2) := by decide +kernel
theorem dX2_chanceFrom_73 : decode cX2_chanceFrom 73 = .ok (.invokestatic 102, 3) := by decide +kernel
theorem dX2_chanceFrom_76 : decode cX2_chanceFrom 76 = .ok (.istore 6, 2) := by decide +kernel
theorem dX2_chanceFrom_78 : decode cX2_chanceFrom 78 = .ok (.iload 4, 2) := by decide +kernel
theorem dX2_chanceFrom_80 : decode cX2_chanceFrom 80 = .ok (.iload 5, 2) := by decide +kernel
theorem dX2_chanceFrom_82 : decode cX2_chanceFrom 82 = .ok (.imul, 1) := by decide +kernel
theorem dX2_chanceFrom_83 : decode cX2_chanceFrom 83 = .ok (.bipush 10, 2) := by decide +kernel
theorem dX2_chanceFrom_85 : decode cX2_chanceFrom 85 = .ok (.iload 4, 2) := by decide +kernel
theorem dX2_chanceFrom_87 : decode cX2_chanceFrom 87 = .ok (.isub, 1) := by decide +kernel
theorem dX2_chanceFrom_88 : decode cX2_chanceFrom 88 = .ok (.iload 6, 2) := by decide +kernel
theorem dX2_chanceFrom_90 : decode cX2_chanceFrom 90 = .ok (.imul, 1) := by decide +kernel
theorem dX2_chanceFrom_91 : decode cX2_chanceFrom 91 = .ok (.iadd, 1) := by decide +kernel
theorem dX2_chanceFrom_92 : decode cX2_chanceFrom 92 = .ok (.ireturn, 1) := by decide +kernel
theorem dX3_init_0 : decode cX3_init 0 = .ok (.aload_n 0, 1) := by decide +kernel
theorem dX3_init_1 : decode cX3_init 1 = .ok (.invokespecial 3, 3) := by decide +kernel
theorem dX3_init_4 : decode cX3_init 4 = .ok (.aload_n 0, 1) := by decide +kernel
theorem dX3_init_5 : decode cX3_init 5 = .ok (.sipush 228, 3) := by decide +kernel
theorem dX3_init_8 : decode cX3_init 8 = .ok (.putfield 11, 3) := by decide +kernel
theorem dX3_init_11 : decode cX3_init 11 = .ok (.aload_n 0, 1) := by decide +kernel
theorem dX3_init_12 : decode cX3_init 12 = .ok (.iconst 1, 1) := by decide +kernel
theorem dX3_init_13 : decode cX3_init 13 = .ok (.putfield 15, 3) := by decide +kernel
theorem dX3_init_16 : decode cX3_init 16 = .ok (.return_, 1) := by decide +kernel
theorem dX3_begin_0 : decode cX3_begin 0 = .ok (.aload_n 0, 1) := by decide +kernel
theorem dX3_begin_1 : decode cX3_begin 1 = .ok (.iload_n 1, 1) := by decide +kernel
theorem dX3_begin_2 : decode cX3_begin 2 = .ok (.putfield 11, 3) := by decide +kernel
theorem dX3_begin_5 : decode cX3_begin 5 = .ok (.aload_n 0, 1) := by decide +kernel
theorem dX3_begin_6 : decode cX3_begin 6 = .ok (.iconst 1, 1) := by decide +kernel
theorem dX3_begin_7 : decode cX3_begin 7 = .ok (.aload_n 0, 1) := by decide +kernel
theorem dX3_begin_8 : decode cX3_begin 8 = .ok (.iconst 2, 1) := by decide +kernel
theorem dX3_begin_9 : decode cX3_begin 9 = .ok (.invokevirtual 18, 3) := by decide +kernel
theorem dX3_begin_12 : decode cX3_begin 12 = .ok (.ishl, 1) := by decide +kernel
theorem dX3_begin_13 : decode cX3_begin 13 = .ok (.iconst 1, 1) := by decide +kernel
theorem dX3_begin_14 : decode cX3_begin 14 = .ok (.aload_n 0, 1) := by decide +kernel
theorem dX3_begin_15 : decode cX3_begin 15 = .ok (.iconst 3, 1) := by decide +kernel
theorem dX3_begin_16 : decode cX3_begin 16 = .ok (.invokevirtual 18, 3) := by decide +kernel
theorem dX3_begin_19 : decode cX3_begin 19 = .ok (.ishl, 1) := by decide +kernel
theorem dX3_begin_20 : decode cX3_begin 20 = .ok (.ior, 1) := by decide +kernel
theorem dX3_begin_21 : decode cX3_begin 21 = .ok (.putfield 22, 3) := by decide +kernel
theorem dX3_begin_24 : decode cX3_begin 24 = .ok (.aload_n 0, 1) := by decide +kernel
theorem dX3_begin_25 : decode cX3_begin 25 = .ok (.iconst 0, 1) := by decide +kernel
theorem dX3_begin_26 : decode cX3_begin 26 = .ok (.putfield 25, 3) := by decide +kernel
theorem dX3_begin_29 : decode cX3_begin 29 = .ok (.aload_n 0, 1) := by decide +kernel
theorem dX3_begin_30 : decode cX3_begin 30 = .ok (.iconst 1, 1) := by decide +kernel
theorem dX3_begin_31 : decode cX3_begin 31 = .ok (.putfield 15, 3) := by decide +kernel
theorem dX3_begin_34 : decode cX3_begin 34 = .ok (.aload_n 0, 1) := by decide +kernel
theorem dX3_begin_35 : decode cX3_begin 35 = .ok (.iconst 0, 1) := by decide +kernel
theorem dX3_begin_36 : decode cX3_begin 36 = .ok (.putfield 28, 3) := by decide +kernel
theorem dX3_begin_39 : decode cX3_begin 39 = .ok (.aload_n 0, 1) := by decide +kernel
theorem dX3_begin_40 : decode cX3_begin 40 = .ok (.iconst 0, 1) := by decide +kernel
theorem dX3_begin_41 : decode cX3_begin 41 = .ok (.putfield 31, 3) := by decide +kernel
theorem dX3_begin_44 : decode cX3_begin 44 = .ok (.return_, 1) := by decide +kernel
theorem dX3_take_0 : decode cX3_take 0 = .ok (.aload_n 0, 1) := by decide +kernel
theorem dX3_take_1 : decode cX3_take 1 = .ok (.aload_n 1, 1) := by decide +kernel
theorem dX3_take_2 : decode cX3_take 2 = .ok (.getfield 11, 3) := by decide +kernel
theorem dX3_take_5 : decode cX3_take 5 = .ok (.putfield 11, 3) := by decide +kernel
theorem dX3_take_8 : decode cX3_take 8 = .ok (.aload_n 0, 1) := by decide +kernel
theorem dX3_take_9 : decode cX3_take 9 = .ok (.aload_n 1, 1) := by decide +kernel
theorem dX3_take_10 : decode cX3_take 10 = .ok (.getfield 22, 3) := by decide +kernel
theorem dX3_take_13 : decode cX3_take 13 = .ok (.putfield 22, 3) := by decide +kernel
theorem dX3_take_16 : decode cX3_take 16 = .ok (.aload_n 0, 1) := by decide +kernel
theorem dX3_take_17 : decode cX3_take 17 = .ok (.aload_n 1, 1) := by decide +kernel
theorem dX3_take_18 : decode cX3_take 18 = .ok (.getfield 25, 3) := by decide +kernel
theorem dX3_take_21 : decode cX3_take 21 = .ok (.putfield 25, 3) := by decide +kernel
theorem dX3_take_24 : decode cX3_take 24 = .ok (.aload_n 0, 1) := by decide +kernel
theorem dX3_take_25 : decode cX3_take 25 = .ok (.aload_n 1, 1) := by decide +kernel
theorem dX3_take_26 : decode cX3_take 26 = .ok (.getfield 15, 3) := by decide +kernel
theorem dX3_take_29 : decode cX3_take 29 = .ok (.putfield 15, 3) := by decide +kernel
theorem dX3_take_32 : decode cX3_take 32 = .ok (.aload_n 0, 1) := by decide +kernel
theorem dX3_take_33 : decode cX3_take 33 = .ok (.aload_n 1, 1) := by decide +kernel
theorem dX3_take_34 : decode cX3_take 34 = .ok (.getfield 28, 3) := by decide +kernel
theorem dX3_take_37 : decode cX3_take 37 = .ok (.putfield 28, 3) := by decide +kernel
theorem dX3_take_40 : decode cX3_take 40 = .ok (.aload_n 0, 1) := by decide +kernel
theorem dX3_take_41 : decode cX3_take 41 = .ok (.aload_n 1, 1) := by decide +kernel
theorem dX3_take_42 : decode cX3_take 42 = .ok (.getfield 31, 3) := by decide +kernel
theorem dX3_take_45 : decode cX3_take 45 = .ok (.putfield 31, 3) := by decide +kernel
theorem dX3_take_48 : decode cX3_take 48 = .ok (.return_, 1) := by decide +kernel
theorem dX3_whoAt_0 : decode cX3_whoAt 0 = .ok (.aload_n 0, 1) := by decide +kernel
theorem dX3_whoAt_1 : decode cX3_whoAt 1 = .ok (.getfield 11, 3) := by decide +kernel
theorem dX3_whoAt_4 : decode cX3_whoAt 4 = .ok (.iconst 2, 1) := by decide +kernel
theorem dX3_whoAt_5 : decode cX3_whoAt 5 = .ok (.iload_n 1, 1) := by decide +kernel
theorem dX3_whoAt_6 : decode cX3_whoAt 6 = .ok (.imul, 1) := by decide +kernel
theorem dX3_whoAt_7 : decode cX3_whoAt 7 = .ok (.ishr, 1) := by decide +kernel
theorem dX3_whoAt_8 : decode cX3_whoAt 8 = .ok (.iconst 3, 1) := by decide +kernel
theorem dX3_whoAt_9 : decode cX3_whoAt 9 = .ok (.iand, 1) := by decide +kernel
theorem dX3_whoAt_10 : decode cX3_whoAt 10 = .ok (.ireturn, 1) := by decide +kernel
theorem dX3_placeOf_0 : decode cX3_placeOf 0 = .ok (.iconst 0, 1) := by decide +kernel
theorem dX3_placeOf_1 : decode cX3_placeOf 1 = .ok (.istore_n 2, 1) := by decide +kernel
theorem dX3_placeOf_2 : decode cX3_placeOf 2 = .ok (.iload_n 2, 1) := by decide +kernel
theorem dX3_placeOf_3 : decode cX3_placeOf 3 = .ok (.iconst 4, 1) := by decide +kernel
theorem dX3_placeOf_4 : decode cX3_placeOf 4 = .ok (.if_icmp .ge 20, 3) := by decide +kernel
theorem dX3_placeOf_7 : decode cX3_placeOf 7 = .ok (.aload_n 0, 1) := by decide +kernel
theorem dX3_placeOf_8 : decode cX3_placeOf 8 = .ok (.iload_n 2, 1) := by decide +kernel
theorem dX3_placeOf_9 : decode cX3_placeOf 9 = .ok (.invokevirtual 18, 3) := by decide +kernel
theorem dX3_placeOf_12 : decode cX3_placeOf 12 = .ok (.iload_n 1, 1) := by decide +kernel
theorem dX3_placeOf_13 : decode cX3_placeOf 13 = .ok (.if_icmp .ne 5, 3) := by decide +kernel
theorem dX3_placeOf_16 : decode cX3_placeOf 16 = .ok (.iload_n 2, 1) := by decide +kernel
theorem dX3_placeOf_17 : decode cX3_placeOf 17 = .ok (.ireturn, 1) := by decide +kernel
theorem dX3_placeOf_18 : decode cX3_placeOf 18 = .ok (.iinc 2 1, 3) := by decide +kernel
theorem dX3_placeOf_21 : decode cX3_placeOf 21 = .ok (.goto (-19), 3) := by decide +kernel
theorem dX3_placeOf_24 : decode cX3_placeOf 24 = .ok (.iconst (-1), 1) := by decide +kernel
theorem dX3_placeOf_25 : decode cX3_placeOf 25 = .ok (.ireturn, 1) := by decide +kernel
theorem dX3_ropeOf_0 : decode cX3_ropeOf 0 = .ok (.aload_n 0, 1) := by decide +kernel
theorem dX3_ropeOf_1 : decode cX3_ropeOf 1 = .ok (.getfield 22, 3) := by decide +kernel
theorem dX3_ropeOf_4 : decode cX3_ropeOf 4 = .ok (.iload_n 1, 1) := by decide +kernel
theorem dX3_ropeOf_5 : decode cX3_ropeOf 5 = .ok (.ishr, 1) := by decide +kernel
theorem dX3_ropeOf_6 : decode cX3_ropeOf 6 = .ok (.iconst 1, 1) := by decide +kernel
theorem dX3_ropeOf_7 : decode cX3_ropeOf 7 = .ok (.iand, 1) := by decide +kernel
theorem dX3_ropeOf_8 : decode cX3_ropeOf 8 = .ok (.ireturn, 1) := by decide +kernel
theorem dX3_twistsOf_0 : decode cX3_twistsOf 0 = .ok (.iload_n 1, 1) := by decide +kernel
theorem dX3_twistsOf_1 : decode cX3_twistsOf 1 = .ok (.ifCond .eq 10, 3) := by decide +kernel
theorem dX3_twistsOf_4 : decode cX3_twistsOf 4 = .ok (.iload_n 1, 1) := by decide +kernel
theorem dX3_twistsOf_5 : decode cX3_twistsOf 5 = .ok (.iconst 1, 1) := by decide +kernel
theorem dX3_twistsOf_6 : decode cX3_twistsOf 6 = .ok (.if_icmp .eq 5, 3) := by decide +kernel
theorem dX3_twistsOf_9 : decode cX3_twistsOf 9 = .ok (.iconst 0, 1) := by decide +kernel
theorem dX3_twistsOf_10 : decode cX3_twistsOf 10 = .ok (.ireturn, 1) := by decide +kernel
theorem dX3_twistsOf_11 : decode cX3_twistsOf 11 = .ok (.iload_n 1, 1) := by decide +kernel
theorem dX3_twistsOf_12 : decode cX3_twistsOf 12 = .ok (.ifCond .ne 7, 3) := by decide +kernel
theorem dX3_twistsOf_15 : decode cX3_twistsOf 15 = .ok (.iconst 1, 1) := by decide +kernel
theorem dX3_twistsOf_16 : decode cX3_twistsOf 16 = .ok (.goto 4, 3) := by decide +kernel
theorem dX3_twistsOf_19 : decode cX3_twistsOf 19 = .ok (.iconst (-1), 1) := by decide +kernel
theorem dX3_twistsOf_20 : decode cX3_twistsOf 20 = .ok (.istore_n 3, 1) := by decide +kernel
theorem dX3_twistsOf_21 : decode cX3_twistsOf 21 = .ok (.aload_n 0, 1) := by decide +kernel
theorem dX3_twistsOf_22 : decode cX3_twistsOf 22 = .ok (.iconst 1, 1) := by decide +kernel
theorem dX3_twistsOf_23 : decode cX3_twistsOf 23 = .ok (.invokevirtual 18, 3) := by decide +kernel
theorem dX3_twistsOf_26 : decode cX3_twistsOf 26 = .ok (.istore 4, 2) := by decide +kernel
theorem dX3_twistsOf_28 : decode cX3_twistsOf 28 = .ok (.iload_n 2, 1) := by decide +kernel
theorem dX3_twistsOf_29 : decode cX3_twistsOf 29 = .ok (.iload 4, 2) := by decide +kernel
theorem dX3_twistsOf_31 : decode cX3_twistsOf 31 = .ok (.invokestatic 34, 3) := by decide +kernel
theorem dX3_twistsOf_34 : decode cX3_twistsOf 34 = .ok (.tableswitch 96 1 5 #[34, 37, 52, 56, 80], 34) := by decide +kernel
theorem dX3_twistsOf_68 : decode cX3_twistsOf 68 = .ok (.iload_n 3, 1) := by decide +kernel
theorem dX3_twistsOf_69 : decode cX3_twistsOf 69 = .ok (.ineg, 1) := by decide +kernel
theorem dX3_twistsOf_70 : decode cX3_twistsOf 70 = .ok (.ireturn, 1) := by decide +kernel
theorem dX3_twistsOf_71 : decode cX3_twistsOf 71 = .ok (.aload_n 0, 1) := by decide +kernel
theorem dX3_twistsOf_72 : decode cX3_twistsOf 72 = .ok (.getfield 31, 3) := by decide +kernel
theorem dX3_twistsOf_75 : decode cX3_twistsOf 75 = .ok (.iconst 2, 1) := by decide +kernel
theorem dX3_twistsOf_76 : decode cX3_twistsOf 76 = .ok (.irem, 1) := by decide +kernel
theorem dX3_twistsOf_77 : decode cX3_twistsOf 77 = .ok (.ifCond .ne 7, 3) := by decide +kernel
theorem dX3_twistsOf_80 : decode cX3_twistsOf 80 = .ok (.iload_n 3, 1) := by decide +kernel
theorem dX3_twistsOf_81 : decode cX3_twistsOf 81 = .ok (.goto 4, 3) := by decide +kernel
theorem dX3_twistsOf_84 : decode cX3_twistsOf 84 = .ok (.iconst 0, 1) := by decide +kernel
theorem dX3_twistsOf_85 : decode cX3_twistsOf 85 = .ok (.ireturn, 1) := by decide +kernel
theorem dX3_twistsOf_86 : decode cX3_twistsOf 86 = .ok (.iconst 2, 1) := by decide +kernel
theorem dX3_twistsOf_87 : decode cX3_twistsOf 87 = .ok (.iload_n 3, 1) := by decide +kernel
theorem dX3_twistsOf_88 : decode cX3_twistsOf 88 = .ok (.imul, 1) := by decide +kernel
theorem dX3_twistsOf_89 : decode cX3_twistsOf 89 = .ok (.ireturn, 1) := by decide +kernel
theorem dX3_twistsOf_90 : decode cX3_twistsOf 90 = .ok (.aload_n 0, 1) := by decide +kernel
theorem dX3_twistsOf_91 : decode cX3_twistsOf 91 = .ok (.iload 4, 2) := by decide +kernel
theorem dX3_twistsOf_93 : decode cX3_twistsOf 93 = .ok (.invokevirtual 38, 3) := by decide +kernel
theorem dX3_twistsOf_96 : decode cX3_twistsOf 96 = .ok (.aload_n 0, 1) := by decide +kernel
theorem dX3_twistsOf_97 : decode cX3_twistsOf 97 = .ok (.aload_n 0, 1) := by decide +kernel
theorem dX3_twistsOf_98 : decode cX3_twistsOf 98 = .ok (.iconst 2, 1) := by decide +kernel
theorem dX3_twistsOf_99 : decode cX3_twistsOf 99 = .ok (.invokevirtual 18, 3) := by decide +kernel
theorem dX3_twistsOf_102 : decode cX3_twistsOf 102 = .ok (.invokevirtual 38, 3) := by decide +kernel
theorem dX3_twistsOf_105 : decode cX3_twistsOf 105 = .ok (.if_icmp .ne 7, 3) := by decide +kernel
theorem dX3_twistsOf_108 : decode cX3_twistsOf 108 = .ok (.iconst 0, 1) := by decide +kernel
theorem dX3_twistsOf_109 : decode cX3_twistsOf 109 = .ok (.goto 4, 3) := by decide +kernel
theorem dX3_twistsOf_112 : decode cX3_twistsOf 112 = .ok (.iload_n 3, 1) := by decide +kernel
theorem dX3_twistsOf_113 : decode cX3_twistsOf 113 = .ok (.ireturn, 1) := by decide +kernel
theorem dX3_twistsOf_114 : decode cX3_twistsOf 114 = .ok (.aload_n 0, 1) := by decide +kernel
theorem dX3_twistsOf_115 : decode cX3_twistsOf 115 = .ok (.getfield 28, 3) := by decide +kernel
theorem dX3_twistsOf_118 : decode cX3_twistsOf 118 = .ok (.ifCond .ne 7, 3) := by decide +kernel
theorem dX3_twistsOf_121 : decode cX3_twistsOf 121 = .ok (.iload_n 3, 1) := by decide +kernel
theorem dX3_twistsOf_122 : decode cX3_twistsOf 122 = .ok (.goto 7, 3) := by decide +kernel
theorem dX3_twistsOf_125 : decode cX3_twistsOf 125 = .ok (.aload_n 0, 1) := by decide +kernel
theorem dX3_twistsOf_126 : decode cX3_twistsOf 126 = .ok (.getfield 28, 3) := by decide +kernel
theorem dX3_twistsOf_129 : decode cX3_twistsOf 129 = .ok (.ireturn, 1) := by decide +kernel
theorem dX3_twistsOf_130 : decode cX3_twistsOf 130 = .ok (.iload_n 3, 1) := by decide +kernel
theorem dX3_twistsOf_131 : decode cX3_twistsOf 131 = .ok (.ireturn, 1) := by decide +kernel
theorem dX3_isWoundAs_0 : decode cX3_isWoundAs 0 = .ok (.aload_n 0, 1) := by decide +kernel
theorem dX3_isWoundAs_1 : decode cX3_isWoundAs 1 = .ok (.getfield 25, 3) := by decide +kernel
theorem dX3_isWoundAs_4 : decode cX3_isWoundAs 4 = .ok (.iload_n 1, 1) := by decide +kernel
theorem dX3_isWoundAs_5 : decode cX3_isWoundAs 5 = .ok (.if_icmp .ne 15, 3) := by decide +kernel
theorem dX3_isWoundAs_8 : decode cX3_isWoundAs 8 = .ok (.aload_n 0, 1) := by decide +kernel
theorem dX3_isWoundAs_9 : decode cX3_isWoundAs 9 = .ok (.getfield 15, 3) := by decide +kernel
theorem dX3_isWoundAs_12 : decode cX3_isWoundAs 12 = .ok (.iload_n 2, 1) := by decide +kernel
theorem dX3_isWoundAs_13 : decode cX3_isWoundAs 13 = .ok (.if_icmp .ne 7, 3) := by decide +kernel
theorem dX3_isWoundAs_16 : decode cX3_isWoundAs 16 = .ok (.iconst 1, 1) := by decide +kernel
theorem dX3_isWoundAs_17 : decode cX3_isWoundAs 17 = .ok (.goto 4, 3) := by decide +kernel
theorem dX3_isWoundAs_20 : decode cX3_isWoundAs 20 = .ok (.iconst 0, 1) := by decide +kernel
theorem dX3_isWoundAs_21 : decode cX3_isWoundAs 21 = .ok (.ireturn, 1) := by decide +kernel
theorem dX3_woundCode_0 : decode cX3_woundCode 0 = .ok (.aload_n 0, 1) := by decide +kernel
theorem dX3_woundCode_1 : decode cX3_woundCode 1 = .ok (.getfield 25, 3) := by decide +kernel
theorem dX3_woundCode_4 : decode cX3_woundCode 4 = .ok (.sipush 10000, 3) := by decide +kernel
theorem dX3_woundCode_7 : decode cX3_woundCode 7 = .ok (.imul, 1) := by decide +kernel
theorem dX3_woundCode_8 : decode cX3_woundCode 8 = .ok (.aload_n 0, 1) := by decide +kernel
theorem dX3_woundCode_9 : decode cX3_woundCode 9 = .ok (.getfield 15, 3) := by decide +kernel
theorem dX3_woundCode_12 : decode cX3_woundCode 12 = .ok (.iadd, 1) := by decide +kernel
theorem dX3_woundCode_13 : decode cX3_woundCode 13 = .ok (.ireturn, 1) := by decide +kernel
theorem dX3_isTooTight_0 : decode cX3_isTooTight 0 = .ok (.aload_n 0, 1) := by decide +kernel
theorem dX3_isTooTight_1 : decode cX3_isTooTight 1 = .ok (.getfield 25, 3) := by decide +kernel
theorem dX3_isTooTight_4 : decode cX3_isTooTight 4 = .ok (.iload_n 1, 1) := by decide +kernel
theorem dX3_isTooTight_5 : decode cX3_isTooTight 5 = .ok (.aload_n 0, 1) := by decide +kernel
theorem dX3_isTooTight_6 : decode cX3_isTooTight 6 = .ok (.getfield 15, 3) := by decide +kernel
theorem dX3_isTooTight_9 : decode cX3_isTooTight 9 = .ok (.imul, 1) := by decide +kernel
theorem dX3_isTooTight_10 : decode cX3_isTooTight 10 = .ok (.iadd, 1) := by decide +kernel
theorem dX3_isTooTight_11 : decode cX3_isTooTight 11 = .ok (.invokestatic 41, 3) := by decide +kernel
theorem dX3_isTooTight_14 : decode cX3_isTooTight 14 = .ok (.sipush 9999, 3) := by decide +kernel
theorem dX3_isTooTight_17 : decode cX3_isTooTight 17 = .ok (.if_icmp .le 7, 3) := by decide +kernel
theorem dX3_isTooTight_20 : decode cX3_isTooTight 20 = .ok (.iconst 1, 1) := by decide +kernel
theorem dX3_isTooTight_21 : decode cX3_isTooTight 21 = .ok (.goto 4, 3) := by decide +kernel
theorem dX3_isTooTight_24 : decode cX3_isTooTight 24 = .ok (.iconst 0, 1) := by decide +kernel
theorem dX3_isTooTight_25 : decode cX3_isTooTight 25 = .ok (.ireturn, 1) := by decide +kernel
theorem dX3_step_0 : decode cX3_step 0 = .ok (.aload_n 0, 1) := by decide +kernel
theorem dX3_step_1 : decode cX3_step 1 = .ok (.iload_n 1, 1) := by decide +kernel
theorem dX3_step_2 : decode cX3_step 2 = .ok (.iload_n 2, 1) := by decide +kernel
theorem dX3_step_3 : decode cX3_step 3 = .ok (.invokevirtual 46, 3) := by decide +kernel
theorem dX3_step_6 : decode cX3_step 6 = .ok (.istore_n 3, 1) := by decide +kernel
theorem dX3_step_7 : decode cX3_step 7 = .ok (.aload_n 0, 1) := by decide +kernel
theorem dX3_step_8 : decode cX3_step 8 = .ok (.iload_n 3, 1) := by decide +kernel
theorem dX3_step_9 : decode cX3_step 9 = .ok (.invokevirtual 49, 3) := by decide +kernel
theorem dX3_step_12 : decode cX3_step 12 = .ok (.ifCond .eq 5, 3) := by decide +kernel
theorem dX3_step_15 : decode cX3_step 15 = .ok (.iconst 0, 1) := by decide +kernel
theorem dX3_step_16 : decode cX3_step 16 = .ok (.ireturn, 1) := by decide +kernel
theorem dX3_step_17 : decode cX3_step 17 = .ok (.iload_n 1, 1) := by decide +kernel
theorem dX3_step_18 : decode cX3_step 18 = .ok (.iconst 2, 1) := by decide +kernel
theorem dX3_step_19 : decode cX3_step 19 = .ok (.if_icmp .ne 7, 3) := by decide +kernel
theorem dX3_step_22 : decode cX3_step 22 = .ok (.aload_n 0, 1) := by decide +kernel
theorem dX3_step_23 : decode cX3_step 23 = .ok (.invokevirtual 53, 3) := by decide +kernel
theorem dX3_step_26 : decode cX3_step 26 = .ok (.aload_n 0, 1) := by decide +kernel
theorem dX3_step_27 : decode cX3_step 27 = .ok (.dup, 1) := by decide +kernel
theorem dX3_step_28 : decode cX3_step 28 = .ok (.getfield 25, 3) := by decide +kernel
theorem dX3_step_31 : decode cX3_step 31 = .ok (.iload_n 3, 1) := by decide +kernel
theorem dX3_step_32 : decode cX3_step 32 = .ok (.aload_n 0, 1) := by decide +kernel
theorem dX3_step_33 : decode cX3_step 33 = .ok (.getfield 15, 3) := by decide +kernel
theorem dX3_step_36 : decode cX3_step 36 = .ok (.imul, 1) := by decide +kernel
theorem dX3_step_37 : decode cX3_step 37 = .ok (.iadd, 1) := by decide +kernel
theorem dX3_step_38 : decode cX3_step 38 = .ok (.putfield 25, 3) := by decide +kernel
theorem dX3_step_41 : decode cX3_step 41 = .ok (.iload_n 3, 1) := by decide +kernel
theorem dX3_step_42 : decode cX3_step 42 = .ok (.ifCond .eq 16, 3) := by decide +kernel
theorem dX3_step_45 : decode cX3_step 45 = .ok (.aload_n 0, 1) := by decide +kernel
theorem dX3_step_46 : decode cX3_step 46 = .ok (.iload_n 3, 1) := by decide +kernel
theorem dX3_step_47 : decode cX3_step 47 = .ok (.ifCond .le 7, 3) := by decide +kernel
theorem dX3_step_50 : decode cX3_step 50 = .ok (.iconst 1, 1) := by decide +kernel
theorem dX3_step_51 : decode cX3_step 51 = .ok (.goto 4, 3) := by decide +kernel
theorem dX3_step_54 : decode cX3_step 54 = .ok (.iconst (-1), 1) := by decide +kernel
theorem dX3_step_55 : decode cX3_step 55 = .ok (.putfield 28, 3) := by decide +kernel
theorem dX3_step_58 : decode cX3_step 58 = .ok (.iload_n 3, 1) := by decide +kernel
theorem dX3_step_59 : decode cX3_step 59 = .ok (.iconst 2, 1) := by decide +kernel
theorem dX3_step_60 : decode cX3_step 60 = .ok (.irem, 1) := by decide +kernel
theorem dX3_step_61 : decode cX3_step 61 = .ok (.ifCond .eq 9, 3) := by decide +kernel
theorem dX3_step_64 : decode cX3_step 64 = .ok (.aload_n 0, 1) := by decide +kernel
theorem dX3_step_65 : decode cX3_step 65 = .ok (.iconst 1, 1) := by decide +kernel
theorem dX3_step_66 : decode cX3_step 66 = .ok (.iconst 2, 1) := by decide +kernel
theorem dX3_step_67 : decode cX3_step 67 = .ok (.invokevirtual 56, 3) := by decide +kernel
theorem dX3_step_70 : decode cX3_step 70 = .ok (.aload_n 0, 1) := by decide +kernel
theorem dX3_step_71 : decode cX3_step 71 = .ok (.dup, 1) := by decide +kernel
theorem dX3_step_72 : decode cX3_step 72 = .ok (.getfield 31, 3) := by decide +kernel
theorem dX3_step_75 : decode cX3_step 75 = .ok (.iconst 1, 1) := by decide +kernel
theorem dX3_step_76 : decode cX3_step 76 = .ok (.iadd, 1) := by decide +kernel
theorem dX3_step_77 : decode cX3_step 77 = .ok (.putfield 31, 3) := by decide +kernel
theorem dX3_step_80 : decode cX3_step 80 = .ok (.iconst 1, 1) := by decide +kernel
theorem dX3_step_81 : decode cX3_step 81 = .ok (.ireturn, 1) := by decide +kernel
theorem dX3_exchange_0 : decode cX3_exchange 0 = .ok (.aload_n 0, 1) := by decide +kernel
theorem dX3_exchange_1 : decode cX3_exchange 1 = .ok (.iload_n 1, 1) := by decide +kernel
theorem dX3_exchange_2 : decode cX3_exchange 2 = .ok (.invokevirtual 38, 3) := by decide +kernel
theorem dX3_exchange_5 : decode cX3_exchange 5 = .ok (.aload_n 0, 1) := by decide +kernel
theorem dX3_exchange_6 : decode cX3_exchange 6 = .ok (.iload_n 2, 1) := by decide +kernel
theorem dX3_exchange_7 : decode cX3_exchange 7 = .ok (.invokevirtual 38, 3) := by decide +kernel
theorem dX3_exchange_10 : decode cX3_exchange 10 = .ok (.ixor, 1) := by decide +kernel
theorem dX3_exchange_11 : decode cX3_exchange 11 = .ok (.istore_n 3, 1) := by decide +kernel
theorem dX3_exchange_12 : decode cX3_exchange 12 = .ok (.aload_n 0, 1) := by decide +kernel
theorem dX3_exchange_13 : decode cX3_exchange 13 = .ok (.dup, 1) := by decide +kernel
theorem dX3_exchange_14 : decode cX3_exchange 14 = .ok (.getfield 22, 3) := by decide +kernel
theorem dX3_exchange_17 : decode cX3_exchange 17 = .ok (.iload_n 3, 1) := by decide +kernel
theorem dX3_exchange_18 : decode cX3_exchange 18 = .ok (.iload_n 1, 1) := by decide +kernel
theorem dX3_exchange_19 : decode cX3_exchange 19 = .ok (.ishl, 1) := by decide +kernel
theorem dX3_exchange_20 : decode cX3_exchange 20 = .ok (.iload_n 3, 1) := by decide +kernel
theorem dX3_exchange_21 : decode cX3_exchange 21 = .ok (.iload_n 2, 1) := by decide +kernel
theorem dX3_exchange_22 : decode cX3_exchange 22 = .ok (.ishl, 1) := by decide +kernel
theorem dX3_exchange_23 : decode cX3_exchange 23 = .ok (.ior, 1) := by decide +kernel
theorem dX3_exchange_24 : decode cX3_exchange 24 = .ok (.ixor, 1) := by decide +kernel
theorem dX3_exchange_25 : decode cX3_exchange 25 = .ok (.putfield 22, 3) := by decide +kernel
theorem dX3_exchange_28 : decode cX3_exchange 28 = .ok (.aload_n 0, 1) := by decide +kernel
theorem dX3_exchange_29 : decode cX3_exchange 29 = .ok (.aload_n 0, 1) := by decide +kernel
theorem dX3_exchange_30 : decode cX3_exchange 30 = .ok (.iload_n 1, 1) := by decide +kernel
theorem dX3_exchange_31 : decode cX3_exchange 31 = .ok (.invokevirtual 60, 3) := by decide +kernel
theorem dX3_exchange_34 : decode cX3_exchange 34 = .ok (.aload_n 0, 1) := by decide +kernel
theorem dX3_exchange_35 : decode cX3_exchange 35 = .ok (.iload_n 2, 1) := by decide +kernel
theorem dX3_exchange_36 : decode cX3_exchange 36 = .ok (.invokevirtual 60, 3) := by decide +kernel
theorem dX3_exchange_39 : decode cX3_exchange 39 = .ok (.invokevirtual 56, 3) := by decide +kernel
theorem dX3_exchange_42 : decode cX3_exchange 42 = .ok (.return_, 1) := by decide +kernel
theorem dX3_turnAll_0 : decode cX3_turnAll 0 = .ok (.aload_n 0, 1) := by decide +kernel
theorem dX3_turnAll_1 : decode cX3_turnAll 1 = .ok (.aload_n 0, 1) := by decide +kernel
theorem dX3_turnAll_2 : decode cX3_turnAll 2 = .ok (.getfield 11, 3) := by decide +kernel
theorem dX3_turnAll_5 : decode cX3_turnAll 5 = .ok (.iconst 2, 1) := by decide +kernel
theorem dX3_turnAll_6 : decode cX3_turnAll 6 = .ok (.ishl, 1) := by decide +kernel
theorem dX3_turnAll_7 : decode cX3_turnAll 7 = .ok (.aload_n 0, 1) := by decide +kernel
theorem dX3_turnAll_8 : decode cX3_turnAll 8 = .ok (.getfield 11, 3) := by decide +kernel
theorem dX3_turnAll_11 : decode cX3_turnAll 11 = .ok (.bipush 6, 2) := by decide +kernel
theorem dX3_turnAll_13 : decode cX3_turnAll 13 = .ok (.ishr, 1) := by decide +kernel
theorem dX3_turnAll_14 : decode cX3_turnAll 14 = .ok (.ior, 1) := by decide +kernel
theorem dX3_turnAll_15 : decode cX3_turnAll 15 = .ok (.sipush 255, 3) := by decide +kernel
theorem dX3_turnAll_18 : decode cX3_turnAll 18 = .ok (.iand, 1) := by decide +kernel
theorem dX3_turnAll_19 : decode cX3_turnAll 19 = .ok (.putfield 11, 3) := by decide +kernel
theorem dX3_turnAll_22 : decode cX3_turnAll 22 = .ok (.aload_n 0, 1) := by decide +kernel
theorem dX3_turnAll_23 : decode cX3_turnAll 23 = .ok (.getfield 25, 3) := by decide +kernel
theorem dX3_turnAll_26 : decode cX3_turnAll 26 = .ok (.istore_n 1, 1) := by decide +kernel
theorem dX3_turnAll_27 : decode cX3_turnAll 27 = .ok (.iload_n 1, 1) := by decide +kernel
theorem dX3_turnAll_28 : decode cX3_turnAll 28 = .ok (.ifCond .ne 16, 3) := by decide +kernel
theorem dX3_turnAll_31 : decode cX3_turnAll 31 = .ok (.aload_n 0, 1) := by decide +kernel
theorem dX3_turnAll_32 : decode cX3_turnAll 32 = .ok (.iconst 1, 1) := by decide +kernel
theorem dX3_turnAll_33 : decode cX3_turnAll 33 = .ok (.putfield 25, 3) := by decide +kernel
theorem dX3_turnAll_36 : decode cX3_turnAll 36 = .ok (.aload_n 0, 1) := by decide +kernel
theorem dX3_turnAll_37 : decode cX3_turnAll 37 = .ok (.iconst 0, 1) := by decide +kernel
theorem dX3_turnAll_38 : decode cX3_turnAll 38 = .ok (.putfield 15, 3) := by decide +kernel
theorem dX3_turnAll_41 : decode cX3_turnAll 41 = .ok (.goto 31, 3) := by decide +kernel
theorem dX3_turnAll_44 : decode cX3_turnAll 44 = .ok (.aload_n 0, 1) := by decide +kernel
theorem dX3_turnAll_45 : decode cX3_turnAll 45 = .ok (.iload_n 1, 1) := by decide +kernel
theorem dX3_turnAll_46 : decode cX3_turnAll 46 = .ok (.ifCond .le 11, 3) := by decide +kernel
theorem dX3_turnAll_49 : decode cX3_turnAll 49 = .ok (.aload_n 0, 1) := by decide +kernel
theorem dX3_turnAll_50 : decode cX3_turnAll 50 = .ok (.getfield 15, 3) := by decide +kernel
theorem dX3_turnAll_53 : decode cX3_turnAll 53 = .ok (.ineg, 1) := by decide +kernel
theorem dX3_turnAll_54 : decode cX3_turnAll 54 = .ok (.goto 7, 3) := by decide +kernel
theorem dX3_turnAll_57 : decode cX3_turnAll 57 = .ok (.aload_n 0, 1) := by decide +kernel
theorem dX3_turnAll_58 : decode cX3_turnAll 58 = .ok (.getfield 15, 3) := by decide +kernel
theorem dX3_turnAll_61 : decode cX3_turnAll 61 = .ok (.putfield 25, 3) := by decide +kernel
theorem dX3_turnAll_64 : decode cX3_turnAll 64 = .ok (.aload_n 0, 1) := by decide +kernel
theorem dX3_turnAll_65 : decode cX3_turnAll 65 = .ok (.iload_n 1, 1) := by decide +kernel
theorem dX3_turnAll_66 : decode cX3_turnAll 66 = .ok (.invokestatic 41, 3) := by decide +kernel
theorem dX3_turnAll_69 : decode cX3_turnAll 69 = .ok (.putfield 15, 3) := by decide +kernel
theorem dX3_turnAll_72 : decode cX3_turnAll 72 = .ok (.return_, 1) := by decide +kernel
theorem dX3_swapPlaces_0 : decode cX3_swapPlaces 0 = .ok (.aload_n 0, 1) := by decide +kernel
theorem dX3_swapPlaces_1 : decode cX3_swapPlaces 1 = .ok (.getfield 11, 3) := by decide +kernel
theorem dX3_swapPlaces_4 : decode cX3_swapPlaces 4 = .ok (.iconst 2, 1) := by decide +kernel
theorem dX3_swapPlaces_5 : decode cX3_swapPlaces 5 = .ok (.iload_n 1, 1) := by decide +kernel
theorem dX3_swapPlaces_6 : decode cX3_swapPlaces 6 = .ok (.imul, 1) := by decide +kernel
theorem dX3_swapPlaces_7 : decode cX3_swapPlaces 7 = .ok (.ishr, 1) := by decide +kernel
theorem dX3_swapPlaces_8 : decode cX3_swapPlaces 8 = .ok (.aload_n 0, 1) := by decide +kernel
theorem dX3_swapPlaces_9 : decode cX3_swapPlaces 9 = .ok (.getfield 11, 3) := by decide +kernel
theorem dX3_swapPlaces_12 : decode cX3_swapPlaces 12 = .ok (.iconst 2, 1) := by decide +kernel
theorem dX3_swapPlaces_13 : decode cX3_swapPlaces 13 = .ok (.iload_n 2, 1) := by decide +kernel
theorem dX3_swapPlaces_14 : decode cX3_swapPlaces 14 = .ok (.imul, 1) := by decide +kernel
theorem dX3_swapPlaces_15 : decode cX3_swapPlaces 15 = .ok (.ishr, 1) := by decide +kernel
theorem dX3_swapPlaces_16 : decode cX3_swapPlaces 16 = .ok (.ixor, 1) := by decide +kernel
theorem dX3_swapPlaces_17 : decode cX3_swapPlaces 17 = .ok (.iconst 3, 1) := by decide +kernel
theorem dX3_swapPlaces_18 : decode cX3_swapPlaces 18 = .ok (.iand, 1) := by decide +kernel
theorem dX3_swapPlaces_19 : decode cX3_swapPlaces 19 = .ok (.istore_n 3, 1) := by decide +kernel
theorem dX3_swapPlaces_20 : decode cX3_swapPlaces 20 = .ok (.aload_n 0, 1) := by decide +kernel
theorem dX3_swapPlaces_21 : decode cX3_swapPlaces 21 = .ok (.dup, 1) := by decide +kernel
theorem dX3_swapPlaces_22 : decode cX3_swapPlaces 22 = .ok (.getfield 11, 3) := by decide +kernel
theorem dX3_swapPlaces_25 : decode cX3_swapPlaces 25 = .ok (.iload_n 3, 1) := by decide +kernel
theorem dX3_swapPlaces_26 : decode cX3_swapPlaces 26 = .ok (.iconst 2, 1) := by decide +kernel
theorem dX3_swapPlaces_27 : decode cX3_swapPlaces 27 = .ok (.iload_n 1, 1) := by decide +kernel
theorem dX3_swapPlaces_28 : decode cX3_swapPlaces 28 = .ok (.imul, 1) := by decide +kernel
theorem dX3_swapPlaces_29 : decode cX3_swapPlaces 29 = .ok (.ishl, 1) := by decide +kernel
theorem dX3_swapPlaces_30 : decode cX3_swapPlaces 30 = .ok (.iload_n 3, 1) := by decide +kernel
theorem dX3_swapPlaces_31 : decode cX3_swapPlaces 31 = .ok (.iconst 2, 1) := by decide +kernel
theorem dX3_swapPlaces_32 : decode cX3_swapPlaces 32 = .ok (.iload_n 2, 1) := by decide +kernel
theorem dX3_swapPlaces_33 : decode cX3_swapPlaces 33 = .ok (.imul, 1) := by decide +kernel
theorem dX3_swapPlaces_34 : decode cX3_swapPlaces 34 = .ok (.ishl, 1) := by decide +kernel
theorem dX3_swapPlaces_35 : decode cX3_swapPlaces 35 = .ok (.ior, 1) := by decide +kernel
theorem dX3_swapPlaces_36 : decode cX3_swapPlaces 36 = .ok (.ixor, 1) := by decide +kernel
theorem dX3_swapPlaces_37 : decode cX3_swapPlaces 37 = .ok (.putfield 11, 3) := by decide +kernel
theorem dX3_swapPlaces_40 : decode cX3_swapPlaces 40 = .ok (.return_, 1) := by decide +kernel
theorem dJ6_bitCount_0f7a4_0 : decode cJ6_bitCount_0f7a4 0 = .ok (.iload_n 0, 1) := by decide +kernel
theorem dJ6_bitCount_0f7a4_1 : decode cJ6_bitCount_0f7a4 1 = .ok (.iload_n 0, 1) := by decide +kernel
theorem dJ6_bitCount_0f7a4_2 : decode cJ6_bitCount_0f7a4 2 = .ok (.iconst 1, 1) := by decide +kernel
theorem dJ6_bitCount_0f7a4_3 : decode cJ6_bitCount_0f7a4 3 = .ok (.iushr, 1) := by decide +kernel
theorem dJ6_bitCount_0f7a4_4 : decode cJ6_bitCount_0f7a4 4 = .ok (.ldc_w 265, 3) := by decide +kernel
theorem dJ6_bitCount_0f7a4_7 : decode cJ6_bitCount_0f7a4 7 = .ok (.iand, 1) := by decide +kernel
theorem dJ6_bitCount_0f7a4_8 : decode cJ6_bitCount_0f7a4 8 = .ok (.isub, 1) := by decide +kernel
theorem dJ6_bitCount_0f7a4_9 : decode cJ6_bitCount_0f7a4 9 = .ok (.istore_n 0, 1) := by decide +kernel
theorem dJ6_bitCount_0f7a4_10 : decode cJ6_bitCount_0f7a4 10 = .ok (.iload_n 0, 1) := by decide +kernel
theorem dJ6_bitCount_0f7a4_11 : decode cJ6_bitCount_0f7a4 11 = .ok (.ldc_w 266, 3) := by decide +kernel
theorem dJ6_bitCount_0f7a4_14 : decode cJ6_bitCount_0f7a4 14 = .ok (.iand, 1) := by decide +kernel
theorem dJ6_bitCount_0f7a4_15 : decode cJ6_bitCount_0f7a4 15 = .ok (.iload_n 0, 1) := by decide +kernel
theorem dJ6_bitCount_0f7a4_16 : decode cJ6_bitCount_0f7a4 16 = .ok (.iconst 2, 1) := by decide +kernel
theorem dJ6_bitCount_0f7a4_17 : decode cJ6_bitCount_0f7a4 17 = .ok (.iushr, 1) := by decide +kernel
theorem dJ6_bitCount_0f7a4_18 : decode cJ6_bitCount_0f7a4 18 = .ok (.ldc_w 266, 3) := by decide +kernel
theorem dJ6_bitCount_0f7a4_21 : decode cJ6_bitCount_0f7a4 21 = .ok (.iand, 1) := by decide +kernel
theorem dJ6_bitCount_0f7a4_22 : decode cJ6_bitCount_0f7a4 22 = .ok (.iadd, 1) := by decide +kernel
theorem dJ6_bitCount_0f7a4_23 : decode cJ6_bitCount_0f7a4 23 = .ok (.istore_n 0, 1) := by decide +kernel
theorem dJ6_bitCount_0f7a4_24 : decode cJ6_bitCount_0f7a4 24 = .ok (.iload_n 0, 1) := by decide +kernel
theorem dJ6_bitCount_0f7a4_25 : decode cJ6_bitCount_0f7a4 25 = .ok (.iload_n 0, 1) := by decide +kernel
theorem dJ6_bitCount_0f7a4_26 : decode cJ6_bitCount_0f7a4 26 = .ok (.iconst 4, 1) := by decide +kernel
theorem dJ6_bitCount_0f7a4_27 : decode cJ6_bitCount_0f7a4 27 = .ok (.iushr, 1) := by decide +kernel
theorem dJ6_bitCount_0f7a4_28 : decode cJ6_bitCount_0f7a4 28 = .ok (.iadd, 1) := by decide +kernel
theorem dJ6_bitCount_0f7a4_29 : decode cJ6_bitCount_0f7a4 29 = .ok (.ldc_w 267, 3) := by decide +kernel
theorem dJ6_bitCount_0f7a4_32 : decode cJ6_bitCount_0f7a4 32 = .ok (.iand, 1) := by decide +kernel
theorem dJ6_bitCount_0f7a4_33 : decode cJ6_bitCount_0f7a4 33 = .ok (.istore_n 0, 1) := by decide +kernel
theorem dJ6_bitCount_0f7a4_34 : decode cJ6_bitCount_0f7a4 34 = .ok (.iload_n 0, 1) := by decide +kernel
theorem dJ6_bitCount_0f7a4_35 : decode cJ6_bitCount_0f7a4 35 = .ok (.iload_n 0, 1) := by decide +kernel
theorem dJ6_bitCount_0f7a4_36 : decode cJ6_bitCount_0f7a4 36 = .ok (.bipush 8, 2) := by decide +kernel
theorem dJ6_bitCount_0f7a4_38 : decode cJ6_bitCount_0f7a4 38 = .ok (.iushr, 1) := by decide +kernel
theorem dJ6_bitCount_0f7a4_39 : decode cJ6_bitCount_0f7a4 39 = .ok (.iadd, 1) := by decide +kernel
theorem dJ6_bitCount_0f7a4_40 : decode cJ6_bitCount_0f7a4 40 = .ok (.istore_n 0, 1) := by decide +kernel
theorem dJ6_bitCount_0f7a4_41 : decode cJ6_bitCount_0f7a4 41 = .ok (.iload_n 0, 1) := by decide +kernel
theorem dJ6_bitCount_0f7a4_42 : decode cJ6_bitCount_0f7a4 42 = .ok (.iload_n 0, 1) := by decide +kernel
theorem dJ6_bitCount_0f7a4_43 : decode cJ6_bitCount_0f7a4 43 = .ok (.bipush 16, 2) := by decide +kernel
theorem dJ6_bitCount_0f7a4_45 : decode cJ6_bitCount_0f7a4 45 = .ok (.iushr, 1) := by decide +kernel
theorem dJ6_bitCount_0f7a4_46 : decode cJ6_bitCount_0f7a4 46 = .ok (.iadd, 1) := by decide +kernel
theorem dJ6_bitCount_0f7a4_47 : decode cJ6_bitCount_0f7a4 47 = .ok (.istore_n 0, 1) := by decide +kernel
theorem dJ6_bitCount_0f7a4_48 : decode cJ6_bitCount_0f7a4 48 = .ok (.iload_n 0, 1) := by decide +kernel
theorem dJ6_bitCount_0f7a4_49 : decode cJ6_bitCount_0f7a4 49 = .ok (.bipush 63, 2) := by decide +kernel
theorem dJ6_bitCount_0f7a4_51 : decode cJ6_bitCount_0f7a4 51 = .ok (.iand, 1) := by decide +kernel
theorem dJ6_bitCount_0f7a4_52 : decode cJ6_bitCount_0f7a4 52 = .ok (.ireturn, 1) := by decide +kernel
end
section
theorem dX4_init_0 : decode cX4_init 0 = .ok (.aload_n 0, 1) := by decide +kernel
theorem dX4_init_1 : decode cX4_init 1 = .ok (.invokespecial 1, 3) := by decide +kernel
theorem dX4_init_4 : decode cX4_init 4 = .ok (.aload_n 0, 1) := by decide +kernel
theorem dX4_init_5 : decode cX4_init 5 = .ok (.new 7, 3) := by decide +kernel
theorem dX4_init_8 : decode cX4_init 8 = .ok (.dup, 1) := by decide +kernel
theorem dX4_init_9 : decode cX4_init 9 = .ok (.invokespecial 9, 3) := by decide +kernel
theorem dX4_init_12 : decode cX4_init 12 = .ok (.putfield 10, 3) := by decide +kernel
theorem dX4_init_15 : decode cX4_init 15 = .ok (.aload_n 0, 1) := by decide +kernel
theorem dX4_init_16 : decode cX4_init 16 = .ok (.new 16, 3) := by decide +kernel
theorem dX4_init_19 : decode cX4_init 19 = .ok (.dup, 1) := by decide +kernel
theorem dX4_init_20 : decode cX4_init 20 = .ok (.invokespecial 18, 3) := by decide +kernel
theorem dX4_init_23 : decode cX4_init 23 = .ok (.putfield 19, 3) := by decide +kernel
theorem dX4_init_26 : decode cX4_init 26 = .ok (.aload_n 0, 1) := by decide +kernel
theorem dX4_init_27 : decode cX4_init 27 = .ok (.new 16, 3) := by decide +kernel
theorem dX4_init_30 : decode cX4_init 30 = .ok (.dup, 1) := by decide +kernel
theorem dX4_init_31 : decode cX4_init 31 = .ok (.invokespecial 18, 3) := by decide +kernel
theorem dX4_init_34 : decode cX4_init 34 = .ok (.putfield 23, 3) := by decide +kernel
theorem dX4_init_37 : decode cX4_init 37 = .ok (.aload_n 0, 1) := by decide +kernel
theorem dX4_init_38 : decode cX4_init 38 = .ok (.new 26, 3) := by decide +kernel
theorem dX4_init_41 : decode cX4_init 41 = .ok (.dup, 1) := by decide +kernel
theorem dX4_init_42 : decode cX4_init 42 = .ok (.bipush 8, 2) := by decide +kernel
theorem dX4_init_44 : decode cX4_init 44 = .ok (.invokespecial 28, 3) := by decide +kernel
theorem dX4_init_47 : decode cX4_init 47 = .ok (.putfield 31, 3) := by decide +kernel
theorem dX4_init_50 : decode cX4_init 50 = .ok (.aload_n 0, 1) := by decide +kernel
theorem dX4_init_51 : decode cX4_init 51 = .ok (.new 26, 3) := by decide +kernel
theorem dX4_init_54 : decode cX4_init 54 = .ok (.dup, 1) := by decide +kernel
theorem dX4_init_55 : decode cX4_init 55 = .ok (.iconst 2, 1) := by decide +kernel
theorem dX4_init_56 : decode cX4_init 56 = .ok (.invokespecial 28, 3) := by decide +kernel
theorem dX4_init_59 : decode cX4_init 59 = .ok (.putfield 35, 3) := by decide +kernel
theorem dX4_init_62 : decode cX4_init 62 = .ok (.aload_n 0, 1) := by decide +kernel
theorem dX4_init_63 : decode cX4_init 63 = .ok (.new 38, 3) := by decide +kernel
theorem dX4_init_66 : decode cX4_init 66 = .ok (.dup, 1) := by decide +kernel
theorem dX4_init_67 : decode cX4_init 67 = .ok (.invokespecial 40, 3) := by decide +kernel
theorem dX4_init_70 : decode cX4_init 70 = .ok (.putfield 41, 3) := by decide +kernel
theorem dX4_init_73 : decode cX4_init 73 = .ok (.aload_n 0, 1) := by decide +kernel
theorem dX4_init_74 : decode cX4_init 74 = .ok (.bipush 6, 2) := by decide +kernel
theorem dX4_init_76 : decode cX4_init 76 = .ok (.newarray .int, 2) := by decide +kernel
theorem dX4_init_78 : decode cX4_init 78 = .ok (.putfield 45, 3) := by decide +kernel
theorem dX4_init_81 : decode cX4_init 81 = .ok (.aload_n 0, 1) := by decide +kernel
theorem dX4_init_82 : decode cX4_init 82 = .ok (.bipush 6, 2) := by decide +kernel
theorem dX4_init_84 : decode cX4_init 84 = .ok (.newarray .int, 2) := by decide +kernel
theorem dX4_init_86 : decode cX4_init 86 = .ok (.putfield 49, 3) := by decide +kernel
theorem dX4_init_89 : decode cX4_init 89 = .ok (.aload_n 0, 1) := by decide +kernel
theorem dX4_init_90 : decode cX4_init 90 = .ok (.bipush 6, 2) := by decide +kernel
theorem dX4_init_92 : decode cX4_init 92 = .ok (.newarray .int, 2) := by decide +kernel
theorem dX4_init_94 : decode cX4_init 94 = .ok (.putfield 52, 3) := by decide +kernel
theorem dX4_init_97 : decode cX4_init 97 = .ok (.aload_n 0, 1) := by decide +kernel
theorem dX4_init_98 : decode cX4_init 98 = .ok (.bipush 6, 2) := by decide +kernel
theorem dX4_init_100 : decode cX4_init 100 = .ok (.newarray .int, 2) := by decide +kernel
theorem dX4_init_102 : decode cX4_init 102 = .ok (.putfield 55, 3) := by decide +kernel
theorem dX4_init_105 : decode cX4_init 105 = .ok (.iconst 0, 1) := by decide +kernel
theorem dX4_init_106 : decode cX4_init 106 = .ok (.istore_n 1, 1) := by decide +kernel
theorem dX4_init_107 : decode cX4_init 107 = .ok (.iload_n 1, 1) := by decide +kernel
theorem dX4_init_108 : decode cX4_init 108 = .ok (.ldc 58, 2) := by decide +kernel
theorem dX4_init_110 : decode cX4_init 110 = .ok (.invokevirtual 60, 3) := by decide +kernel
theorem dX4_init_113 : decode cX4_init 113 = .ok (.if_icmp .ge 23, 3) := by decide +kernel
theorem dX4_init_116 : decode cX4_init 116 = .ok (.aload_n 0, 1) := by decide +kernel
theorem dX4_init_117 : decode cX4_init 117 = .ok (.getfield 10, 3) := by decide +kernel
theorem dX4_init_120 : decode cX4_init 120 = .ok (.ldc 58, 2) := by decide +kernel
theorem dX4_init_122 : decode cX4_init 122 = .ok (.iload_n 1, 1) := by decide +kernel
theorem dX4_init_123 : decode cX4_init 123 = .ok (.invokevirtual 66, 3) := by decide +kernel
theorem dX4_init_126 : decode cX4_init 126 = .ok (.invokevirtual 70, 3) := by decide +kernel
theorem dX4_init_129 : decode cX4_init 129 = .ok (.pop, 1) := by decide +kernel
theorem dX4_init_130 : decode cX4_init 130 = .ok (.iinc 1 1, 3) := by decide +kernel
theorem dX4_init_133 : decode cX4_init 133 = .ok (.goto (-26), 3) := by decide +kernel
theorem dX4_init_136 : decode cX4_init 136 = .ok (.aload_n 0, 1) := by decide +kernel
theorem dX4_init_137 : decode cX4_init 137 = .ok (.getfield 10, 3) := by decide +kernel
theorem dX4_init_140 : decode cX4_init 140 = .ok (.invokevirtual 74, 3) := by decide +kernel
theorem dX4_init_143 : decode cX4_init 143 = .ok (.ifCond .eq 7, 3) := by decide +kernel
theorem dX4_init_146 : decode cX4_init 146 = .ok (.aload_n 0, 1) := by decide +kernel
theorem dX4_init_147 : decode cX4_init 147 = .ok (.invokevirtual 78, 3) := by decide +kernel
theorem dX4_init_150 : decode cX4_init 150 = .ok (.aload_n 0, 1) := by decide +kernel
theorem dX4_init_151 : decode cX4_init 151 = .ok (.getfield 10, 3) := by decide +kernel
theorem dX4_init_154 : decode cX4_init 154 = .ok (.invokevirtual 81, 3) := by decide +kernel
theorem dX4_init_157 : decode cX4_init 157 = .ok (.return_, 1) := by decide +kernel
theorem dX4_write_0 : decode cX4_write 0 = .ok (.iload_n 1, 1) := by decide +kernel
theorem dX4_write_1 : decode cX4_write 1 = .ok (.bipush 32, 2) := by decide +kernel
theorem dX4_write_3 : decode cX4_write 3 = .ok (.if_icmp .lt 9, 3) := by decide +kernel
theorem dX4_write_6 : decode cX4_write 6 = .ok (.iload_n 1, 1) := by decide +kernel
theorem dX4_write_7 : decode cX4_write 7 = .ok (.bipush 126, 2) := by decide +kernel
theorem dX4_write_9 : decode cX4_write 9 = .ok (.if_icmp .le 5, 3) := by decide +kernel
theorem dX4_write_12 : decode cX4_write 12 = .ok (.iconst (-1), 1) := by decide +kernel
theorem dX4_write_13 : decode cX4_write 13 = .ok (.ireturn, 1) := by decide +kernel
theorem dX4_write_14 : decode cX4_write 14 = .ok (.aload_n 0, 1) := by decide +kernel
theorem dX4_write_15 : decode cX4_write 15 = .ok (.getfield 10, 3) := by decide +kernel
theorem dX4_write_18 : decode cX4_write 18 = .ok (.iload_n 1, 1) := by decide +kernel
theorem dX4_write_19 : decode cX4_write 19 = .ok (.invokevirtual 70, 3) := by decide +kernel
theorem dX4_write_22 : decode cX4_write 22 = .ok (.ifCond .eq 13, 3) := by decide +kernel
theorem dX4_write_25 : decode cX4_write 25 = .ok (.aload_n 0, 1) := by decide +kernel
theorem dX4_write_26 : decode cX4_write 26 = .ok (.getfield 10, 3) := by decide +kernel
theorem dX4_write_29 : decode cX4_write 29 = .ok (.getfield 84, 3) := by decide +kernel
theorem dX4_write_32 : decode cX4_write 32 = .ok (.goto 5, 3) := by decide +kernel
theorem dX4_write_35 : decode cX4_write 35 = .ok (.bipush (-3), 2) := by decide +kernel
theorem dX4_write_37 : decode cX4_write 37 = .ok (.ireturn, 1) := by decide +kernel
theorem dX4_wipe_0 : decode cX4_wipe 0 = .ok (.aload_n 0, 1) := by decide +kernel
theorem dX4_wipe_1 : decode cX4_wipe 1 = .ok (.getfield 10, 3) := by decide +kernel
theorem dX4_wipe_4 : decode cX4_wipe 4 = .ok (.getfield 84, 3) := by decide +kernel
theorem dX4_wipe_7 : decode cX4_wipe 7 = .ok (.istore_n 1, 1) := by decide +kernel
theorem dX4_wipe_8 : decode cX4_wipe 8 = .ok (.aload_n 0, 1) := by decide +kernel
theorem dX4_wipe_9 : decode cX4_wipe 9 = .ok (.getfield 10, 3) := by decide +kernel
theorem dX4_wipe_12 : decode cX4_wipe 12 = .ok (.invokevirtual 81, 3) := by decide +kernel
theorem dX4_wipe_15 : decode cX4_wipe 15 = .ok (.iload_n 1, 1) := by decide +kernel
theorem dX4_wipe_16 : decode cX4_wipe 16 = .ok (.ireturn, 1) := by decide +kernel
theorem dX4_fault_0 : decode cX4_fault 0 = .ok (.aload_n 0, 1) := by decide +kernel
theorem dX4_fault_1 : decode cX4_fault 1 = .ok (.getfield 10, 3) := by decide +kernel
theorem dX4_fault_4 : decode cX4_fault 4 = .ok (.invokevirtual 87, 3) := by decide +kernel
theorem dX4_fault_7 : decode cX4_fault 7 = .ok (.ireturn, 1) := by decide +kernel
theorem dX4_lay_0 : decode cX4_lay 0 = .ok (.aload_n 0, 1) := by decide +kernel
theorem dX4_lay_1 : decode cX4_lay 1 = .ok (.getfield 10, 3) := by decide +kernel
theorem dX4_lay_4 : decode cX4_lay 4 = .ok (.invokevirtual 74, 3) := by decide +kernel
theorem dX4_lay_7 : decode cX4_lay 7 = .ok (.ifCond .ne 6, 3) := by decide +kernel
theorem dX4_lay_10 : decode cX4_lay 10 = .ok (.bipush (-2), 2) := by decide +kernel
theorem dX4_lay_12 : decode cX4_lay 12 = .ok (.ireturn, 1) := by decide +kernel
theorem dX4_lay_13 : decode cX4_lay 13 = .ok (.aload_n 0, 1) := by decide +kernel
theorem dX4_lay_14 : decode cX4_lay 14 = .ok (.invokevirtual 78, 3) := by decide +kernel
theorem dX4_lay_17 : decode cX4_lay 17 = .ok (.aload_n 0, 1) := by decide +kernel
theorem dX4_lay_18 : decode cX4_lay 18 = .ok (.getfield 90, 3) := by decide +kernel
theorem dX4_lay_21 : decode cX4_lay 21 = .ok (.ireturn, 1) := by decide +kernel
theorem dX4_dancer_0 : decode cX4_dancer 0 = .ok (.iload_n 1, 1) := by decide +kernel
theorem dX4_dancer_1 : decode cX4_dancer 1 = .ok (.invokestatic 93, 3) := by decide +kernel
theorem dX4_dancer_4 : decode cX4_dancer 4 = .ok (.ifCond .eq 12, 3) := by decide +kernel
theorem dX4_dancer_7 : decode cX4_dancer 7 = .ok (.iload_n 2, 1) := by decide +kernel
theorem dX4_dancer_8 : decode cX4_dancer 8 = .ok (.ifCond .lt 8, 3) := by decide +kernel
theorem dX4_dancer_11 : decode cX4_dancer 11 = .ok (.iload_n 2, 1) := by decide +kernel
theorem dX4_dancer_12 : decode cX4_dancer 12 = .ok (.iconst 2, 1) := by decide +kernel
theorem dX4_dancer_13 : decode cX4_dancer 13 = .ok (.if_icmp .le 5, 3) := by decide +kernel
theorem dX4_dancer_16 : decode cX4_dancer 16 = .ok (.iconst (-1), 1) := by decide +kernel
theorem dX4_dancer_17 : decode cX4_dancer 17 = .ok (.ireturn, 1) := by decide +kernel
theorem dX4_dancer_18 : decode cX4_dancer 18 = .ok (.iload_n 2, 1) := by decide +kernel
theorem dX4_dancer_19 : decode cX4_dancer 19 = .ok (.ifCond .ne 12, 3) := by decide +kernel
theorem dX4_dancer_22 : decode cX4_dancer 22 = .ok (.aload_n 0, 1) := by decide +kernel
theorem dX4_dancer_23 : decode cX4_dancer 23 = .ok (.getfield 96, 3) := by decide +kernel
theorem dX4_dancer_26 : decode cX4_dancer 26 = .ok (.iload_n 1, 1) := by decide +kernel
theorem dX4_dancer_27 : decode cX4_dancer 27 = .ok (.invokestatic 99, 3) := by decide +kernel
theorem dX4_dancer_30 : decode cX4_dancer 30 = .ok (.ireturn, 1) := by decide +kernel
theorem dX4_dancer_31 : decode cX4_dancer 31 = .ok (.iload_n 2, 1) := by decide +kernel
theorem dX4_dancer_32 : decode cX4_dancer 32 = .ok (.iconst 1, 1) := by decide +kernel
theorem dX4_dancer_33 : decode cX4_dancer 33 = .ok (.if_icmp .ne 14, 3) := by decide +kernel
theorem dX4_dancer_36 : decode cX4_dancer 36 = .ok (.aload_n 0, 1) := by decide +kernel
theorem dX4_dancer_37 : decode cX4_dancer 37 = .ok (.getfield 19, 3) := by decide +kernel
theorem dX4_dancer_40 : decode cX4_dancer 40 = .ok (.iload_n 1, 1) := by decide +kernel
theorem dX4_dancer_41 : decode cX4_dancer 41 = .ok (.invokevirtual 103, 3) := by decide +kernel
theorem dX4_dancer_44 : decode cX4_dancer 44 = .ok (.goto 11, 3) := by decide +kernel
theorem dX4_dancer_47 : decode cX4_dancer 47 = .ok (.aload_n 0, 1) := by decide +kernel
theorem dX4_dancer_48 : decode cX4_dancer 48 = .ok (.getfield 19, 3) := by decide +kernel
theorem dX4_dancer_51 : decode cX4_dancer 51 = .ok (.iload_n 1, 1) := by decide +kernel
theorem dX4_dancer_52 : decode cX4_dancer 52 = .ok (.invokevirtual 107, 3) := by decide +kernel
theorem dX4_dancer_55 : decode cX4_dancer 55 = .ok (.ireturn, 1) := by decide +kernel
theorem dX4_place_0 : decode cX4_place 0 = .ok (.iload_n 1, 1) := by decide +kernel
theorem dX4_place_1 : decode cX4_place 1 = .ok (.ifCond .lt 17, 3) := by decide +kernel
theorem dX4_place_4 : decode cX4_place 4 = .ok (.iload_n 1, 1) := by decide +kernel
theorem dX4_place_5 : decode cX4_place 5 = .ok (.iconst 4, 1) := by decide +kernel
theorem dX4_place_6 : decode cX4_place 6 = .ok (.if_icmp .ge 12, 3) := by decide +kernel
theorem dX4_place_9 : decode cX4_place 9 = .ok (.iload_n 2, 1) := by decide +kernel
theorem dX4_place_10 : decode cX4_place 10 = .ok (.ifCond .lt 8, 3) := by decide +kernel
theorem dX4_place_13 : decode cX4_place 13 = .ok (.iload_n 2, 1) := by decide +kernel
theorem dX4_place_14 : decode cX4_place 14 = .ok (.iconst 1, 1) := by decide +kernel
theorem dX4_place_15 : decode cX4_place 15 = .ok (.if_icmp .le 5, 3) := by decide +kernel
theorem dX4_place_18 : decode cX4_place 18 = .ok (.iconst (-1), 1) := by decide +kernel
theorem dX4_place_19 : decode cX4_place 19 = .ok (.ireturn, 1) := by decide +kernel
theorem dX4_place_20 : decode cX4_place 20 = .ok (.aload_n 0, 1) := by decide +kernel
theorem dX4_place_21 : decode cX4_place 21 = .ok (.getfield 19, 3) := by decide +kernel
theorem dX4_place_24 : decode cX4_place 24 = .ok (.iload_n 1, 1) := by decide +kernel
theorem dX4_place_25 : decode cX4_place 25 = .ok (.invokevirtual 110, 3) := by decide +kernel
theorem dX4_place_28 : decode cX4_place 28 = .ok (.istore_n 3, 1) := by decide +kernel
theorem dX4_place_29 : decode cX4_place 29 = .ok (.iload_n 2, 1) := by decide +kernel
theorem dX4_place_30 : decode cX4_place 30 = .ok (.ifCond .ne 7, 3) := by decide +kernel
theorem dX4_place_33 : decode cX4_place 33 = .ok (.iload_n 3, 1) := by decide +kernel
theorem dX4_place_34 : decode cX4_place 34 = .ok (.goto 11, 3) := by decide +kernel
theorem dX4_place_37 : decode cX4_place 37 = .ok (.aload_n 0, 1) := by decide +kernel
theorem dX4_place_38 : decode cX4_place 38 = .ok (.getfield 19, 3) := by decide +kernel
theorem dX4_place_41 : decode cX4_place 41 = .ok (.iload_n 3, 1) := by decide +kernel
theorem dX4_place_42 : decode cX4_place 42 = .ok (.invokevirtual 107, 3) := by decide +kernel
theorem dX4_place_45 : decode cX4_place 45 = .ok (.ireturn, 1) := by decide +kernel
theorem dX4_wound_0 : decode cX4_wound 0 = .ok (.iload_n 1, 1) := by decide +kernel
theorem dX4_wound_1 : decode cX4_wound 1 = .ok (.ifCond .lt 8, 3) := by decide +kernel
theorem dX4_wound_4 : decode cX4_wound 4 = .ok (.iload_n 1, 1) := by decide +kernel
theorem dX4_wound_5 : decode cX4_wound 5 = .ok (.iconst 1, 1) := by decide +kernel
theorem dX4_wound_6 : decode cX4_wound 6 = .ok (.if_icmp .le 6, 3) := by decide +kernel
theorem dX4_wound_9 : decode cX4_wound 9 = .ok (.ldc 113, 2) := by decide +kernel
theorem dX4_wound_11 : decode cX4_wound 11 = .ok (.ireturn, 1) := by decide +kernel
theorem dX4_wound_12 : decode cX4_wound 12 = .ok (.iload_n 1, 1) := by decide +kernel
theorem dX4_wound_13 : decode cX4_wound 13 = .ok (.ifCond .ne 13, 3) := by decide +kernel
theorem dX4_wound_16 : decode cX4_wound 16 = .ok (.aload_n 0, 1) := by decide +kernel
theorem dX4_wound_17 : decode cX4_wound 17 = .ok (.getfield 19, 3) := by decide +kernel
theorem dX4_wound_20 : decode cX4_wound 20 = .ok (.getfield 114, 3) := by decide +kernel
theorem dX4_wound_23 : decode cX4_wound 23 = .ok (.goto 10, 3) := by decide +kernel
theorem dX4_wound_26 : decode cX4_wound 26 = .ok (.aload_n 0, 1) := by decide +kernel
theorem dX4_wound_27 : decode cX4_wound 27 = .ok (.getfield 19, 3) := by decide +kernel
theorem dX4_wound_30 : decode cX4_wound 30 = .ok (.getfield 117, 3) := by decide +kernel
theorem dX4_wound_33 : decode cX4_wound 33 = .ok (.ireturn, 1) := by decide +kernel
theorem dX4_row_0 : decode cX4_row 0 = .ok (.iload_n 1, 1) := by decide +kernel
theorem dX4_row_1 : decode cX4_row 1 = .ok (.ifCond .lt 9, 3) := by decide +kernel
theorem dX4_row_4 : decode cX4_row 4 = .ok (.iload_n 1, 1) := by decide +kernel
theorem dX4_row_5 : decode cX4_row 5 = .ok (.bipush 12, 2) := by decide +kernel
theorem dX4_row_7 : decode cX4_row 7 = .ok (.if_icmp .lt 5, 3) := by decide +kernel
theorem dX4_row_10 : decode cX4_row 10 = .ok (.iconst (-1), 1) := by decide +kernel
theorem dX4_row_11 : decode cX4_row 11 = .ok (.ireturn, 1) := by decide +kernel
theorem dX4_row_12 : decode cX4_row 12 = .ok (.iload_n 1, 1) := by decide +kernel
theorem dX4_row_13 : decode cX4_row 13 = .ok (.aload_n 0, 1) := by decide +kernel
theorem dX4_row_14 : decode cX4_row 14 = .ok (.getfield 90, 3) := by decide +kernel
theorem dX4_row_17 : decode cX4_row 17 = .ok (.if_icmp .ge 14, 3) := by decide +kernel
theorem dX4_row_20 : decode cX4_row 20 = .ok (.aload_n 0, 1) := by decide +kernel
theorem dX4_row_21 : decode cX4_row 21 = .ok (.getfield 120, 3) := by decide +kernel
theorem dX4_row_24 : decode cX4_row 24 = .ok (.iload_n 1, 1) := by decide +kernel
theorem dX4_row_25 : decode cX4_row 25 = .ok (.invokestatic 123, 3) := by decide +kernel
theorem dX4_row_28 : decode cX4_row 28 = .ok (.goto 5, 3) := by decide +kernel
theorem dX4_row_31 : decode cX4_row 31 = .ok (.bipush (-4), 2) := by decide +kernel
theorem dX4_row_33 : decode cX4_row 33 = .ok (.ireturn, 1) := by decide +kernel
theorem dX4_dance_0 : decode cX4_dance 0 = .ok (.iload_n 1, 1) := by decide +kernel
theorem dX4_dance_1 : decode cX4_dance 1 = .ok (.ifCond .lt 8, 3) := by decide +kernel
theorem dX4_dance_4 : decode cX4_dance 4 = .ok (.iload_n 1, 1) := by decide +kernel
theorem dX4_dance_5 : decode cX4_dance 5 = .ok (.iconst 3, 1) := by decide +kernel
theorem dX4_dance_6 : decode cX4_dance 6 = .ok (.if_icmp .le 5, 3) := by decide +kernel
theorem dX4_dance_9 : decode cX4_dance 9 = .ok (.iconst (-1), 1) := by decide +kernel
theorem dX4_dance_10 : decode cX4_dance 10 = .ok (.ireturn, 1) := by decide +kernel
theorem dX4_dance_11 : decode cX4_dance 11 = .ok (.aload_n 0, 1) := by decide +kernel
theorem dX4_dance_12 : decode cX4_dance 12 = .ok (.getfield 19, 3) := by decide +kernel
theorem dX4_dance_15 : decode cX4_dance 15 = .ok (.iload_n 1, 1) := by decide +kernel
theorem dX4_dance_16 : decode cX4_dance 16 = .ok (.aload_n 0, 1) := by decide +kernel
theorem dX4_dance_17 : decode cX4_dance 17 = .ok (.getfield 96, 3) := by decide +kernel
theorem dX4_dance_20 : decode cX4_dance 20 = .ok (.invokevirtual 126, 3) := by decide +kernel
theorem dX4_dance_23 : decode cX4_dance 23 = .ok (.istore_n 2, 1) := by decide +kernel
theorem dX4_dance_24 : decode cX4_dance 24 = .ok (.aload_n 0, 1) := by decide +kernel
theorem dX4_dance_25 : decode cX4_dance 25 = .ok (.getfield 19, 3) := by decide +kernel
theorem dX4_dance_28 : decode cX4_dance 28 = .ok (.iload_n 2, 1) := by decide +kernel
theorem dX4_dance_29 : decode cX4_dance 29 = .ok (.invokevirtual 129, 3) := by decide +kernel
theorem dX4_dance_32 : decode cX4_dance 32 = .ok (.ifCond .eq 6, 3) := by decide +kernel
theorem dX4_dance_35 : decode cX4_dance 35 = .ok (.bipush (-2), 2) := by decide +kernel
theorem dX4_dance_37 : decode cX4_dance 37 = .ok (.ireturn, 1) := by decide +kernel
theorem dX4_dance_38 : decode cX4_dance 38 = .ok (.aload_n 0, 1) := by decide +kernel
theorem dX4_dance_39 : decode cX4_dance 39 = .ok (.getfield 31, 3) := by decide +kernel
theorem dX4_dance_42 : decode cX4_dance 42 = .ok (.aload_n 0, 1) := by decide +kernel
theorem dX4_dance_43 : decode cX4_dance 43 = .ok (.getfield 19, 3) := by decide +kernel
theorem dX4_dance_46 : decode cX4_dance 46 = .ok (.invokevirtual 132, 3) := by decide +kernel
theorem dX4_dance_49 : decode cX4_dance 49 = .ok (.aload_n 0, 1) := by decide +kernel
theorem dX4_dance_50 : decode cX4_dance 50 = .ok (.getfield 19, 3) := by decide +kernel
theorem dX4_dance_53 : decode cX4_dance 53 = .ok (.iload_n 1, 1) := by decide +kernel
theorem dX4_dance_54 : decode cX4_dance 54 = .ok (.aload_n 0, 1) := by decide +kernel
theorem dX4_dance_55 : decode cX4_dance 55 = .ok (.getfield 96, 3) := by decide +kernel
theorem dX4_dance_58 : decode cX4_dance 58 = .ok (.invokevirtual 136, 3) := by decide +kernel
theorem dX4_dance_61 : decode cX4_dance 61 = .ok (.pop, 1) := by decide +kernel
theorem dX4_dance_62 : decode cX4_dance 62 = .ok (.bipush 10, 2) := by decide +kernel
theorem dX4_dance_64 : decode cX4_dance 64 = .ok (.iload_n 2, 1) := by decide +kernel
theorem dX4_dance_65 : decode cX4_dance 65 = .ok (.iadd, 1) := by decide +kernel
theorem dX4_dance_66 : decode cX4_dance 66 = .ok (.ireturn, 1) := by decide +kernel
theorem dX4_put_0 : decode cX4_put 0 = .ok (.iload_n 1, 1) := by decide +kernel
theorem dX4_put_1 : decode cX4_put 1 = .ok (.iload_n 2, 1) := by decide +kernel
theorem dX4_put_2 : decode cX4_put 2 = .ok (.invokestatic 140, 3) := by decide +kernel
theorem dX4_put_5 : decode cX4_put 5 = .ok (.ifCond .ne 5, 3) := by decide +kernel
theorem dX4_put_8 : decode cX4_put 8 = .ok (.iconst (-1), 1) := by decide +kernel
theorem dX4_put_9 : decode cX4_put 9 = .ok (.ireturn, 1) := by decide +kernel
theorem dX4_put_10 : decode cX4_put 10 = .ok (.aload_n 0, 1) := by decide +kernel
theorem dX4_put_11 : decode cX4_put 11 = .ok (.getfield 31, 3) := by decide +kernel
theorem dX4_put_14 : decode cX4_put 14 = .ok (.aload_n 0, 1) := by decide +kernel
theorem dX4_put_15 : decode cX4_put 15 = .ok (.getfield 19, 3) := by decide +kernel
theorem dX4_put_18 : decode cX4_put 18 = .ok (.invokevirtual 132, 3) := by decide +kernel
theorem dX4_put_21 : decode cX4_put 21 = .ok (.aload_n 0, 1) := by decide +kernel
theorem dX4_put_22 : decode cX4_put 22 = .ok (.getfield 19, 3) := by decide +kernel
theorem dX4_put_25 : decode cX4_put 25 = .ok (.iload_n 1, 1) := by decide +kernel
theorem dX4_put_26 : decode cX4_put 26 = .ok (.iload_n 2, 1) := by decide +kernel
theorem dX4_put_27 : decode cX4_put 27 = .ok (.invokevirtual 143, 3) := by decide +kernel
theorem dX4_put_30 : decode cX4_put 30 = .ok (.aload_n 0, 1) := by decide +kernel
theorem dX4_put_31 : decode cX4_put 31 = .ok (.getfield 19, 3) := by decide +kernel
theorem dX4_put_34 : decode cX4_put 34 = .ok (.iload_n 1, 1) := by decide +kernel
theorem dX4_put_35 : decode cX4_put 35 = .ok (.invokevirtual 103, 3) := by decide +kernel
theorem dX4_put_38 : decode cX4_put 38 = .ok (.ireturn, 1) := by decide +kernel
theorem dX4_undo_0 : decode cX4_undo 0 = .ok (.aload_n 0, 1) := by decide +kernel
theorem dX4_undo_1 : decode cX4_undo 1 = .ok (.getfield 31, 3) := by decide +kernel
theorem dX4_undo_4 : decode cX4_undo 4 = .ok (.aload_n 0, 1) := by decide +kernel
theorem dX4_undo_5 : decode cX4_undo 5 = .ok (.getfield 19, 3) := by decide +kernel
theorem dX4_undo_8 : decode cX4_undo 8 = .ok (.invokevirtual 147, 3) := by decide +kernel
theorem dX4_undo_11 : decode cX4_undo 11 = .ok (.ifCond .eq 13, 3) := by decide +kernel
theorem dX4_undo_14 : decode cX4_undo 14 = .ok (.aload_n 0, 1) := by decide +kernel
theorem dX4_undo_15 : decode cX4_undo 15 = .ok (.getfield 31, 3) := by decide +kernel
theorem dX4_undo_18 : decode cX4_undo 18 = .ok (.getfield 151, 3) := by decide +kernel
theorem dX4_undo_21 : decode cX4_undo 21 = .ok (.goto 5, 3) := by decide +kernel
theorem dX4_undo_24 : decode cX4_undo 24 = .ok (.bipush (-2), 2) := by decide +kernel
theorem dX4_undo_26 : decode cX4_undo 26 = .ok (.ireturn, 1) := by decide +kernel
theorem dX4_free_0 : decode cX4_free 0 = .ok (.iload_n 1, 1) := by decide +kernel
theorem dX4_free_1 : decode cX4_free 1 = .ok (.invokestatic 154, 3) := by decide +kernel
theorem dX4_free_4 : decode cX4_free 4 = .ok (.ifCond .ne 5, 3) := by decide +kernel
theorem dX4_free_7 : decode cX4_free 7 = .ok (.iconst (-1), 1) := by decide +kernel
theorem dX4_free_8 : decode cX4_free 8 = .ok (.ireturn, 1) := by decide +kernel
theorem dX4_free_9 : decode cX4_free 9 = .ok (.aload_n 0, 1) := by decide +kernel
theorem dX4_free_10 : decode cX4_free 10 = .ok (.getfield 41, 3) := by decide +kernel
theorem dX4_free_13 : decode cX4_free 13 = .ok (.iconst 0, 1) := by decide +kernel
theorem dX4_free_14 : decode cX4_free 14 = .ok (.iconst 1, 1) := by decide +kernel
theorem dX4_free_15 : decode cX4_free 15 = .ok (.invokevirtual 157, 3) := by decide +kernel
theorem dX4_free_18 : decode cX4_free 18 = .ok (.aload_n 0, 1) := by decide +kernel
theorem dX4_free_19 : decode cX4_free 19 = .ok (.iload_n 1, 1) := by decide +kernel
theorem dX4_free_20 : decode cX4_free 20 = .ok (.invokevirtual 160, 3) := by decide +kernel
theorem dX4_free_23 : decode cX4_free 23 = .ok (.ireturn, 1) := by decide +kernel
theorem dX4_reach_0 : decode cX4_reach 0 = .ok (.iload_n 1, 1) := by decide +kernel
theorem dX4_reach_1 : decode cX4_reach 1 = .ok (.iload_n 2, 1) := by decide +kernel
theorem dX4_reach_2 : decode cX4_reach 2 = .ok (.invokestatic 163, 3) := by decide +kernel
theorem dX4_reach_5 : decode cX4_reach 5 = .ok (.ifCond .eq 10, 3) := by decide +kernel
theorem dX4_reach_8 : decode cX4_reach 8 = .ok (.iload_n 3, 1) := by decide +kernel
theorem dX4_reach_9 : decode cX4_reach 9 = .ok (.invokestatic 154, 3) := by decide +kernel
theorem dX4_reach_12 : decode cX4_reach 12 = .ok (.ifCond .ne 5, 3) := by decide +kernel
theorem dX4_reach_15 : decode cX4_reach 15 = .ok (.iconst (-1), 1) := by decide +kernel
theorem dX4_reach_16 : decode cX4_reach 16 = .ok (.ireturn, 1) := by decide +kernel
theorem dX4_reach_17 : decode cX4_reach 17 = .ok (.aload_n 0, 1) := by decide +kernel
theorem dX4_reach_18 : decode cX4_reach 18 = .ok (.getfield 41, 3) := by decide +kernel
theorem dX4_reach_21 : decode cX4_reach 21 = .ok (.iload_n 1, 1) := by decide +kernel
theorem dX4_reach_22 : decode cX4_reach 22 = .ok (.iload_n 2, 1) := by decide +kernel
theorem dX4_reach_23 : decode cX4_reach 23 = .ok (.invokevirtual 157, 3) := by decide +kernel
theorem dX4_reach_26 : decode cX4_reach 26 = .ok (.aload_n 0, 1) := by decide +kernel
theorem dX4_reach_27 : decode cX4_reach 27 = .ok (.iload_n 3, 1) := by decide +kernel
theorem dX4_reach_28 : decode cX4_reach 28 = .ok (.invokevirtual 160, 3) := by decide +kernel
theorem dX4_reach_31 : decode cX4_reach 31 = .ok (.ireturn, 1) := by decide +kernel
theorem dX4_meet_0 : decode cX4_meet 0 = .ok (.iload_n 1, 1) := by decide +kernel
theorem dX4_meet_1 : decode cX4_meet 1 = .ok (.iload_n 2, 1) := by decide +kernel
theorem dX4_meet_2 : decode cX4_meet 2 = .ok (.invokestatic 140, 3) := by decide +kernel
theorem dX4_meet_5 : decode cX4_meet 5 = .ok (.ifCond .eq 10, 3) := by decide +kernel
theorem dX4_meet_8 : decode cX4_meet 8 = .ok (.iload_n 3, 1) := by decide +kernel
theorem dX4_meet_9 : decode cX4_meet 9 = .ok (.invokestatic 154, 3) := by decide +kernel
theorem dX4_meet_12 : decode cX4_meet 12 = .ok (.ifCond .ne 5, 3) := by decide +kernel
theorem dX4_meet_15 : decode cX4_meet 15 = .ok (.iconst (-1), 1) := by decide +kernel
theorem dX4_meet_16 : decode cX4_meet 16 = .ok (.ireturn, 1) := by decide +kernel
theorem dX4_meet_17 : decode cX4_meet 17 = .ok (.aload_n 0, 1) := by decide +kernel
theorem dX4_meet_18 : decode cX4_meet 18 = .ok (.getfield 41, 3) := by decide +kernel
theorem dX4_meet_21 : decode cX4_meet 21 = .ok (.iload_n 1, 1) := by decide +kernel
theorem dX4_meet_22 : decode cX4_meet 22 = .ok (.iload_n 2, 1) := by decide +kernel
theorem dX4_meet_23 : decode cX4_meet 23 = .ok (.invokevirtual 166, 3) := by decide +kernel
theorem dX4_meet_26 : decode cX4_meet 26 = .ok (.aload_n 0, 1) := by decide +kernel
theorem dX4_meet_27 : decode cX4_meet 27 = .ok (.iload_n 3, 1) := by decide +kernel
theorem dX4_meet_28 : decode cX4_meet 28 = .ok (.invokevirtual 160, 3) := by decide +kernel
theorem dX4_meet_31 : decode cX4_meet 31 = .ok (.ireturn, 1) := by decide +kernel
theorem dX4_ways_0 : decode cX4_ways 0 = .ok (.iload_n 1, 1) := by decide +kernel
theorem dX4_ways_1 : decode cX4_ways 1 = .ok (.ifCond .lt 9, 3) := by decide +kernel
theorem dX4_ways_4 : decode cX4_ways 4 = .ok (.iload_n 1, 1) := by decide +kernel
theorem dX4_ways_5 : decode cX4_ways 5 = .ok (.bipush 7, 2) := by decide +kernel
theorem dX4_ways_7 : decode cX4_ways 7 = .ok (.if_icmp .le 5, 3) := by decide +kernel
theorem dX4_ways_10 : decode cX4_ways 10 = .ok (.iconst (-1), 1) := by decide +kernel
theorem dX4_ways_11 : decode cX4_ways 11 = .ok (.ireturn, 1) := by decide +kernel
theorem dX4_ways_12 : decode cX4_ways 12 = .ok (.aload_n 0, 1) := by decide +kernel
theorem dX4_ways_13 : decode cX4_ways 13 = .ok (.getfield 41, 3) := by decide +kernel
theorem dX4_ways_16 : decode cX4_ways 16 = .ok (.iconst 0, 1) := by decide +kernel
theorem dX4_ways_17 : decode cX4_ways 17 = .ok (.iconst 1, 1) := by decide +kernel
theorem dX4_ways_18 : decode cX4_ways 18 = .ok (.invokevirtual 157, 3) := by decide +kernel
theorem dX4_ways_21 : decode cX4_ways 21 = .ok (.aload_n 0, 1) := by decide +kernel
theorem dX4_ways_22 : decode cX4_ways 22 = .ok (.getfield 41, 3) := by decide +kernel
theorem dX4_ways_25 : decode cX4_ways 25 = .ok (.aload_n 0, 1) := by decide +kernel
theorem dX4_ways_26 : decode cX4_ways 26 = .ok (.getfield 19, 3) := by decide +kernel
theorem dX4_ways_29 : decode cX4_ways 29 = .ok (.aload_n 0, 1) := by decide +kernel
theorem dX4_ways_30 : decode cX4_ways 30 = .ok (.getfield 96, 3) := by decide +kernel
theorem dX4_ways_33 : decode cX4_ways 33 = .ok (.invokevirtual 169, 3) := by decide +kernel
theorem dX4_ways_36 : decode cX4_ways 36 = .ok (.aload_n 0, 1) := by decide +kernel
theorem dX4_ways_37 : decode cX4_ways 37 = .ok (.getfield 41, 3) := by decide +kernel
theorem dX4_ways_40 : decode cX4_ways 40 = .ok (.iconst 0, 1) := by decide +kernel
theorem dX4_ways_41 : decode cX4_ways 41 = .ok (.iload_n 1, 1) := by decide +kernel
theorem dX4_ways_42 : decode cX4_ways 42 = .ok (.invokestatic 173, 3) := by decide +kernel
theorem dX4_ways_45 : decode cX4_ways 45 = .ok (.ireturn, 1) := by decide +kernel
theorem dX4_plain_0 : decode cX4_plain 0 = .ok (.aload_n 0, 1) := by decide +kernel
theorem dX4_plain_1 : decode cX4_plain 1 = .ok (.getfield 23, 3) := by decide +kernel
theorem dX4_plain_4 : decode cX4_plain 4 = .ok (.aload_n 0, 1) := by decide +kernel
theorem dX4_plain_5 : decode cX4_plain 5 = .ok (.getfield 19, 3) := by decide +kernel
theorem dX4_plain_8 : decode cX4_plain 8 = .ok (.invokevirtual 177, 3) := by decide +kernel
theorem dX4_plain_11 : decode cX4_plain 11 = .ok (.iconst 0, 1) := by decide +kernel
theorem dX4_plain_12 : decode cX4_plain 12 = .ok (.istore_n 1, 1) := by decide +kernel
theorem dX4_plain_13 : decode cX4_plain 13 = .ok (.iload_n 1, 1) := by decide +kernel
theorem dX4_plain_14 : decode cX4_plain 14 = .ok (.bipush 60, 2) := by decide +kernel
theorem dX4_plain_16 : decode cX4_plain 16 = .ok (.if_icmp .gt 53, 3) := by decide +kernel
theorem dX4_plain_19 : decode cX4_plain 19 = .ok (.aload_n 0, 1) := by decide +kernel
theorem dX4_plain_20 : decode cX4_plain 20 = .ok (.getfield 23, 3) := by decide +kernel
theorem dX4_plain_23 : decode cX4_plain 23 = .ok (.getfield 114, 3) := by decide +kernel
theorem dX4_plain_26 : decode cX4_plain 26 = .ok (.ifCond .ne 5, 3) := by decide +kernel
theorem dX4_plain_29 : decode cX4_plain 29 = .ok (.iload_n 1, 1) := by decide +kernel
theorem dX4_plain_30 : decode cX4_plain 30 = .ok (.ireturn, 1) := by decide +kernel
theorem dX4_plain_31 : decode cX4_plain 31 = .ok (.aload_n 0, 1) := by decide +kernel
theorem dX4_plain_32 : decode cX4_plain 32 = .ok (.getfield 23, 3) := by decide +kernel
theorem dX4_plain_35 : decode cX4_plain 35 = .ok (.aload_n 0, 1) := by decide +kernel
theorem dX4_plain_36 : decode cX4_plain 36 = .ok (.getfield 23, 3) := by decide +kernel
theorem dX4_plain_39 : decode cX4_plain 39 = .ok (.getfield 114, 3) := by decide +kernel
theorem dX4_plain_42 : decode cX4_plain 42 = .ok (.ifCond .ge 7, 3) := by decide +kernel
theorem dX4_plain_45 : decode cX4_plain 45 = .ok (.iconst 0, 1) := by decide +kernel
theorem dX4_plain_46 : decode cX4_plain 46 = .ok (.goto 4, 3) := by decide +kernel
theorem dX4_plain_49 : decode cX4_plain 49 = .ok (.iconst 2, 1) := by decide +kernel
theorem dX4_plain_50 : decode cX4_plain 50 = .ok (.aload_n 0, 1) := by decide +kernel
theorem dX4_plain_51 : decode cX4_plain 51 = .ok (.getfield 96, 3) := by decide +kernel
theorem dX4_plain_54 : decode cX4_plain 54 = .ok (.invokevirtual 136, 3) := by decide +kernel
theorem dX4_plain_57 : decode cX4_plain 57 = .ok (.ifCond .ne 6, 3) := by decide +kernel
theorem dX4_plain_60 : decode cX4_plain 60 = .ok (.bipush (-4), 2) := by decide +kernel
theorem dX4_plain_62 : decode cX4_plain 62 = .ok (.ireturn, 1) := by decide +kernel
theorem dX4_plain_63 : decode cX4_plain 63 = .ok (.iinc 1 1, 3) := by decide +kernel
theorem dX4_plain_66 : decode cX4_plain 66 = .ok (.goto (-53), 3) := by decide +kernel
theorem dX4_plain_69 : decode cX4_plain 69 = .ok (.bipush (-4), 2) := by decide +kernel
theorem dX4_plain_71 : decode cX4_plain 71 = .ok (.ireturn, 1) := by decide +kernel
theorem dX4_comes_0 : decode cX4_comes 0 = .ok (.iload_n 1, 1) := by decide +kernel
theorem dX4_comes_1 : decode cX4_comes 1 = .ok (.ifCond .lt 8, 3) := by decide +kernel
theorem dX4_comes_4 : decode cX4_comes 4 = .ok (.iload_n 1, 1) := by decide +kernel
theorem dX4_comes_5 : decode cX4_comes 5 = .ok (.iconst 1, 1) := by decide +kernel
theorem dX4_comes_6 : decode cX4_comes 6 = .ok (.if_icmp .le 5, 3) := by decide +kernel
theorem dX4_comes_9 : decode cX4_comes 9 = .ok (.iconst (-1), 1) := by decide +kernel
theorem dX4_comes_10 : decode cX4_comes 10 = .ok (.ireturn, 1) := by decide +kernel
theorem dX4_comes_11 : decode cX4_comes 11 = .ok (.aload_n 0, 1) := by decide +kernel
theorem dX4_comes_12 : decode cX4_comes 12 = .ok (.bipush 12, 2) := by decide +kernel
theorem dX4_comes_14 : decode cX4_comes 14 = .ok (.aload_n 0, 1) := by decide +kernel
theorem dX4_comes_15 : decode cX4_comes 15 = .ok (.getfield 96, 3) := by decide +kernel
theorem dX4_comes_18 : decode cX4_comes 18 = .ok (.invokevirtual 180, 3) := by decide +kernel
theorem dX4_comes_21 : decode cX4_comes 21 = .ok (.pop, 1) := by decide +kernel
theorem dX4_comes_22 : decode cX4_comes 22 = .ok (.iload_n 1, 1) := by decide +kernel
theorem dX4_comes_23 : decode cX4_comes 23 = .ok (.ifCond .ne 21, 3) := by decide +kernel
theorem dX4_comes_26 : decode cX4_comes 26 = .ok (.aload_n 0, 1) := by decide +kernel
theorem dX4_comes_27 : decode cX4_comes 27 = .ok (.getfield 23, 3) := by decide +kernel
theorem dX4_comes_30 : decode cX4_comes 30 = .ok (.getfield 183, 3) := by decide +kernel
theorem dX4_comes_33 : decode cX4_comes 33 = .ok (.aload_n 0, 1) := by decide +kernel
theorem dX4_comes_34 : decode cX4_comes 34 = .ok (.getfield 19, 3) := by decide +kernel
theorem dX4_comes_37 : decode cX4_comes 37 = .ok (.getfield 183, 3) := by decide +kernel
theorem dX4_comes_40 : decode cX4_comes 40 = .ok (.isub, 1) := by decide +kernel
theorem dX4_comes_41 : decode cX4_comes 41 = .ok (.goto 11, 3) := by decide +kernel
theorem dX4_comes_44 : decode cX4_comes 44 = .ok (.aload_n 0, 1) := by decide +kernel
theorem dX4_comes_45 : decode cX4_comes 45 = .ok (.getfield 23, 3) := by decide +kernel
theorem dX4_comes_48 : decode cX4_comes 48 = .ok (.iconst 0, 1) := by decide +kernel
theorem dX4_comes_49 : decode cX4_comes 49 = .ok (.invokevirtual 110, 3) := by decide +kernel
theorem dX4_comes_52 : decode cX4_comes 52 = .ok (.ireturn, 1) := by decide +kernel
theorem dX4_behind_0 : decode cX4_behind 0 = .ok (.iload_n 1, 1) := by decide +kernel
theorem dX4_behind_1 : decode cX4_behind 1 = .ok (.invokestatic 186, 3) := by decide +kernel
theorem dX4_behind_4 : decode cX4_behind 4 = .ok (.ifCond .eq 12, 3) := by decide +kernel
theorem dX4_behind_7 : decode cX4_behind 7 = .ok (.iload_n 2, 1) := by decide +kernel
theorem dX4_behind_8 : decode cX4_behind 8 = .ok (.ifCond .lt 8, 3) := by decide +kernel
theorem dX4_behind_11 : decode cX4_behind 11 = .ok (.iload_n 2, 1) := by decide +kernel
theorem dX4_behind_12 : decode cX4_behind 12 = .ok (.iconst 1, 1) := by decide +kernel
theorem dX4_behind_13 : decode cX4_behind 13 = .ok (.if_icmp .le 6, 3) := by decide +kernel
theorem dX4_behind_16 : decode cX4_behind 16 = .ok (.ldc 113, 2) := by decide +kernel
theorem dX4_behind_18 : decode cX4_behind 18 = .ok (.ireturn, 1) := by decide +kernel
theorem dX4_behind_19 : decode cX4_behind 19 = .ok (.aload_n 0, 1) := by decide +kernel
theorem dX4_behind_20 : decode cX4_behind 20 = .ok (.iload_n 1, 1) := by decide +kernel
theorem dX4_behind_21 : decode cX4_behind 21 = .ok (.aload_n 0, 1) := by decide +kernel
theorem dX4_behind_22 : decode cX4_behind 22 = .ok (.getfield 96, 3) := by decide +kernel
theorem dX4_behind_25 : decode cX4_behind 25 = .ok (.invokevirtual 180, 3) := by decide +kernel
theorem dX4_behind_28 : decode cX4_behind 28 = .ok (.ifCond .ne 6, 3) := by decide +kernel
theorem dX4_behind_31 : decode cX4_behind 31 = .ok (.ldc 189, 2) := by decide +kernel
theorem dX4_behind_33 : decode cX4_behind 33 = .ok (.ireturn, 1) := by decide +kernel
theorem dX4_behind_34 : decode cX4_behind 34 = .ok (.iload_n 2, 1) := by decide +kernel
theorem dX4_behind_35 : decode cX4_behind 35 = .ok (.ifCond .ne 13, 3) := by decide +kernel
theorem dX4_behind_38 : decode cX4_behind 38 = .ok (.aload_n 0, 1) := by decide +kernel
theorem dX4_behind_39 : decode cX4_behind 39 = .ok (.getfield 23, 3) := by decide +kernel
theorem dX4_behind_42 : decode cX4_behind 42 = .ok (.getfield 114, 3) := by decide +kernel
theorem dX4_behind_45 : decode cX4_behind 45 = .ok (.goto 10, 3) := by decide +kernel
theorem dX4_behind_48 : decode cX4_behind 48 = .ok (.aload_n 0, 1) := by decide +kernel
theorem dX4_behind_49 : decode cX4_behind 49 = .ok (.getfield 23, 3) := by decide +kernel
theorem dX4_behind_52 : decode cX4_behind 52 = .ok (.getfield 117, 3) := by decide +kernel
theorem dX4_behind_55 : decode cX4_behind 55 = .ok (.ireturn, 1) := by decide +kernel
theorem dX4_see_0 : decode cX4_see 0 = .ok (.iload_n 1, 1) := by decide +kernel
theorem dX4_see_1 : decode cX4_see 1 = .ok (.invokestatic 186, 3) := by decide +kernel
theorem dX4_see_4 : decode cX4_see 4 = .ok (.ifCond .eq 11, 3) := by decide +kernel
theorem dX4_see_7 : decode cX4_see 7 = .ok (.iload_n 2, 1) := by decide +kernel
theorem dX4_see_8 : decode cX4_see 8 = .ok (.iload_n 3, 1) := by decide +kernel
theorem dX4_see_9 : decode cX4_see 9 = .ok (.invokestatic 163, 3) := by decide +kernel
theorem dX4_see_12 : decode cX4_see 12 = .ok (.ifCond .ne 5, 3) := by decide +kernel
theorem dX4_see_15 : decode cX4_see 15 = .ok (.iconst (-1), 1) := by decide +kernel
theorem dX4_see_16 : decode cX4_see 16 = .ok (.ireturn, 1) := by decide +kernel
theorem dX4_see_17 : decode cX4_see 17 = .ok (.aload_n 0, 1) := by decide +kernel
theorem dX4_see_18 : decode cX4_see 18 = .ok (.getfield 190, 3) := by decide +kernel
theorem dX4_see_21 : decode cX4_see 21 = .ok (.bipush 6, 2) := by decide +kernel
theorem dX4_see_23 : decode cX4_see 23 = .ok (.if_icmp .lt 6, 3) := by decide +kernel
theorem dX4_see_26 : decode cX4_see 26 = .ok (.bipush (-3), 2) := by decide +kernel
theorem dX4_see_28 : decode cX4_see 28 = .ok (.ireturn, 1) := by decide +kernel
theorem dX4_see_29 : decode cX4_see 29 = .ok (.aload_n 0, 1) := by decide +kernel
theorem dX4_see_30 : decode cX4_see 30 = .ok (.getfield 45, 3) := by decide +kernel
theorem dX4_see_33 : decode cX4_see 33 = .ok (.aload_n 0, 1) := by decide +kernel
theorem dX4_see_34 : decode cX4_see 34 = .ok (.getfield 190, 3) := by decide +kernel
theorem dX4_see_37 : decode cX4_see 37 = .ok (.iload_n 1, 1) := by decide +kernel
theorem dX4_see_38 : decode cX4_see 38 = .ok (.iastore, 1) := by decide +kernel
theorem dX4_see_39 : decode cX4_see 39 = .ok (.aload_n 0, 1) := by decide +kernel
theorem dX4_see_40 : decode cX4_see 40 = .ok (.getfield 49, 3) := by decide +kernel
theorem dX4_see_43 : decode cX4_see 43 = .ok (.aload_n 0, 1) := by decide +kernel
theorem dX4_see_44 : decode cX4_see 44 = .ok (.getfield 190, 3) := by decide +kernel
theorem dX4_see_47 : decode cX4_see 47 = .ok (.iload_n 2, 1) := by decide +kernel
theorem dX4_see_48 : decode cX4_see 48 = .ok (.iastore, 1) := by decide +kernel
theorem dX4_see_49 : decode cX4_see 49 = .ok (.aload_n 0, 1) := by decide +kernel
theorem dX4_see_50 : decode cX4_see 50 = .ok (.getfield 52, 3) := by decide +kernel
theorem dX4_see_53 : decode cX4_see 53 = .ok (.aload_n 0, 1) := by decide +kernel
theorem dX4_see_54 : decode cX4_see 54 = .ok (.getfield 190, 3) := by decide +kernel
theorem dX4_see_57 : decode cX4_see 57 = .ok (.iload_n 3, 1) := by decide +kernel
theorem dX4_see_58 : decode cX4_see 58 = .ok (.iastore, 1) := by decide +kernel
theorem dX4_see_59 : decode cX4_see 59 = .ok (.aload_n 0, 1) := by decide +kernel
theorem dX4_see_60 : decode cX4_see 60 = .ok (.dup, 1) := by decide +kernel
theorem dX4_see_61 : decode cX4_see 61 = .ok (.getfield 190, 3) := by decide +kernel
theorem dX4_see_64 : decode cX4_see 64 = .ok (.iconst 1, 1) := by decide +kernel
theorem dX4_see_65 : decode cX4_see 65 = .ok (.iadd, 1) := by decide +kernel
theorem dX4_see_66 : decode cX4_see 66 = .ok (.putfield 190, 3) := by decide +kernel
theorem dX4_see_69 : decode cX4_see 69 = .ok (.aload_n 0, 1) := by decide +kernel
theorem dX4_see_70 : decode cX4_see 70 = .ok (.getfield 190, 3) := by decide +kernel
theorem dX4_see_73 : decode cX4_see 73 = .ok (.ireturn, 1) := by decide +kernel
theorem dX4_forget_0 : decode cX4_forget 0 = .ok (.aload_n 0, 1) := by decide +kernel
theorem dX4_forget_1 : decode cX4_forget 1 = .ok (.getfield 190, 3) := by decide +kernel
theorem dX4_forget_4 : decode cX4_forget 4 = .ok (.istore_n 1, 1) := by decide +kernel
theorem dX4_forget_5 : decode cX4_forget 5 = .ok (.aload_n 0, 1) := by decide +kernel
theorem dX4_forget_6 : decode cX4_forget 6 = .ok (.iconst 0, 1) := by decide +kernel
theorem dX4_forget_7 : decode cX4_forget 7 = .ok (.putfield 190, 3) := by decide +kernel
theorem dX4_forget_10 : decode cX4_forget 10 = .ok (.iload_n 1, 1) := by decide +kernel
theorem dX4_forget_11 : decode cX4_forget 11 = .ok (.ireturn, 1) := by decide +kernel
theorem dX4_kinds_0 : decode cX4_kinds 0 = .ok (.iload_n 1, 1) := by decide +kernel
theorem dX4_kinds_1 : decode cX4_kinds 1 = .ok (.invokestatic 93, 3) := by decide +kernel
theorem dX4_kinds_4 : decode cX4_kinds 4 = .ok (.ifCond .eq 11, 3) := by decide +kernel
theorem dX4_kinds_7 : decode cX4_kinds 7 = .ok (.aload_n 0, 1) := by decide +kernel
theorem dX4_kinds_8 : decode cX4_kinds 8 = .ok (.iload_n 1, 1) := by decide +kernel
theorem dX4_kinds_9 : decode cX4_kinds 9 = .ok (.invokevirtual 193, 3) := by decide +kernel
theorem dX4_kinds_12 : decode cX4_kinds 12 = .ok (.goto 4, 3) := by decide +kernel
theorem dX4_kinds_15 : decode cX4_kinds 15 = .ok (.iconst (-1), 1) := by decide +kernel
theorem dX4_kinds_16 : decode cX4_kinds 16 = .ok (.ireturn, 1) := by decide +kernel
theorem dX4_look_0 : decode cX4_look 0 = .ok (.iload_n 1, 1) := by decide +kernel
theorem dX4_look_1 : decode cX4_look 1 = .ok (.invokestatic 93, 3) := by decide +kernel
theorem dX4_look_4 : decode cX4_look 4 = .ok (.ifCond .eq 12, 3) := by decide +kernel
theorem dX4_look_7 : decode cX4_look 7 = .ok (.iload_n 2, 1) := by decide +kernel
theorem dX4_look_8 : decode cX4_look 8 = .ok (.ifCond .lt 8, 3) := by decide +kernel
theorem dX4_look_11 : decode cX4_look 11 = .ok (.iload_n 2, 1) := by decide +kernel
theorem dX4_look_12 : decode cX4_look 12 = .ok (.iconst 1, 1) := by decide +kernel
theorem dX4_look_13 : decode cX4_look 13 = .ok (.if_icmp .le 5, 3) := by decide +kernel
theorem dX4_look_16 : decode cX4_look 16 = .ok (.iconst (-1), 1) := by decide +kernel
theorem dX4_look_17 : decode cX4_look 17 = .ok (.ireturn, 1) := by decide +kernel
theorem dX4_look_18 : decode cX4_look 18 = .ok (.aload_n 0, 1) := by decide +kernel
theorem dX4_look_19 : decode cX4_look 19 = .ok (.iload_n 1, 1) := by decide +kernel
theorem dX4_look_20 : decode cX4_look 20 = .ok (.invokevirtual 193, 3) := by decide +kernel
theorem dX4_look_23 : decode cX4_look 23 = .ok (.istore_n 3, 1) := by decide +kernel
theorem dX4_look_24 : decode cX4_look 24 = .ok (.iload_n 3, 1) := by decide +kernel
theorem dX4_look_25 : decode cX4_look 25 = .ok (.invokestatic 196, 3) := by decide +kernel
theorem dX4_look_28 : decode cX4_look 28 = .ok (.iconst 1, 1) := by decide +kernel
theorem dX4_look_29 : decode cX4_look 29 = .ok (.if_icmp .gt 6, 3) := by decide +kernel
theorem dX4_look_32 : decode cX4_look 32 = .ok (.bipush (-4), 2) := by decide +kernel
theorem dX4_look_34 : decode cX4_look 34 = .ok (.ireturn, 1) := by decide +kernel
theorem dX4_look_35 : decode cX4_look 35 = .ok (.iconst 0, 1) := by decide +kernel
theorem dX4_look_36 : decode cX4_look 36 = .ok (.istore 4, 2) := by decide +kernel
theorem dX4_look_38 : decode cX4_look 38 = .ok (.bipush 7, 2) := by decide +kernel
theorem dX4_look_40 : decode cX4_look 40 = .ok (.istore 5, 2) := by decide +kernel
theorem dX4_look_42 : decode cX4_look 42 = .ok (.iconst 1, 1) := by decide +kernel
theorem dX4_look_43 : decode cX4_look 43 = .ok (.istore 6, 2) := by decide +kernel
theorem dX4_look_45 : decode cX4_look 45 = .ok (.iload 6, 2) := by decide +kernel
theorem dX4_look_47 : decode cX4_look 47 = .ok (.bipush 12, 2) := by decide +kernel
theorem dX4_look_49 : decode cX4_look 49 = .ok (.if_icmp .gt 34, 3) := by decide +kernel
theorem dX4_look_52 : decode cX4_look 52 = .ok (.aload_n 0, 1) := by decide +kernel
theorem dX4_look_53 : decode cX4_look 53 = .ok (.iload_n 1, 1) := by decide +kernel
theorem dX4_look_54 : decode cX4_look 54 = .ok (.iload_n 3, 1) := by decide +kernel
theorem dX4_look_55 : decode cX4_look 55 = .ok (.iload 6, 2) := by decide +kernel
theorem dX4_look_57 : decode cX4_look 57 = .ok (.invokevirtual 201, 3) := by decide +kernel
theorem dX4_look_60 : decode cX4_look 60 = .ok (.istore 7, 2) := by decide +kernel
theorem dX4_look_62 : decode cX4_look 62 = .ok (.iload 7, 2) := by decide +kernel
theorem dX4_look_64 : decode cX4_look 64 = .ok (.iload 5, 2) := by decide +kernel
theorem dX4_look_66 : decode cX4_look 66 = .ok (.if_icmp .ge 11, 3) := by decide +kernel
theorem dX4_look_69 : decode cX4_look 69 = .ok (.iload 7, 2) := by decide +kernel
theorem dX4_look_71 : decode cX4_look 71 = .ok (.istore 5, 2) := by decide +kernel
theorem dX4_look_73 : decode cX4_look 73 = .ok (.iload 6, 2) := by decide +kernel
theorem dX4_look_75 : decode cX4_look 75 = .ok (.istore 4, 2) := by decide +kernel
theorem dX4_look_77 : decode cX4_look 77 = .ok (.iinc 6 1, 3) := by decide +kernel
theorem dX4_look_80 : decode cX4_look 80 = .ok (.goto (-35), 3) := by decide +kernel
theorem dX4_look_83 : decode cX4_look 83 = .ok (.iload_n 2, 1) := by decide +kernel
theorem dX4_look_84 : decode cX4_look 84 = .ok (.ifCond .ne 8, 3) := by decide +kernel
theorem dX4_look_87 : decode cX4_look 87 = .ok (.iload 4, 2) := by decide +kernel
theorem dX4_look_89 : decode cX4_look 89 = .ok (.goto 5, 3) := by decide +kernel
theorem dX4_look_92 : decode cX4_look 92 = .ok (.iload 5, 2) := by decide +kernel
theorem dX4_look_94 : decode cX4_look 94 = .ok (.ireturn, 1) := by decide +kernel
theorem dX4_danced_0 : decode cX4_danced 0 = .ok (.iload_n 1, 1) := by decide +kernel
theorem dX4_danced_1 : decode cX4_danced 1 = .ok (.ifCond .lt 9, 3) := by decide +kernel
theorem dX4_danced_4 : decode cX4_danced 4 = .ok (.iload_n 1, 1) := by decide +kernel
theorem dX4_danced_5 : decode cX4_danced 5 = .ok (.bipush 7, 2) := by decide +kernel
theorem dX4_danced_7 : decode cX4_danced 7 = .ok (.if_icmp .le 5, 3) := by decide +kernel
theorem dX4_danced_10 : decode cX4_danced 10 = .ok (.iconst (-1), 1) := by decide +kernel
theorem dX4_danced_11 : decode cX4_danced 11 = .ok (.ireturn, 1) := by decide +kernel
theorem dX4_danced_12 : decode cX4_danced 12 = .ok (.aload_n 0, 1) := by decide +kernel
theorem dX4_danced_13 : decode cX4_danced 13 = .ok (.getfield 23, 3) := by decide +kernel
theorem dX4_danced_16 : decode cX4_danced 16 = .ok (.aload_n 0, 1) := by decide +kernel
theorem dX4_danced_17 : decode cX4_danced 17 = .ok (.getfield 19, 3) := by decide +kernel
theorem dX4_danced_20 : decode cX4_danced 20 = .ok (.getfield 205, 3) := by decide +kernel
theorem dX4_danced_23 : decode cX4_danced 23 = .ok (.invokevirtual 208, 3) := by decide +kernel
theorem dX4_danced_26 : decode cX4_danced 26 = .ok (.aload_n 0, 1) := by decide +kernel
theorem dX4_danced_27 : decode cX4_danced 27 = .ok (.getfield 41, 3) := by decide +kernel
theorem dX4_danced_30 : decode cX4_danced 30 = .ok (.aload_n 0, 1) := by decide +kernel
theorem dX4_danced_31 : decode cX4_danced 31 = .ok (.getfield 19, 3) := by decide +kernel
theorem dX4_danced_34 : decode cX4_danced 34 = .ok (.getfield 114, 3) := by decide +kernel
theorem dX4_danced_37 : decode cX4_danced 37 = .ok (.aload_n 0, 1) := by decide +kernel
theorem dX4_danced_38 : decode cX4_danced 38 = .ok (.getfield 19, 3) := by decide +kernel
theorem dX4_danced_41 : decode cX4_danced 41 = .ok (.getfield 117, 3) := by decide +kernel
theorem dX4_danced_44 : decode cX4_danced 44 = .ok (.invokevirtual 157, 3) := by decide +kernel
theorem dX4_danced_47 : decode cX4_danced 47 = .ok (.aload_n 0, 1) := by decide +kernel
theorem dX4_danced_48 : decode cX4_danced 48 = .ok (.getfield 41, 3) := by decide +kernel
theorem dX4_danced_51 : decode cX4_danced 51 = .ok (.aload_n 0, 1) := by decide +kernel
theorem dX4_danced_52 : decode cX4_danced 52 = .ok (.getfield 23, 3) := by decide +kernel
theorem dX4_danced_55 : decode cX4_danced 55 = .ok (.iconst 0, 1) := by decide +kernel
theorem dX4_danced_56 : decode cX4_danced 56 = .ok (.invokevirtual 169, 3) := by decide +kernel
theorem dX4_danced_59 : decode cX4_danced 59 = .ok (.aload_n 0, 1) := by decide +kernel
theorem dX4_danced_60 : decode cX4_danced 60 = .ok (.getfield 41, 3) := by decide +kernel
theorem dX4_danced_63 : decode cX4_danced 63 = .ok (.iconst 0, 1) := by decide +kernel
theorem dX4_danced_64 : decode cX4_danced 64 = .ok (.iload_n 1, 1) := by decide +kernel
theorem dX4_danced_65 : decode cX4_danced 65 = .ok (.invokestatic 173, 3) := by decide +kernel
theorem dX4_danced_68 : decode cX4_danced 68 = .ok (.ireturn, 1) := by decide +kernel
theorem dX4_duel_0 : decode cX4_duel 0 = .ok (.iload_n 1, 1) := by decide +kernel
theorem dX4_duel_1 : decode cX4_duel 1 = .ok (.ifCond .lt 8, 3) := by decide +kernel
theorem dX4_duel_4 : decode cX4_duel 4 = .ok (.iload_n 1, 1) := by decide +kernel
theorem dX4_duel_5 : decode cX4_duel 5 = .ok (.iconst 5, 1) := by decide +kernel
theorem dX4_duel_6 : decode cX4_duel 6 = .ok (.if_icmp .le 5, 3) := by decide +kernel
theorem dX4_duel_9 : decode cX4_duel 9 = .ok (.iconst (-1), 1) := by decide +kernel
theorem dX4_duel_10 : decode cX4_duel 10 = .ok (.ireturn, 1) := by decide +kernel
theorem dX4_duel_11 : decode cX4_duel 11 = .ok (.aload_n 0, 1) := by decide +kernel
theorem dX4_duel_12 : decode cX4_duel 12 = .ok (.getfield 41, 3) := by decide +kernel
theorem dX4_duel_15 : decode cX4_duel 15 = .ok (.aload_n 0, 1) := by decide +kernel
theorem dX4_duel_16 : decode cX4_duel 16 = .ok (.getfield 19, 3) := by decide +kernel
theorem dX4_duel_19 : decode cX4_duel 19 = .ok (.aload_n 0, 1) := by decide +kernel
theorem dX4_duel_20 : decode cX4_duel 20 = .ok (.getfield 96, 3) := by decide +kernel
theorem dX4_duel_23 : decode cX4_duel 23 = .ok (.invokevirtual 169, 3) := by decide +kernel
theorem dX4_duel_26 : decode cX4_duel 26 = .ok (.aload_n 0, 1) := by decide +kernel
theorem dX4_duel_27 : decode cX4_duel 27 = .ok (.getfield 41, 3) := by decide +kernel
theorem dX4_duel_30 : decode cX4_duel 30 = .ok (.iconst 0, 1) := by decide +kernel
theorem dX4_duel_31 : decode cX4_duel 31 = .ok (.iload_n 1, 1) := by decide +kernel
theorem dX4_duel_32 : decode cX4_duel 32 = .ok (.invokestatic 211, 3) := by decide +kernel
theorem dX4_duel_35 : decode cX4_duel 35 = .ok (.ireturn, 1) := by decide +kernel
theorem dX4_odds_0 : decode cX4_odds 0 = .ok (.iload_n 1, 1) := by decide +kernel
theorem dX4_odds_1 : decode cX4_odds 1 = .ok (.ifCond .lt 28, 3) := by decide +kernel
theorem dX4_odds_4 : decode cX4_odds 4 = .ok (.iload_n 1, 1) := by decide +kernel
theorem dX4_odds_5 : decode cX4_odds 5 = .ok (.bipush 7, 2) := by decide +kernel
theorem dX4_odds_7 : decode cX4_odds 7 = .ok (.if_icmp .gt 22, 3) := by decide +kernel
theorem dX4_odds_10 : decode cX4_odds 10 = .ok (.iload_n 2, 1) := by decide +kernel
theorem dX4_odds_11 : decode cX4_odds 11 = .ok (.ifCond .lt 18, 3) := by decide +kernel
theorem dX4_odds_14 : decode cX4_odds 14 = .ok (.iload_n 2, 1) := by decide +kernel
theorem dX4_odds_15 : decode cX4_odds 15 = .ok (.bipush 10, 2) := by decide +kernel
theorem dX4_odds_17 : decode cX4_odds 17 = .ok (.if_icmp .gt 12, 3) := by decide +kernel
theorem dX4_odds_20 : decode cX4_odds 20 = .ok (.iload_n 3, 1) := by decide +kernel
theorem dX4_odds_21 : decode cX4_odds 21 = .ok (.ifCond .lt 8, 3) := by decide +kernel
theorem dX4_odds_24 : decode cX4_odds 24 = .ok (.iload_n 3, 1) := by decide +kernel
theorem dX4_odds_25 : decode cX4_odds 25 = .ok (.iconst 1, 1) := by decide +kernel
theorem dX4_odds_26 : decode cX4_odds 26 = .ok (.if_icmp .le 5, 3) := by decide +kernel
theorem dX4_odds_29 : decode cX4_odds 29 = .ok (.iconst (-1), 1) := by decide +kernel
theorem dX4_odds_30 : decode cX4_odds 30 = .ok (.ireturn, 1) := by decide +kernel
theorem dX4_odds_31 : decode cX4_odds 31 = .ok (.iload_n 1, 1) := by decide +kernel
theorem dX4_odds_32 : decode cX4_odds 32 = .ok (.aload_n 0, 1) := by decide +kernel
theorem dX4_odds_33 : decode cX4_odds 33 = .ok (.getfield 90, 3) := by decide +kernel
theorem dX4_odds_36 : decode cX4_odds 36 = .ok (.invokestatic 214, 3) := by decide +kernel
theorem dX4_odds_39 : decode cX4_odds 39 = .ok (.istore 4, 2) := by decide +kernel
theorem dX4_odds_41 : decode cX4_odds 41 = .ok (.aload_n 0, 1) := by decide +kernel
theorem dX4_odds_42 : decode cX4_odds 42 = .ok (.getfield 41, 3) := by decide +kernel
theorem dX4_odds_45 : decode cX4_odds 45 = .ok (.iconst 0, 1) := by decide +kernel
theorem dX4_odds_46 : decode cX4_odds 46 = .ok (.iconst 1, 1) := by decide +kernel
theorem dX4_odds_47 : decode cX4_odds 47 = .ok (.invokevirtual 157, 3) := by decide +kernel
theorem dX4_odds_50 : decode cX4_odds 50 = .ok (.aload_n 0, 1) := by decide +kernel
theorem dX4_odds_51 : decode cX4_odds 51 = .ok (.getfield 41, 3) := by decide +kernel
theorem dX4_odds_54 : decode cX4_odds 54 = .ok (.aload_n 0, 1) := by decide +kernel
theorem dX4_odds_55 : decode cX4_odds 55 = .ok (.getfield 19, 3) := by decide +kernel
theorem dX4_odds_58 : decode cX4_odds 58 = .ok (.aload_n 0, 1) := by decide +kernel
theorem dX4_odds_59 : decode cX4_odds 59 = .ok (.getfield 96, 3) := by decide +kernel
theorem dX4_odds_62 : decode cX4_odds 62 = .ok (.invokevirtual 169, 3) := by decide +kernel
theorem dX4_odds_65 : decode cX4_odds 65 = .ok (.aload_n 0, 1) := by decide +kernel
theorem dX4_odds_66 : decode cX4_odds 66 = .ok (.getfield 41, 3) := by decide +kernel
theorem dX4_odds_69 : decode cX4_odds 69 = .ok (.iconst 0, 1) := by decide +kernel
theorem dX4_odds_70 : decode cX4_odds 70 = .ok (.iload 4, 2) := by decide +kernel
theorem dX4_odds_72 : decode cX4_odds 72 = .ok (.aload_n 0, 1) := by decide +kernel
theorem dX4_odds_73 : decode cX4_odds 73 = .ok (.getfield 120, 3) := by decide +kernel
theorem dX4_odds_76 : decode cX4_odds 76 = .ok (.iload_n 2, 1) := by decide +kernel
theorem dX4_odds_77 : decode cX4_odds 77 = .ok (.invokestatic 219, 3) := by decide +kernel
theorem dX4_odds_80 : decode cX4_odds 80 = .ok (.istore 5, 2) := by decide +kernel
theorem dX4_odds_82 : decode cX4_odds 82 = .ok (.iconst 1, 1) := by decide +kernel
theorem dX4_odds_83 : decode cX4_odds 83 = .ok (.istore 6, 2) := by decide +kernel
theorem dX4_odds_85 : decode cX4_odds 85 = .ok (.iconst 0, 1) := by decide +kernel
theorem dX4_odds_86 : decode cX4_odds 86 = .ok (.istore 7, 2) := by decide +kernel
theorem dX4_odds_88 : decode cX4_odds 88 = .ok (.iload 7, 2) := by decide +kernel
theorem dX4_odds_90 : decode cX4_odds 90 = .ok (.iload 4, 2) := by decide +kernel
theorem dX4_odds_92 : decode cX4_odds 92 = .ok (.if_icmp .ge 16, 3) := by decide +kernel
theorem dX4_odds_95 : decode cX4_odds 95 = .ok (.iload 6, 2) := by decide +kernel
theorem dX4_odds_97 : decode cX4_odds 97 = .ok (.bipush 10, 2) := by decide +kernel
theorem dX4_odds_99 : decode cX4_odds 99 = .ok (.imul, 1) := by decide +kernel
theorem dX4_odds_100 : decode cX4_odds 100 = .ok (.istore 6, 2) := by decide +kernel
theorem dX4_odds_102 : decode cX4_odds 102 = .ok (.iinc 7 1, 3) := by decide +kernel
theorem dX4_odds_105 : decode cX4_odds 105 = .ok (.goto (-17), 3) := by decide +kernel
theorem dX4_odds_108 : decode cX4_odds 108 = .ok (.iload 5, 2) := by decide +kernel
theorem dX4_odds_110 : decode cX4_odds 110 = .ok (.iload 6, 2) := by decide +kernel
theorem dX4_odds_112 : decode cX4_odds 112 = .ok (.invokestatic 223, 3) := by decide +kernel
theorem dX4_odds_115 : decode cX4_odds 115 = .ok (.istore 7, 2) := by decide +kernel
theorem dX4_odds_117 : decode cX4_odds 117 = .ok (.iload 7, 2) := by decide +kernel
theorem dX4_odds_119 : decode cX4_odds 119 = .ok (.ifCond .ne 5, 3) := by decide +kernel
theorem dX4_odds_122 : decode cX4_odds 122 = .ok (.iconst (-1), 1) := by decide +kernel
theorem dX4_odds_123 : decode cX4_odds 123 = .ok (.ireturn, 1) := by decide +kernel
theorem dX4_odds_124 : decode cX4_odds 124 = .ok (.iload_n 3, 1) := by decide +kernel
theorem dX4_odds_125 : decode cX4_odds 125 = .ok (.ifCond .ne 8, 3) := by decide +kernel
theorem dX4_odds_128 : decode cX4_odds 128 = .ok (.iload 5, 2) := by decide +kernel
theorem dX4_odds_130 : decode cX4_odds 130 = .ok (.goto 5, 3) := by decide +kernel
theorem dX4_odds_133 : decode cX4_odds 133 = .ok (.iload 6, 2) := by decide +kernel
theorem dX4_odds_135 : decode cX4_odds 135 = .ok (.iload 7, 2) := by decide +kernel
theorem dX4_odds_137 : decode cX4_odds 137 = .ok (.idiv, 1) := by decide +kernel
theorem dX4_odds_138 : decode cX4_odds 138 = .ok (.ireturn, 1) := by decide +kernel
theorem dX4_evening_0 : decode cX4_evening 0 = .ok (.iload_n 1, 1) := by decide +kernel
theorem dX4_evening_1 : decode cX4_evening 1 = .ok (.ifCond .lt 30, 3) := by decide +kernel
theorem dX4_evening_4 : decode cX4_evening 4 = .ok (.iload_n 1, 1) := by decide +kernel
theorem dX4_evening_5 : decode cX4_evening 5 = .ok (.sipush 9999, 3) := by decide +kernel
theorem dX4_evening_8 : decode cX4_evening 8 = .ok (.if_icmp .gt 23, 3) := by decide +kernel
theorem dX4_evening_11 : decode cX4_evening 11 = .ok (.iload_n 2, 1) := by decide +kernel
theorem dX4_evening_12 : decode cX4_evening 12 = .ok (.iconst 1, 1) := by decide +kernel
theorem dX4_evening_13 : decode cX4_evening 13 = .ok (.if_icmp .lt 18, 3) := by decide +kernel
theorem dX4_evening_16 : decode cX4_evening 16 = .ok (.iload_n 2, 1) := by decide +kernel
theorem dX4_evening_17 : decode cX4_evening 17 = .ok (.bipush 60, 2) := by decide +kernel
theorem dX4_evening_19 : decode cX4_evening 19 = .ok (.if_icmp .gt 12, 3) := by decide +kernel
theorem dX4_evening_22 : decode cX4_evening 22 = .ok (.iload_n 3, 1) := by decide +kernel
theorem dX4_evening_23 : decode cX4_evening 23 = .ok (.ifCond .lt 8, 3) := by decide +kernel
theorem dX4_evening_26 : decode cX4_evening 26 = .ok (.iload_n 3, 1) := by decide +kernel
theorem dX4_evening_27 : decode cX4_evening 27 = .ok (.iconst 2, 1) := by decide +kernel
theorem dX4_evening_28 : decode cX4_evening 28 = .ok (.if_icmp .le 5, 3) := by decide +kernel
theorem dX4_evening_31 : decode cX4_evening 31 = .ok (.iconst (-1), 1) := by decide +kernel
theorem dX4_evening_32 : decode cX4_evening 32 = .ok (.ireturn, 1) := by decide +kernel
theorem dX4_evening_33 : decode cX4_evening 33 = .ok (.aload_n 0, 1) := by decide +kernel
theorem dX4_evening_34 : decode cX4_evening 34 = .ok (.getfield 23, 3) := by decide +kernel
theorem dX4_evening_37 : decode cX4_evening 37 = .ok (.aload_n 0, 1) := by decide +kernel
theorem dX4_evening_38 : decode cX4_evening 38 = .ok (.getfield 19, 3) := by decide +kernel
theorem dX4_evening_41 : decode cX4_evening 41 = .ok (.invokevirtual 177, 3) := by decide +kernel
theorem dX4_evening_44 : decode cX4_evening 44 = .ok (.iconst 0, 1) := by decide +kernel
theorem dX4_evening_45 : decode cX4_evening 45 = .ok (.istore 4, 2) := by decide +kernel
theorem dX4_evening_47 : decode cX4_evening 47 = .ok (.iconst 0, 1) := by decide +kernel
theorem dX4_evening_48 : decode cX4_evening 48 = .ok (.istore 5, 2) := by decide +kernel
theorem dX4_evening_50 : decode cX4_evening 50 = .ok (.iconst 0, 1) := by decide +kernel
theorem dX4_evening_51 : decode cX4_evening 51 = .ok (.istore 6, 2) := by decide +kernel
theorem dX4_evening_53 : decode cX4_evening 53 = .ok (.iload 6, 2) := by decide +kernel
theorem dX4_evening_55 : decode cX4_evening 55 = .ok (.iload_n 2, 1) := by decide +kernel
theorem dX4_evening_56 : decode cX4_evening 56 = .ok (.if_icmp .ge 97, 3) := by decide +kernel
theorem dX4_evening_59 : decode cX4_evening 59 = .ok (.iload_n 1, 1) := by decide +kernel
theorem dX4_evening_60 : decode cX4_evening 60 = .ok (.iload 6, 2) := by decide +kernel
theorem dX4_evening_62 : decode cX4_evening 62 = .ok (.invokestatic 226, 3) := by decide +kernel
theorem dX4_evening_65 : decode cX4_evening 65 = .ok (.istore 7, 2) := by decide +kernel
theorem dX4_evening_67 : decode cX4_evening 67 = .ok (.aload_n 0, 1) := by decide +kernel
theorem dX4_evening_68 : decode cX4_evening 68 = .ok (.getfield 23, 3) := by decide +kernel
theorem dX4_evening_71 : decode cX4_evening 71 = .ok (.iload 7, 2) := by decide +kernel
theorem dX4_evening_73 : decode cX4_evening 73 = .ok (.iconst 4, 1) := by decide +kernel
theorem dX4_evening_74 : decode cX4_evening 74 = .ok (.irem, 1) := by decide +kernel
theorem dX4_evening_75 : decode cX4_evening 75 = .ok (.aload_n 0, 1) := by decide +kernel
theorem dX4_evening_76 : decode cX4_evening 76 = .ok (.getfield 96, 3) := by decide +kernel
theorem dX4_evening_79 : decode cX4_evening 79 = .ok (.invokevirtual 136, 3) := by decide +kernel
theorem dX4_evening_82 : decode cX4_evening 82 = .ok (.ifCond .ne 19, 3) := by decide +kernel
theorem dX4_evening_85 : decode cX4_evening 85 = .ok (.iinc 5 1, 3) := by decide +kernel
theorem dX4_evening_88 : decode cX4_evening 88 = .ok (.aload_n 0, 1) := by decide +kernel
theorem dX4_evening_89 : decode cX4_evening 89 = .ok (.getfield 23, 3) := by decide +kernel
theorem dX4_evening_92 : decode cX4_evening 92 = .ok (.iconst 3, 1) := by decide +kernel
theorem dX4_evening_93 : decode cX4_evening 93 = .ok (.aload_n 0, 1) := by decide +kernel
theorem dX4_evening_94 : decode cX4_evening 94 = .ok (.getfield 96, 3) := by decide +kernel
theorem dX4_evening_97 : decode cX4_evening 97 = .ok (.invokevirtual 136, 3) := by decide +kernel
theorem dX4_evening_100 : decode cX4_evening 100 = .ok (.pop, 1) := by decide +kernel
theorem dX4_evening_101 : decode cX4_evening 101 = .ok (.iload 7, 2) := by decide +kernel
theorem dX4_evening_103 : decode cX4_evening 103 = .ok (.iconst 4, 1) := by decide +kernel
theorem dX4_evening_104 : decode cX4_evening 104 = .ok (.idiv, 1) := by decide +kernel
theorem dX4_evening_105 : decode cX4_evening 105 = .ok (.bipush 8, 2) := by decide +kernel
theorem dX4_evening_107 : decode cX4_evening 107 = .ok (.irem, 1) := by decide +kernel
theorem dX4_evening_108 : decode cX4_evening 108 = .ok (.ifCond .ne 26, 3) := by decide +kernel
theorem dX4_evening_111 : decode cX4_evening 111 = .ok (.aload_n 0, 1) := by decide +kernel
theorem dX4_evening_112 : decode cX4_evening 112 = .ok (.getfield 23, 3) := by decide +kernel
theorem dX4_evening_115 : decode cX4_evening 115 = .ok (.aload_n 0, 1) := by decide +kernel
theorem dX4_evening_116 : decode cX4_evening 116 = .ok (.getfield 23, 3) := by decide +kernel
theorem dX4_evening_119 : decode cX4_evening 119 = .ok (.iconst 0, 1) := by decide +kernel
theorem dX4_evening_120 : decode cX4_evening 120 = .ok (.invokevirtual 110, 3) := by decide +kernel
theorem dX4_evening_123 : decode cX4_evening 123 = .ok (.aload_n 0, 1) := by decide +kernel
theorem dX4_evening_124 : decode cX4_evening 124 = .ok (.getfield 23, 3) := by decide +kernel
theorem dX4_evening_127 : decode cX4_evening 127 = .ok (.iconst 2, 1) := by decide +kernel
theorem dX4_evening_128 : decode cX4_evening 128 = .ok (.invokevirtual 110, 3) := by decide +kernel
theorem dX4_evening_131 : decode cX4_evening 131 = .ok (.invokevirtual 143, 3) := by decide +kernel
theorem dX4_evening_134 : decode cX4_evening 134 = .ok (.aload_n 0, 1) := by decide +kernel
theorem dX4_evening_135 : decode cX4_evening 135 = .ok (.getfield 23, 3) := by decide +kernel
theorem dX4_evening_138 : decode cX4_evening 138 = .ok (.getfield 114, 3) := by decide +kernel
theorem dX4_evening_141 : decode cX4_evening 141 = .ok (.ifCond .ne 6, 3) := by decide +kernel
theorem dX4_evening_144 : decode cX4_evening 144 = .ok (.iinc 4 1, 3) := by decide +kernel
theorem dX4_evening_147 : decode cX4_evening 147 = .ok (.iinc 6 1, 3) := by decide +kernel
theorem dX4_evening_150 : decode cX4_evening 150 = .ok (.goto (-97), 3) := by decide +kernel
theorem dX4_evening_153 : decode cX4_evening 153 = .ok (.iload_n 3, 1) := by decide +kernel
theorem dX4_evening_154 : decode cX4_evening 154 = .ok (.ifCond .ne 6, 3) := by decide +kernel
theorem dX4_evening_157 : decode cX4_evening 157 = .ok (.iload 4, 2) := by decide +kernel
theorem dX4_evening_159 : decode cX4_evening 159 = .ok (.ireturn, 1) := by decide +kernel
theorem dX4_evening_160 : decode cX4_evening 160 = .ok (.iload_n 3, 1) := by decide +kernel
theorem dX4_evening_161 : decode cX4_evening 161 = .ok (.iconst 1, 1) := by decide +kernel
theorem dX4_evening_162 : decode cX4_evening 162 = .ok (.if_icmp .ne 8, 3) := by decide +kernel
theorem dX4_evening_165 : decode cX4_evening 165 = .ok (.iload 5, 2) := by decide +kernel
theorem dX4_evening_167 : decode cX4_evening 167 = .ok (.goto 11, 3) := by decide +kernel
theorem dX4_evening_170 : decode cX4_evening 170 = .ok (.aload_n 0, 1) := by decide +kernel
theorem dX4_evening_171 : decode cX4_evening 171 = .ok (.getfield 23, 3) := by decide +kernel
theorem dX4_evening_174 : decode cX4_evening 174 = .ok (.iconst 0, 1) := by decide +kernel
theorem dX4_evening_175 : decode cX4_evening 175 = .ok (.invokevirtual 110, 3) := by decide +kernel
theorem dX4_evening_178 : decode cX4_evening 178 = .ok (.ireturn, 1) := by decide +kernel
theorem dX4_keep_0 : decode cX4_keep 0 = .ok (.aload_n 0, 1) := by decide +kernel
theorem dX4_keep_1 : decode cX4_keep 1 = .ok (.getfield 35, 3) := by decide +kernel
theorem dX4_keep_4 : decode cX4_keep 4 = .ok (.invokevirtual 229, 3) := by decide +kernel
theorem dX4_keep_7 : decode cX4_keep 7 = .ok (.ifCond .eq 6, 3) := by decide +kernel
theorem dX4_keep_10 : decode cX4_keep 10 = .ok (.bipush (-3), 2) := by decide +kernel
theorem dX4_keep_12 : decode cX4_keep 12 = .ok (.ireturn, 1) := by decide +kernel
theorem dX4_keep_13 : decode cX4_keep 13 = .ok (.aload_n 0, 1) := by decide +kernel
theorem dX4_keep_14 : decode cX4_keep 14 = .ok (.getfield 35, 3) := by decide +kernel
theorem dX4_keep_17 : decode cX4_keep 17 = .ok (.aload_n 0, 1) := by decide +kernel
theorem dX4_keep_18 : decode cX4_keep 18 = .ok (.getfield 19, 3) := by decide +kernel
theorem dX4_keep_21 : decode cX4_keep 21 = .ok (.invokevirtual 132, 3) := by decide +kernel
theorem dX4_keep_24 : decode cX4_keep 24 = .ok (.aload_n 0, 1) := by decide +kernel
theorem dX4_keep_25 : decode cX4_keep 25 = .ok (.getfield 35, 3) := by decide +kernel
theorem dX4_keep_28 : decode cX4_keep 28 = .ok (.getfield 151, 3) := by decide +kernel
theorem dX4_keep_31 : decode cX4_keep 31 = .ok (.ireturn, 1) := by decide +kernel
theorem dX4_back_0 : decode cX4_back 0 = .ok (.aload_n 0, 1) := by decide +kernel
theorem dX4_back_1 : decode cX4_back 1 = .ok (.getfield 35, 3) := by decide +kernel
theorem dX4_back_4 : decode cX4_back 4 = .ok (.aload_n 0, 1) := by decide +kernel
theorem dX4_back_5 : decode cX4_back 5 = .ok (.getfield 19, 3) := by decide +kernel
theorem dX4_back_8 : decode cX4_back 8 = .ok (.invokevirtual 147, 3) := by decide +kernel
theorem dX4_back_11 : decode cX4_back 11 = .ok (.ifCond .ne 6, 3) := by decide +kernel
theorem dX4_back_14 : decode cX4_back 14 = .ok (.bipush (-2), 2) := by decide +kernel
theorem dX4_back_16 : decode cX4_back 16 = .ok (.ireturn, 1) := by decide +kernel
theorem dX4_back_17 : decode cX4_back 17 = .ok (.aload_n 0, 1) := by decide +kernel
theorem dX4_back_18 : decode cX4_back 18 = .ok (.getfield 31, 3) := by decide +kernel
theorem dX4_back_21 : decode cX4_back 21 = .ok (.invokevirtual 232, 3) := by decide +kernel
theorem dX4_back_24 : decode cX4_back 24 = .ok (.aload_n 0, 1) := by decide +kernel
theorem dX4_back_25 : decode cX4_back 25 = .ok (.getfield 35, 3) := by decide +kernel
theorem dX4_back_28 : decode cX4_back 28 = .ok (.getfield 151, 3) := by decide +kernel
theorem dX4_back_31 : decode cX4_back 31 = .ok (.ireturn, 1) := by decide +kernel
theorem dX4_count_0 : decode cX4_count 0 = .ok (.iload_n 1, 1) := by decide +kernel
theorem dX4_count_1 : decode cX4_count 1 = .ok (.tableswitch 107 0 6 #[43, 48, 56, 78, 86, 94, 99], 43) := by decide +kernel
theorem dX4_count_44 : decode cX4_count 44 = .ok (.aload_n 0, 1) := by decide +kernel
theorem dX4_count_45 : decode cX4_count 45 = .ok (.getfield 90, 3) := by decide +kernel
theorem dX4_count_48 : decode cX4_count 48 = .ok (.ireturn, 1) := by decide +kernel
theorem dX4_count_49 : decode cX4_count 49 = .ok (.aload_n 0, 1) := by decide +kernel
theorem dX4_count_50 : decode cX4_count 50 = .ok (.getfield 19, 3) := by decide +kernel
theorem dX4_count_53 : decode cX4_count 53 = .ok (.getfield 183, 3) := by decide +kernel
theorem dX4_count_56 : decode cX4_count 56 = .ok (.ireturn, 1) := by decide +kernel
theorem dX4_count_57 : decode cX4_count 57 = .ok (.aload_n 0, 1) := by decide +kernel
theorem dX4_count_58 : decode cX4_count 58 = .ok (.getfield 19, 3) := by decide +kernel
theorem dX4_count_61 : decode cX4_count 61 = .ok (.getfield 233, 3) := by decide +kernel
theorem dX4_count_64 : decode cX4_count 64 = .ok (.ifCond .ge 7, 3) := by decide +kernel
theorem dX4_count_67 : decode cX4_count 67 = .ok (.iconst 2, 1) := by decide +kernel
theorem dX4_count_68 : decode cX4_count 68 = .ok (.goto 10, 3) := by decide +kernel
theorem dX4_count_71 : decode cX4_count 71 = .ok (.aload_n 0, 1) := by decide +kernel
theorem dX4_count_72 : decode cX4_count 72 = .ok (.getfield 19, 3) := by decide +kernel
theorem dX4_count_75 : decode cX4_count 75 = .ok (.getfield 233, 3) := by decide +kernel
theorem dX4_count_78 : decode cX4_count 78 = .ok (.ireturn, 1) := by decide +kernel
theorem dX4_count_79 : decode cX4_count 79 = .ok (.aload_n 0, 1) := by decide +kernel
theorem dX4_count_80 : decode cX4_count 80 = .ok (.getfield 31, 3) := by decide +kernel
theorem dX4_count_83 : decode cX4_count 83 = .ok (.getfield 151, 3) := by decide +kernel
theorem dX4_count_86 : decode cX4_count 86 = .ok (.ireturn, 1) := by decide +kernel
theorem dX4_count_87 : decode cX4_count 87 = .ok (.aload_n 0, 1) := by decide +kernel
theorem dX4_count_88 : decode cX4_count 88 = .ok (.getfield 35, 3) := by decide +kernel
theorem dX4_count_91 : decode cX4_count 91 = .ok (.getfield 151, 3) := by decide +kernel
theorem dX4_count_94 : decode cX4_count 94 = .ok (.ireturn, 1) := by decide +kernel
theorem dX4_count_95 : decode cX4_count 95 = .ok (.aload_n 0, 1) := by decide +kernel
theorem dX4_count_96 : decode cX4_count 96 = .ok (.getfield 190, 3) := by decide +kernel
theorem dX4_count_99 : decode cX4_count 99 = .ok (.ireturn, 1) := by decide +kernel
theorem dX4_count_100 : decode cX4_count 100 = .ok (.aload_n 0, 1) := by decide +kernel
theorem dX4_count_101 : decode cX4_count 101 = .ok (.getfield 10, 3) := by decide +kernel
theorem dX4_count_104 : decode cX4_count 104 = .ok (.getfield 84, 3) := by decide +kernel
theorem dX4_count_107 : decode cX4_count 107 = .ok (.ireturn, 1) := by decide +kernel
theorem dX4_count_108 : decode cX4_count 108 = .ok (.iconst (-1), 1) := by decide +kernel
theorem dX4_count_109 : decode cX4_count 109 = .ok (.ireturn, 1) := by decide +kernel
theorem dX4_takeScript_0 : decode cX4_takeScript 0 = .ok (.aload_n 0, 1) := by decide +kernel
theorem dX4_takeScript_1 : decode cX4_takeScript 1 = .ok (.aload_n 0, 1) := by decide +kernel
theorem dX4_takeScript_2 : decode cX4_takeScript 2 = .ok (.getfield 10, 3) := by decide +kernel
theorem dX4_takeScript_5 : decode cX4_takeScript 5 = .ok (.getfield 236, 3) := by decide +kernel
theorem dX4_takeScript_8 : decode cX4_takeScript 8 = .ok (.putfield 96, 3) := by decide +kernel
theorem dX4_takeScript_11 : decode cX4_takeScript 11 = .ok (.aload_n 0, 1) := by decide +kernel
theorem dX4_takeScript_12 : decode cX4_takeScript 12 = .ok (.aload_n 0, 1) := by decide +kernel
theorem dX4_takeScript_13 : decode cX4_takeScript 13 = .ok (.getfield 10, 3) := by decide +kernel
theorem dX4_takeScript_16 : decode cX4_takeScript 16 = .ok (.getfield 239, 3) := by decide +kernel
theorem dX4_takeScript_19 : decode cX4_takeScript 19 = .ok (.putfield 120, 3) := by decide +kernel
theorem dX4_takeScript_22 : decode cX4_takeScript 22 = .ok (.aload_n 0, 1) := by decide +kernel
theorem dX4_takeScript_23 : decode cX4_takeScript 23 = .ok (.aload_n 0, 1) := by decide +kernel
theorem dX4_takeScript_24 : decode cX4_takeScript 24 = .ok (.getfield 10, 3) := by decide +kernel
theorem dX4_takeScript_27 : decode cX4_takeScript 27 = .ok (.getfield 242, 3) := by decide +kernel
theorem dX4_takeScript_30 : decode cX4_takeScript 30 = .ok (.putfield 90, 3) := by decide +kernel
theorem dX4_takeScript_33 : decode cX4_takeScript 33 = .ok (.aload_n 0, 1) := by decide +kernel
theorem dX4_takeScript_34 : decode cX4_takeScript 34 = .ok (.getfield 19, 3) := by decide +kernel
theorem dX4_takeScript_37 : decode cX4_takeScript 37 = .ok (.aload_n 0, 1) := by decide +kernel
theorem dX4_takeScript_38 : decode cX4_takeScript 38 = .ok (.getfield 10, 3) := by decide +kernel
theorem dX4_takeScript_41 : decode cX4_takeScript 41 = .ok (.invokevirtual 243, 3) := by decide +kernel
theorem dX4_takeScript_44 : decode cX4_takeScript 44 = .ok (.invokevirtual 208, 3) := by decide +kernel
theorem dX4_takeScript_47 : decode cX4_takeScript 47 = .ok (.aload_n 0, 1) := by decide +kernel
theorem dX4_takeScript_48 : decode cX4_takeScript 48 = .ok (.iconst 0, 1) := by decide +kernel
theorem dX4_takeScript_49 : decode cX4_takeScript 49 = .ok (.putfield 190, 3) := by decide +kernel
theorem dX4_takeScript_52 : decode cX4_takeScript 52 = .ok (.aload_n 0, 1) := by decide +kernel
theorem dX4_takeScript_53 : decode cX4_takeScript 53 = .ok (.getfield 31, 3) := by decide +kernel
theorem dX4_takeScript_56 : decode cX4_takeScript 56 = .ok (.invokevirtual 232, 3) := by decide +kernel
theorem dX4_takeScript_59 : decode cX4_takeScript 59 = .ok (.aload_n 0, 1) := by decide +kernel
theorem dX4_takeScript_60 : decode cX4_takeScript 60 = .ok (.getfield 35, 3) := by decide +kernel
theorem dX4_takeScript_63 : decode cX4_takeScript 63 = .ok (.invokevirtual 232, 3) := by decide +kernel
theorem dX4_takeScript_66 : decode cX4_takeScript 66 = .ok (.return_, 1) := by decide +kernel
theorem dX4_figureOfFewest_0 : decode cX4_figureOfFewest 0 = .ok (.aload_n 0, 1) := by decide +kernel
theorem dX4_figureOfFewest_1 : decode cX4_figureOfFewest 1 = .ok (.getfield 41, 3) := by decide +kernel
theorem dX4_figureOfFewest_4 : decode cX4_figureOfFewest 4 = .ok (.aload_n 0, 1) := by decide +kernel
theorem dX4_figureOfFewest_5 : decode cX4_figureOfFewest 5 = .ok (.getfield 19, 3) := by decide +kernel
theorem dX4_figureOfFewest_8 : decode cX4_figureOfFewest 8 = .ok (.aload_n 0, 1) := by decide +kernel
theorem dX4_figureOfFewest_9 : decode cX4_figureOfFewest 9 = .ok (.getfield 96, 3) := by decide +kernel
theorem dX4_figureOfFewest_12 : decode cX4_figureOfFewest 12 = .ok (.invokevirtual 169, 3) := by decide +kernel
theorem dX4_figureOfFewest_15 : decode cX4_figureOfFewest 15 = .ok (.aload_n 0, 1) := by decide +kernel
theorem dX4_figureOfFewest_16 : decode cX4_figureOfFewest 16 = .ok (.getfield 41, 3) := by decide +kernel
theorem dX4_figureOfFewest_19 : decode cX4_figureOfFewest 19 = .ok (.iconst 0, 1) := by decide +kernel
theorem dX4_figureOfFewest_20 : decode cX4_figureOfFewest 20 = .ok (.iconst 0, 1) := by decide +kernel
theorem dX4_figureOfFewest_21 : decode cX4_figureOfFewest 21 = .ok (.invokestatic 246, 3) := by decide +kernel
theorem dX4_figureOfFewest_24 : decode cX4_figureOfFewest 24 = .ok (.aload_n 0, 1) := by decide +kernel
theorem dX4_figureOfFewest_25 : decode cX4_figureOfFewest 25 = .ok (.getfield 41, 3) := by decide +kernel
theorem dX4_figureOfFewest_28 : decode cX4_figureOfFewest 28 = .ok (.invokevirtual 250, 3) := by decide +kernel
theorem dX4_figureOfFewest_31 : decode cX4_figureOfFewest 31 = .ok (.ifCond .eq 14, 3) := by decide +kernel
theorem dX4_figureOfFewest_34 : decode cX4_figureOfFewest 34 = .ok (.iload_n 1, 1) := by decide +kernel
theorem dX4_figureOfFewest_35 : decode cX4_figureOfFewest 35 = .ok (.aload_n 0, 1) := by decide +kernel
theorem dX4_figureOfFewest_36 : decode cX4_figureOfFewest 36 = .ok (.getfield 41, 3) := by decide +kernel
theorem dX4_figureOfFewest_39 : decode cX4_figureOfFewest 39 = .ok (.getfield 253, 3) := by decide +kernel
theorem dX4_figureOfFewest_42 : decode cX4_figureOfFewest 42 = .ok (.if_icmp .lt 6, 3) := by decide +kernel
theorem dX4_figureOfFewest_45 : decode cX4_figureOfFewest 45 = .ok (.bipush (-4), 2) := by decide +kernel
theorem dX4_figureOfFewest_47 : decode cX4_figureOfFewest 47 = .ok (.ireturn, 1) := by decide +kernel
theorem dX4_figureOfFewest_48 : decode cX4_figureOfFewest 48 = .ok (.iload_n 1, 1) := by decide +kernel
theorem dX4_figureOfFewest_49 : decode cX4_figureOfFewest 49 = .ok (.ifCond .ge 13, 3) := by decide +kernel
theorem dX4_figureOfFewest_52 : decode cX4_figureOfFewest 52 = .ok (.aload_n 0, 1) := by decide +kernel
theorem dX4_figureOfFewest_53 : decode cX4_figureOfFewest 53 = .ok (.getfield 41, 3) := by decide +kernel
theorem dX4_figureOfFewest_56 : decode cX4_figureOfFewest 56 = .ok (.getfield 253, 3) := by decide +kernel
theorem dX4_figureOfFewest_59 : decode cX4_figureOfFewest 59 = .ok (.goto 14, 3) := by decide +kernel
theorem dX4_figureOfFewest_62 : decode cX4_figureOfFewest 62 = .ok (.aload_n 0, 1) := by decide +kernel
theorem dX4_figureOfFewest_63 : decode cX4_figureOfFewest 63 = .ok (.getfield 41, 3) := by decide +kernel
theorem dX4_figureOfFewest_66 : decode cX4_figureOfFewest 66 = .ok (.getfield 256, 3) := by decide +kernel
theorem dX4_figureOfFewest_69 : decode cX4_figureOfFewest 69 = .ok (.iload_n 1, 1) := by decide +kernel
theorem dX4_figureOfFewest_70 : decode cX4_figureOfFewest 70 = .ok (.invokestatic 123, 3) := by decide +kernel
theorem dX4_figureOfFewest_73 : decode cX4_figureOfFewest 73 = .ok (.ireturn, 1) := by decide +kernel
theorem dX4_tryRow_0 : decode cX4_tryRow 0 = .ok (.aload_n 0, 1) := by decide +kernel
theorem dX4_tryRow_1 : decode cX4_tryRow 1 = .ok (.getfield 23, 3) := by decide +kernel
theorem dX4_tryRow_4 : decode cX4_tryRow 4 = .ok (.aload_n 0, 1) := by decide +kernel
theorem dX4_tryRow_5 : decode cX4_tryRow 5 = .ok (.getfield 19, 3) := by decide +kernel
theorem dX4_tryRow_8 : decode cX4_tryRow 8 = .ok (.invokevirtual 177, 3) := by decide +kernel
theorem dX4_tryRow_11 : decode cX4_tryRow 11 = .ok (.iload_n 1, 1) := by decide +kernel
theorem dX4_tryRow_12 : decode cX4_tryRow 12 = .ok (.aload_n 0, 1) := by decide +kernel
theorem dX4_tryRow_13 : decode cX4_tryRow 13 = .ok (.getfield 90, 3) := by decide +kernel
theorem dX4_tryRow_16 : decode cX4_tryRow 16 = .ok (.invokestatic 214, 3) := by decide +kernel
theorem dX4_tryRow_19 : decode cX4_tryRow 19 = .ok (.istore_n 3, 1) := by decide +kernel
theorem dX4_tryRow_20 : decode cX4_tryRow 20 = .ok (.iconst 0, 1) := by decide +kernel
theorem dX4_tryRow_21 : decode cX4_tryRow 21 = .ok (.istore 4, 2) := by decide +kernel
theorem dX4_tryRow_23 : decode cX4_tryRow 23 = .ok (.iload 4, 2) := by decide +kernel
theorem dX4_tryRow_25 : decode cX4_tryRow 25 = .ok (.iload_n 3, 1) := by decide +kernel
theorem dX4_tryRow_26 : decode cX4_tryRow 26 = .ok (.if_icmp .ge 31, 3) := by decide +kernel
theorem dX4_tryRow_29 : decode cX4_tryRow 29 = .ok (.aload_n 0, 1) := by decide +kernel
theorem dX4_tryRow_30 : decode cX4_tryRow 30 = .ok (.getfield 23, 3) := by decide +kernel
theorem dX4_tryRow_33 : decode cX4_tryRow 33 = .ok (.aload_n 0, 1) := by decide +kernel
theorem dX4_tryRow_34 : decode cX4_tryRow 34 = .ok (.getfield 120, 3) := by decide +kernel
theorem dX4_tryRow_37 : decode cX4_tryRow 37 = .ok (.iload 4, 2) := by decide +kernel
theorem dX4_tryRow_39 : decode cX4_tryRow 39 = .ok (.invokestatic 123, 3) := by decide +kernel
theorem dX4_tryRow_42 : decode cX4_tryRow 42 = .ok (.iload_n 2, 1) := by decide +kernel
theorem dX4_tryRow_43 : decode cX4_tryRow 43 = .ok (.invokevirtual 136, 3) := by decide +kernel
theorem dX4_tryRow_46 : decode cX4_tryRow 46 = .ok (.ifCond .ne 5, 3) := by decide +kernel
theorem dX4_tryRow_49 : decode cX4_tryRow 49 = .ok (.iconst 0, 1) := by decide +kernel
theorem dX4_tryRow_50 : decode cX4_tryRow 50 = .ok (.ireturn, 1) := by decide +kernel
theorem dX4_tryRow_51 : decode cX4_tryRow 51 = .ok (.iinc 4 1, 3) := by decide +kernel
theorem dX4_tryRow_54 : decode cX4_tryRow 54 = .ok (.goto (-31), 3) := by decide +kernel
theorem dX4_tryRow_57 : decode cX4_tryRow 57 = .ok (.iconst 1, 1) := by decide +kernel
theorem dX4_tryRow_58 : decode cX4_tryRow 58 = .ok (.ireturn, 1) := by decide +kernel
theorem dX4_possibleKinds_0 : decode cX4_possibleKinds 0 = .ok (.iconst 0, 1) := by decide +kernel
theorem dX4_possibleKinds_1 : decode cX4_possibleKinds 1 = .ok (.istore_n 2, 1) := by decide +kernel
theorem dX4_possibleKinds_2 : decode cX4_possibleKinds 2 = .ok (.iconst 0, 1) := by decide +kernel
theorem dX4_possibleKinds_3 : decode cX4_possibleKinds 3 = .ok (.istore_n 3, 1) := by decide +kernel
theorem dX4_possibleKinds_4 : decode cX4_possibleKinds 4 = .ok (.iload_n 3, 1) := by decide +kernel
theorem dX4_possibleKinds_5 : decode cX4_possibleKinds 5 = .ok (.bipush 6, 2) := by decide +kernel
theorem dX4_possibleKinds_7 : decode cX4_possibleKinds 7 = .ok (.if_icmp .ge 31, 3) := by decide +kernel
theorem dX4_possibleKinds_10 : decode cX4_possibleKinds 10 = .ok (.aload_n 0, 1) := by decide +kernel
theorem dX4_possibleKinds_11 : decode cX4_possibleKinds 11 = .ok (.aload_n 0, 1) := by decide +kernel
theorem dX4_possibleKinds_12 : decode cX4_possibleKinds 12 = .ok (.getfield 96, 3) := by decide +kernel
theorem dX4_possibleKinds_15 : decode cX4_possibleKinds 15 = .ok (.iload_n 1, 1) := by decide +kernel
theorem dX4_possibleKinds_16 : decode cX4_possibleKinds 16 = .ok (.iload_n 3, 1) := by decide +kernel
theorem dX4_possibleKinds_17 : decode cX4_possibleKinds 17 = .ok (.invokestatic 259, 3) := by decide +kernel
theorem dX4_possibleKinds_20 : decode cX4_possibleKinds 20 = .ok (.invokevirtual 262, 3) := by decide +kernel
theorem dX4_possibleKinds_23 : decode cX4_possibleKinds 23 = .ok (.ifCond .eq 9, 3) := by decide +kernel
theorem dX4_possibleKinds_26 : decode cX4_possibleKinds 26 = .ok (.iload_n 2, 1) := by decide +kernel
theorem dX4_possibleKinds_27 : decode cX4_possibleKinds 27 = .ok (.iconst 1, 1) := by decide +kernel
theorem dX4_possibleKinds_28 : decode cX4_possibleKinds 28 = .ok (.iload_n 3, 1) := by decide +kernel
theorem dX4_possibleKinds_29 : decode cX4_possibleKinds 29 = .ok (.ishl, 1) := by decide +kernel
theorem dX4_possibleKinds_30 : decode cX4_possibleKinds 30 = .ok (.ior, 1) := by decide +kernel
theorem dX4_possibleKinds_31 : decode cX4_possibleKinds 31 = .ok (.istore_n 2, 1) := by decide +kernel
theorem dX4_possibleKinds_32 : decode cX4_possibleKinds 32 = .ok (.iinc 3 1, 3) := by decide +kernel
theorem dX4_possibleKinds_35 : decode cX4_possibleKinds 35 = .ok (.goto (-31), 3) := by decide +kernel
theorem dX4_possibleKinds_38 : decode cX4_possibleKinds 38 = .ok (.iload_n 2, 1) := by decide +kernel
theorem dX4_possibleKinds_39 : decode cX4_possibleKinds 39 = .ok (.ireturn, 1) := by decide +kernel
theorem dX4_explainsSeen_0 : decode cX4_explainsSeen 0 = .ok (.iconst 0, 1) := by decide +kernel
theorem dX4_explainsSeen_1 : decode cX4_explainsSeen 1 = .ok (.istore_n 2, 1) := by decide +kernel
theorem dX4_explainsSeen_2 : decode cX4_explainsSeen 2 = .ok (.iload_n 2, 1) := by decide +kernel
theorem dX4_explainsSeen_3 : decode cX4_explainsSeen 3 = .ok (.aload_n 0, 1) := by decide +kernel
theorem dX4_explainsSeen_4 : decode cX4_explainsSeen 4 = .ok (.getfield 190, 3) := by decide +kernel
theorem dX4_explainsSeen_7 : decode cX4_explainsSeen 7 = .ok (.if_icmp .ge 53, 3) := by decide +kernel
theorem dX4_explainsSeen_10 : decode cX4_explainsSeen 10 = .ok (.iload_n 2, 1) := by decide +kernel
theorem dX4_explainsSeen_11 : decode cX4_explainsSeen 11 = .ok (.bipush 6, 2) := by decide +kernel
theorem dX4_explainsSeen_13 : decode cX4_explainsSeen 13 = .ok (.if_icmp .ge 47, 3) := by decide +kernel
theorem dX4_explainsSeen_16 : decode cX4_explainsSeen 16 = .ok (.aload_n 0, 1) := by decide +kernel
theorem dX4_explainsSeen_17 : decode cX4_explainsSeen 17 = .ok (.aload_n 0, 1) := by decide +kernel
theorem dX4_explainsSeen_18 : decode cX4_explainsSeen 18 = .ok (.getfield 45, 3) := by decide +kernel
theorem dX4_explainsSeen_21 : decode cX4_explainsSeen 21 = .ok (.iload_n 2, 1) := by decide +kernel
theorem dX4_explainsSeen_22 : decode cX4_explainsSeen 22 = .ok (.iaload, 1) := by decide +kernel
theorem dX4_explainsSeen_23 : decode cX4_explainsSeen 23 = .ok (.iload_n 1, 1) := by decide +kernel
theorem dX4_explainsSeen_24 : decode cX4_explainsSeen 24 = .ok (.invokevirtual 180, 3) := by decide +kernel
theorem dX4_explainsSeen_27 : decode cX4_explainsSeen 27 = .ok (.ifCond .eq 25, 3) := by decide +kernel
theorem dX4_explainsSeen_30 : decode cX4_explainsSeen 30 = .ok (.aload_n 0, 1) := by decide +kernel
theorem dX4_explainsSeen_31 : decode cX4_explainsSeen 31 = .ok (.getfield 23, 3) := by decide +kernel
theorem dX4_explainsSeen_34 : decode cX4_explainsSeen 34 = .ok (.aload_n 0, 1) := by decide +kernel
theorem dX4_explainsSeen_35 : decode cX4_explainsSeen 35 = .ok (.getfield 49, 3) := by decide +kernel
theorem dX4_explainsSeen_38 : decode cX4_explainsSeen 38 = .ok (.iload_n 2, 1) := by decide +kernel
theorem dX4_explainsSeen_39 : decode cX4_explainsSeen 39 = .ok (.iaload, 1) := by decide +kernel
theorem dX4_explainsSeen_40 : decode cX4_explainsSeen 40 = .ok (.aload_n 0, 1) := by decide +kernel
theorem dX4_explainsSeen_41 : decode cX4_explainsSeen 41 = .ok (.getfield 52, 3) := by decide +kernel
theorem dX4_explainsSeen_44 : decode cX4_explainsSeen 44 = .ok (.iload_n 2, 1) := by decide +kernel
theorem dX4_explainsSeen_45 : decode cX4_explainsSeen 45 = .ok (.iaload, 1) := by decide +kernel
theorem dX4_explainsSeen_46 : decode cX4_explainsSeen 46 = .ok (.invokevirtual 265, 3) := by decide +kernel
theorem dX4_explainsSeen_49 : decode cX4_explainsSeen 49 = .ok (.ifCond .ne 5, 3) := by decide +kernel
theorem dX4_explainsSeen_52 : decode cX4_explainsSeen 52 = .ok (.iconst 0, 1) := by decide +kernel
theorem dX4_explainsSeen_53 : decode cX4_explainsSeen 53 = .ok (.ireturn, 1) := by decide +kernel
theorem dX4_explainsSeen_54 : decode cX4_explainsSeen 54 = .ok (.iinc 2 1, 3) := by decide +kernel
theorem dX4_explainsSeen_57 : decode cX4_explainsSeen 57 = .ok (.goto (-55), 3) := by decide +kernel
theorem dX4_explainsSeen_60 : decode cX4_explainsSeen 60 = .ok (.iconst 1, 1) := by decide +kernel
theorem dX4_explainsSeen_61 : decode cX4_explainsSeen 61 = .ok (.ireturn, 1) := by decide +kernel
theorem dX4_greatestPart_0 : decode cX4_greatestPart 0 = .ok (.iconst 0, 1) := by decide +kernel
theorem dX4_greatestPart_1 : decode cX4_greatestPart 1 = .ok (.istore 4, 2) := by decide +kernel
theorem dX4_greatestPart_3 : decode cX4_greatestPart 3 = .ok (.iconst 0, 1) := by decide +kernel
theorem dX4_greatestPart_4 : decode cX4_greatestPart 4 = .ok (.istore 5, 2) := by decide +kernel
theorem dX4_greatestPart_6 : decode cX4_greatestPart 6 = .ok (.iload 5, 2) := by decide +kernel
theorem dX4_greatestPart_8 : decode cX4_greatestPart 8 = .ok (.bipush 6, 2) := by decide +kernel
theorem dX4_greatestPart_10 : decode cX4_greatestPart 10 = .ok (.if_icmp .ge 67, 3) := by decide +kernel
theorem dX4_greatestPart_13 : decode cX4_greatestPart 13 = .ok (.aload_n 0, 1) := by decide +kernel
theorem dX4_greatestPart_14 : decode cX4_greatestPart 14 = .ok (.iload_n 3, 1) := by decide +kernel
theorem dX4_greatestPart_15 : decode cX4_greatestPart 15 = .ok (.aload_n 0, 1) := by decide +kernel
theorem dX4_greatestPart_16 : decode cX4_greatestPart 16 = .ok (.getfield 96, 3) := by decide +kernel
theorem dX4_greatestPart_19 : decode cX4_greatestPart 19 = .ok (.iload_n 1, 1) := by decide +kernel
theorem dX4_greatestPart_20 : decode cX4_greatestPart 20 = .ok (.iload 5, 2) := by decide +kernel
theorem dX4_greatestPart_22 : decode cX4_greatestPart 22 = .ok (.invokestatic 259, 3) := by decide +kernel
theorem dX4_greatestPart_25 : decode cX4_greatestPart 25 = .ok (.invokevirtual 180, 3) := by decide +kernel
theorem dX4_greatestPart_28 : decode cX4_greatestPart 28 = .ok (.ifCond .eq 13, 3) := by decide +kernel
theorem dX4_greatestPart_31 : decode cX4_greatestPart 31 = .ok (.aload_n 0, 1) := by decide +kernel
theorem dX4_greatestPart_32 : decode cX4_greatestPart 32 = .ok (.getfield 23, 3) := by decide +kernel
theorem dX4_greatestPart_35 : decode cX4_greatestPart 35 = .ok (.invokevirtual 268, 3) := by decide +kernel
theorem dX4_greatestPart_38 : decode cX4_greatestPart 38 = .ok (.goto 6, 3) := by decide +kernel
theorem dX4_greatestPart_41 : decode cX4_greatestPart 41 = .ok (.ldc_w 271, 3) := by decide +kernel
theorem dX4_greatestPart_44 : decode cX4_greatestPart 44 = .ok (.istore 6, 2) := by decide +kernel
theorem dX4_greatestPart_46 : decode cX4_greatestPart 46 = .ok (.aload_n 0, 1) := by decide +kernel
theorem dX4_greatestPart_47 : decode cX4_greatestPart 47 = .ok (.getfield 55, 3) := by decide +kernel
theorem dX4_greatestPart_50 : decode cX4_greatestPart 50 = .ok (.iload 5, 2) := by decide +kernel
theorem dX4_greatestPart_52 : decode cX4_greatestPart 52 = .ok (.iload_n 2, 1) := by decide +kernel
theorem dX4_greatestPart_53 : decode cX4_greatestPart 53 = .ok (.iload 5, 2) := by decide +kernel
theorem dX4_greatestPart_55 : decode cX4_greatestPart 55 = .ok (.ishr, 1) := by decide +kernel
theorem dX4_greatestPart_56 : decode cX4_greatestPart 56 = .ok (.iconst 1, 1) := by decide +kernel
theorem dX4_greatestPart_57 : decode cX4_greatestPart 57 = .ok (.iand, 1) := by decide +kernel
theorem dX4_greatestPart_58 : decode cX4_greatestPart 58 = .ok (.iconst 1, 1) := by decide +kernel
theorem dX4_greatestPart_59 : decode cX4_greatestPart 59 = .ok (.if_icmp .ne 8, 3) := by decide +kernel
theorem dX4_greatestPart_62 : decode cX4_greatestPart 62 = .ok (.iload 6, 2) := by decide +kernel
theorem dX4_greatestPart_64 : decode cX4_greatestPart 64 = .ok (.goto 6, 3) := by decide +kernel
theorem dX4_greatestPart_67 : decode cX4_greatestPart 67 = .ok (.ldc_w 272, 3) := by decide +kernel
theorem dX4_greatestPart_70 : decode cX4_greatestPart 70 = .ok (.iastore, 1) := by decide +kernel
theorem dX4_greatestPart_71 : decode cX4_greatestPart 71 = .ok (.iinc 5 1, 3) := by decide +kernel
theorem dX4_greatestPart_74 : decode cX4_greatestPart 74 = .ok (.goto (-68), 3) := by decide +kernel
theorem dX4_greatestPart_77 : decode cX4_greatestPart 77 = .ok (.iconst 0, 1) := by decide +kernel
theorem dX4_greatestPart_78 : decode cX4_greatestPart 78 = .ok (.istore 5, 2) := by decide +kernel
theorem dX4_greatestPart_80 : decode cX4_greatestPart 80 = .ok (.iload 5, 2) := by decide +kernel
theorem dX4_greatestPart_82 : decode cX4_greatestPart 82 = .ok (.bipush 6, 2) := by decide +kernel
theorem dX4_greatestPart_84 : decode cX4_greatestPart 84 = .ok (.if_icmp .ge 27, 3) := by decide +kernel
theorem dX4_greatestPart_87 : decode cX4_greatestPart 87 = .ok (.iload 4, 2) := by decide +kernel
theorem dX4_greatestPart_89 : decode cX4_greatestPart 89 = .ok (.aload_n 0, 1) := by decide +kernel
theorem dX4_greatestPart_90 : decode cX4_greatestPart 90 = .ok (.aload_n 0, 1) := by decide +kernel
theorem dX4_greatestPart_91 : decode cX4_greatestPart 91 = .ok (.getfield 55, 3) := by decide +kernel
theorem dX4_greatestPart_94 : decode cX4_greatestPart 94 = .ok (.iload 5, 2) := by decide +kernel
theorem dX4_greatestPart_96 : decode cX4_greatestPart 96 = .ok (.iaload, 1) := by decide +kernel
theorem dX4_greatestPart_97 : decode cX4_greatestPart 97 = .ok (.invokevirtual 273, 3) := by decide +kernel
theorem dX4_greatestPart_100 : decode cX4_greatestPart 100 = .ok (.invokestatic 276, 3) := by decide +kernel
theorem dX4_greatestPart_103 : decode cX4_greatestPart 103 = .ok (.istore 4, 2) := by decide +kernel
theorem dX4_greatestPart_105 : decode cX4_greatestPart 105 = .ok (.iinc 5 1, 3) := by decide +kernel
theorem dX4_greatestPart_108 : decode cX4_greatestPart 108 = .ok (.goto (-28), 3) := by decide +kernel
theorem dX4_greatestPart_111 : decode cX4_greatestPart 111 = .ok (.iload 4, 2) := by decide +kernel
theorem dX4_greatestPart_113 : decode cX4_greatestPart 113 = .ok (.ireturn, 1) := by decide +kernel
theorem dX4_partOf_0 : decode cX4_partOf 0 = .ok (.iload_n 1, 1) := by decide +kernel
theorem dX4_partOf_1 : decode cX4_partOf 1 = .ok (.ldc_w 272, 3) := by decide +kernel
theorem dX4_partOf_4 : decode cX4_partOf 4 = .ok (.if_icmp .ne 5, 3) := by decide +kernel
theorem dX4_partOf_7 : decode cX4_partOf 7 = .ok (.iconst 0, 1) := by decide +kernel
theorem dX4_partOf_8 : decode cX4_partOf 8 = .ok (.ireturn, 1) := by decide +kernel
theorem dX4_partOf_9 : decode cX4_partOf 9 = .ok (.iconst 0, 1) := by decide +kernel
theorem dX4_partOf_10 : decode cX4_partOf 10 = .ok (.istore_n 2, 1) := by decide +kernel
theorem dX4_partOf_11 : decode cX4_partOf 11 = .ok (.iconst 0, 1) := by decide +kernel
theorem dX4_partOf_12 : decode cX4_partOf 12 = .ok (.istore_n 3, 1) := by decide +kernel
theorem dX4_partOf_13 : decode cX4_partOf 13 = .ok (.iload_n 3, 1) := by decide +kernel
theorem dX4_partOf_14 : decode cX4_partOf 14 = .ok (.bipush 6, 2) := by decide +kernel
theorem dX4_partOf_16 : decode cX4_partOf 16 = .ok (.if_icmp .ge 22, 3) := by decide +kernel
theorem dX4_partOf_19 : decode cX4_partOf 19 = .ok (.aload_n 0, 1) := by decide +kernel
theorem dX4_partOf_20 : decode cX4_partOf 20 = .ok (.getfield 55, 3) := by decide +kernel
theorem dX4_partOf_23 : decode cX4_partOf 23 = .ok (.iload_n 3, 1) := by decide +kernel
theorem dX4_partOf_24 : decode cX4_partOf 24 = .ok (.iaload, 1) := by decide +kernel
theorem dX4_partOf_25 : decode cX4_partOf 25 = .ok (.iload_n 1, 1) := by decide +kernel
theorem dX4_partOf_26 : decode cX4_partOf 26 = .ok (.if_icmp .ne 6, 3) := by decide +kernel
theorem dX4_partOf_29 : decode cX4_partOf 29 = .ok (.iinc 2 1, 3) := by decide +kernel
theorem dX4_partOf_32 : decode cX4_partOf 32 = .ok (.iinc 3 1, 3) := by decide +kernel
theorem dX4_partOf_35 : decode cX4_partOf 35 = .ok (.goto (-22), 3) := by decide +kernel
theorem dX4_partOf_38 : decode cX4_partOf 38 = .ok (.iload_n 2, 1) := by decide +kernel
theorem dX4_partOf_39 : decode cX4_partOf 39 = .ok (.ireturn, 1) := by decide +kernel
theorem dX4_drawOf_0 : decode cX4_drawOf 0 = .ok (.ldc2_w 279, 3) := by decide +kernel
theorem dX4_drawOf_3 : decode cX4_drawOf 3 = .ok (.iload_n 0, 1) := by decide +kernel
theorem dX4_drawOf_4 : decode cX4_drawOf 4 = .ok (.i2l, 1) := by decide +kernel
theorem dX4_drawOf_5 : decode cX4_drawOf 5 = .ok (.lmul, 1) := by decide +kernel
theorem dX4_drawOf_6 : decode cX4_drawOf 6 = .ok (.ldc2_w 281, 3) := by decide +kernel
theorem dX4_drawOf_9 : decode cX4_drawOf 9 = .ok (.iload_n 1, 1) := by decide +kernel
theorem dX4_drawOf_10 : decode cX4_drawOf 10 = .ok (.i2l, 1) := by decide +kernel
theorem dX4_drawOf_11 : decode cX4_drawOf 11 = .ok (.lmul, 1) := by decide +kernel
theorem dX4_drawOf_12 : decode cX4_drawOf 12 = .ok (.ladd, 1) := by decide +kernel
theorem dX4_drawOf_13 : decode cX4_drawOf 13 = .ok (.lconst 1, 1) := by decide +kernel
theorem dX4_drawOf_14 : decode cX4_drawOf 14 = .ok (.ladd, 1) := by decide +kernel
theorem dX4_drawOf_15 : decode cX4_drawOf 15 = .ok (.lstore_n 2, 1) := by decide +kernel
theorem dX4_drawOf_16 : decode cX4_drawOf 16 = .ok (.lload_n 2, 1) := by decide +kernel
theorem dX4_drawOf_17 : decode cX4_drawOf 17 = .ok (.lload_n 2, 1) := by decide +kernel
theorem dX4_drawOf_18 : decode cX4_drawOf 18 = .ok (.lmul, 1) := by decide +kernel
theorem dX4_drawOf_19 : decode cX4_drawOf 19 = .ok (.ldc2_w 283, 3) := by decide +kernel
theorem dX4_drawOf_22 : decode cX4_drawOf 22 = .ok (.lrem, 1) := by decide +kernel
theorem dX4_drawOf_23 : decode cX4_drawOf 23 = .ok (.l2i, 1) := by decide +kernel
theorem dX4_drawOf_24 : decode cX4_drawOf 24 = .ok (.ireturn, 1) := by decide +kernel
theorem dX4_isDancer_0 : decode cX4_isDancer 0 = .ok (.iload_n 0, 1) := by decide +kernel
theorem dX4_isDancer_1 : decode cX4_isDancer 1 = .ok (.ifCond .lt 12, 3) := by decide +kernel
theorem dX4_isDancer_4 : decode cX4_isDancer 4 = .ok (.iload_n 0, 1) := by decide +kernel
theorem dX4_isDancer_5 : decode cX4_isDancer 5 = .ok (.iconst 4, 1) := by decide +kernel
theorem dX4_isDancer_6 : decode cX4_isDancer 6 = .ok (.if_icmp .ge 7, 3) := by decide +kernel
theorem dX4_isDancer_9 : decode cX4_isDancer 9 = .ok (.iconst 1, 1) := by decide +kernel
theorem dX4_isDancer_10 : decode cX4_isDancer 10 = .ok (.goto 4, 3) := by decide +kernel
theorem dX4_isDancer_13 : decode cX4_isDancer 13 = .ok (.iconst 0, 1) := by decide +kernel
theorem dX4_isDancer_14 : decode cX4_isDancer 14 = .ok (.ireturn, 1) := by decide +kernel
theorem dX4_areTwo_0 : decode cX4_areTwo 0 = .ok (.iload_n 0, 1) := by decide +kernel
theorem dX4_areTwo_1 : decode cX4_areTwo 1 = .ok (.invokestatic 93, 3) := by decide +kernel
theorem dX4_areTwo_4 : decode cX4_areTwo 4 = .ok (.ifCond .eq 19, 3) := by decide +kernel
theorem dX4_areTwo_7 : decode cX4_areTwo 7 = .ok (.iload_n 1, 1) := by decide +kernel
theorem dX4_areTwo_8 : decode cX4_areTwo 8 = .ok (.invokestatic 93, 3) := by decide +kernel
theorem dX4_areTwo_11 : decode cX4_areTwo 11 = .ok (.ifCond .eq 12, 3) := by decide +kernel
theorem dX4_areTwo_14 : decode cX4_areTwo 14 = .ok (.iload_n 0, 1) := by decide +kernel
theorem dX4_areTwo_15 : decode cX4_areTwo 15 = .ok (.iload_n 1, 1) := by decide +kernel
theorem dX4_areTwo_16 : decode cX4_areTwo 16 = .ok (.if_icmp .eq 7, 3) := by decide +kernel
theorem dX4_areTwo_19 : decode cX4_areTwo 19 = .ok (.iconst 1, 1) := by decide +kernel
theorem dX4_areTwo_20 : decode cX4_areTwo 20 = .ok (.goto 4, 3) := by decide +kernel
theorem dX4_areTwo_23 : decode cX4_areTwo 23 = .ok (.iconst 0, 1) := by decide +kernel
theorem dX4_areTwo_24 : decode cX4_areTwo 24 = .ok (.ireturn, 1) := by decide +kernel
theorem dX4_isRowIndex_0 : decode cX4_isRowIndex 0 = .ok (.iload_n 0, 1) := by decide +kernel
theorem dX4_isRowIndex_1 : decode cX4_isRowIndex 1 = .ok (.iconst (-1), 1) := by decide +kernel
theorem dX4_isRowIndex_2 : decode cX4_isRowIndex 2 = .ok (.if_icmp .lt 13, 3) := by decide +kernel
theorem dX4_isRowIndex_5 : decode cX4_isRowIndex 5 = .ok (.iload_n 0, 1) := by decide +kernel
theorem dX4_isRowIndex_6 : decode cX4_isRowIndex 6 = .ok (.bipush 7, 2) := by decide +kernel
theorem dX4_isRowIndex_8 : decode cX4_isRowIndex 8 = .ok (.if_icmp .ge 7, 3) := by decide +kernel
theorem dX4_isRowIndex_11 : decode cX4_isRowIndex 11 = .ok (.iconst 1, 1) := by decide +kernel
theorem dX4_isRowIndex_12 : decode cX4_isRowIndex 12 = .ok (.goto 4, 3) := by decide +kernel
theorem dX4_isRowIndex_15 : decode cX4_isRowIndex 15 = .ok (.iconst 0, 1) := by decide +kernel
theorem dX4_isRowIndex_16 : decode cX4_isRowIndex 16 = .ok (.ireturn, 1) := by decide +kernel
theorem dX4_isRowLength_0 : decode cX4_isRowLength 0 = .ok (.iload_n 0, 1) := by decide +kernel
theorem dX4_isRowLength_1 : decode cX4_isRowLength 1 = .ok (.ifCond .lt 13, 3) := by decide +kernel
theorem dX4_isRowLength_4 : decode cX4_isRowLength 4 = .ok (.iload_n 0, 1) := by decide +kernel
theorem dX4_isRowLength_5 : decode cX4_isRowLength 5 = .ok (.bipush 12, 2) := by decide +kernel
theorem dX4_isRowLength_7 : decode cX4_isRowLength 7 = .ok (.if_icmp .gt 7, 3) := by decide +kernel
theorem dX4_isRowLength_10 : decode cX4_isRowLength 10 = .ok (.iconst 1, 1) := by decide +kernel
theorem dX4_isRowLength_11 : decode cX4_isRowLength 11 = .ok (.goto 4, 3) := by decide +kernel
theorem dX4_isRowLength_14 : decode cX4_isRowLength 14 = .ok (.iconst 0, 1) := by decide +kernel
theorem dX4_isRowLength_15 : decode cX4_isRowLength 15 = .ok (.ireturn, 1) := by decide +kernel
theorem dX4_isFraction_0 : decode cX4_isFraction 0 = .ok (.iload_n 1, 1) := by decide +kernel
theorem dX4_isFraction_1 : decode cX4_isFraction 1 = .ok (.ifCond .ne 14, 3) := by decide +kernel
theorem dX4_isFraction_4 : decode cX4_isFraction 4 = .ok (.iload_n 0, 1) := by decide +kernel
theorem dX4_isFraction_5 : decode cX4_isFraction 5 = .ok (.iconst 1, 1) := by decide +kernel
theorem dX4_isFraction_6 : decode cX4_isFraction 6 = .ok (.if_icmp .ne 7, 3) := by decide +kernel
theorem dX4_isFraction_9 : decode cX4_isFraction 9 = .ok (.iconst 1, 1) := by decide +kernel
theorem dX4_isFraction_10 : decode cX4_isFraction 10 = .ok (.goto 4, 3) := by decide +kernel
theorem dX4_isFraction_13 : decode cX4_isFraction 13 = .ok (.iconst 0, 1) := by decide +kernel
theorem dX4_isFraction_14 : decode cX4_isFraction 14 = .ok (.ireturn, 1) := by decide +kernel
theorem dX4_isFraction_15 : decode cX4_isFraction 15 = .ok (.iload_n 0, 1) := by decide +kernel
theorem dX4_isFraction_16 : decode cX4_isFraction 16 = .ok (.bipush (-99), 2) := by decide +kernel
theorem dX4_isFraction_18 : decode cX4_isFraction 18 = .ok (.if_icmp .lt 36, 3) := by decide +kernel
theorem dX4_isFraction_21 : decode cX4_isFraction 21 = .ok (.iload_n 0, 1) := by decide +kernel
theorem dX4_isFraction_22 : decode cX4_isFraction 22 = .ok (.bipush 99, 2) := by decide +kernel
theorem dX4_isFraction_24 : decode cX4_isFraction 24 = .ok (.if_icmp .gt 30, 3) := by decide +kernel
theorem dX4_isFraction_27 : decode cX4_isFraction 27 = .ok (.iload_n 1, 1) := by decide +kernel
theorem dX4_isFraction_28 : decode cX4_isFraction 28 = .ok (.iconst 1, 1) := by decide +kernel
theorem dX4_isFraction_29 : decode cX4_isFraction 29 = .ok (.if_icmp .lt 25, 3) := by decide +kernel
theorem dX4_isFraction_32 : decode cX4_isFraction 32 = .ok (.iload_n 1, 1) := by decide +kernel
theorem dX4_isFraction_33 : decode cX4_isFraction 33 = .ok (.bipush 99, 2) := by decide +kernel
theorem dX4_isFraction_35 : decode cX4_isFraction 35 = .ok (.if_icmp .gt 19, 3) := by decide +kernel
theorem dX4_isFraction_38 : decode cX4_isFraction 38 = .ok (.iload_n 0, 1) := by decide +kernel
theorem dX4_isFraction_39 : decode cX4_isFraction 39 = .ok (.invokestatic 285, 3) := by decide +kernel
theorem dX4_isFraction_42 : decode cX4_isFraction 42 = .ok (.iload_n 1, 1) := by decide +kernel
theorem dX4_isFraction_43 : decode cX4_isFraction 43 = .ok (.invokestatic 223, 3) := by decide +kernel
theorem dX4_isFraction_46 : decode cX4_isFraction 46 = .ok (.iconst 1, 1) := by decide +kernel
theorem dX4_isFraction_47 : decode cX4_isFraction 47 = .ok (.if_icmp .ne 7, 3) := by decide +kernel
theorem dX4_isFraction_50 : decode cX4_isFraction 50 = .ok (.iconst 1, 1) := by decide +kernel
theorem dX4_isFraction_51 : decode cX4_isFraction 51 = .ok (.goto 4, 3) := by decide +kernel
theorem dX4_isFraction_54 : decode cX4_isFraction 54 = .ok (.iconst 0, 1) := by decide +kernel
theorem dX4_isFraction_55 : decode cX4_isFraction 55 = .ok (.ireturn, 1) := by decide +kernel
theorem dX4_commonDivisor_0 : decode cX4_commonDivisor 0 = .ok (.iload_n 0, 1) := by decide +kernel
theorem dX4_commonDivisor_1 : decode cX4_commonDivisor 1 = .ok (.istore_n 2, 1) := by decide +kernel
theorem dX4_commonDivisor_2 : decode cX4_commonDivisor 2 = .ok (.iload_n 1, 1) := by decide +kernel
theorem dX4_commonDivisor_3 : decode cX4_commonDivisor 3 = .ok (.istore_n 3, 1) := by decide +kernel
theorem dX4_commonDivisor_4 : decode cX4_commonDivisor 4 = .ok (.iconst 0, 1) := by decide +kernel
theorem dX4_commonDivisor_5 : decode cX4_commonDivisor 5 = .ok (.istore 4, 2) := by decide +kernel
theorem dX4_commonDivisor_7 : decode cX4_commonDivisor 7 = .ok (.iload 4, 2) := by decide +kernel
theorem dX4_commonDivisor_9 : decode cX4_commonDivisor 9 = .ok (.bipush 100, 2) := by decide +kernel
theorem dX4_commonDivisor_11 : decode cX4_commonDivisor 11 = .ok (.if_icmp .ge 23, 3) := by decide +kernel
theorem dX4_commonDivisor_14 : decode cX4_commonDivisor 14 = .ok (.iload_n 3, 1) := by decide +kernel
theorem dX4_commonDivisor_15 : decode cX4_commonDivisor 15 = .ok (.ifCond .eq 19, 3) := by decide +kernel
theorem dX4_commonDivisor_18 : decode cX4_commonDivisor 18 = .ok (.iload_n 2, 1) := by decide +kernel
theorem dX4_commonDivisor_19 : decode cX4_commonDivisor 19 = .ok (.iload_n 3, 1) := by decide +kernel
theorem dX4_commonDivisor_20 : decode cX4_commonDivisor 20 = .ok (.irem, 1) := by decide +kernel
theorem dX4_commonDivisor_21 : decode cX4_commonDivisor 21 = .ok (.istore 5, 2) := by decide +kernel
theorem dX4_commonDivisor_23 : decode cX4_commonDivisor 23 = .ok (.iload_n 3, 1) := by decide +kernel
theorem dX4_commonDivisor_24 : decode cX4_commonDivisor 24 = .ok (.istore_n 2, 1) := by decide +kernel
theorem dX4_commonDivisor_25 : decode cX4_commonDivisor 25 = .ok (.iload 5, 2) := by decide +kernel
theorem dX4_commonDivisor_27 : decode cX4_commonDivisor 27 = .ok (.istore_n 3, 1) := by decide +kernel
theorem dX4_commonDivisor_28 : decode cX4_commonDivisor 28 = .ok (.iinc 4 1, 3) := by decide +kernel
theorem dX4_commonDivisor_31 : decode cX4_commonDivisor 31 = .ok (.goto (-24), 3) := by decide +kernel
theorem dX4_commonDivisor_34 : decode cX4_commonDivisor 34 = .ok (.iload_n 2, 1) := by decide +kernel
theorem dX4_commonDivisor_35 : decode cX4_commonDivisor 35 = .ok (.ireturn, 1) := by decide +kernel
theorem dX4_pairAt_0 : decode cX4_pairAt 0 = .ok (.iload_n 0, 1) := by decide +kernel
theorem dX4_pairAt_1 : decode cX4_pairAt 1 = .ok (.iconst 2, 1) := by decide +kernel
theorem dX4_pairAt_2 : decode cX4_pairAt 2 = .ok (.iload_n 1, 1) := by decide +kernel
theorem dX4_pairAt_3 : decode cX4_pairAt 3 = .ok (.imul, 1) := by decide +kernel
theorem dX4_pairAt_4 : decode cX4_pairAt 4 = .ok (.ishr, 1) := by decide +kernel
theorem dX4_pairAt_5 : decode cX4_pairAt 5 = .ok (.iconst 3, 1) := by decide +kernel
theorem dX4_pairAt_6 : decode cX4_pairAt 6 = .ok (.iand, 1) := by decide +kernel
theorem dX4_pairAt_7 : decode cX4_pairAt 7 = .ok (.ireturn, 1) := by decide +kernel
theorem dX4_kindOf_0 : decode cX4_kindOf 0 = .ok (.iload_n 0, 1) := by decide +kernel
theorem dX4_kindOf_1 : decode cX4_kindOf 1 = .ok (.iconst 3, 1) := by decide +kernel
theorem dX4_kindOf_2 : decode cX4_kindOf 2 = .ok (.iload_n 1, 1) := by decide +kernel
theorem dX4_kindOf_3 : decode cX4_kindOf 3 = .ok (.imul, 1) := by decide +kernel
theorem dX4_kindOf_4 : decode cX4_kindOf 4 = .ok (.ishr, 1) := by decide +kernel
theorem dX4_kindOf_5 : decode cX4_kindOf 5 = .ok (.bipush 7, 2) := by decide +kernel
theorem dX4_kindOf_7 : decode cX4_kindOf 7 = .ok (.iand, 1) := by decide +kernel
theorem dX4_kindOf_8 : decode cX4_kindOf 8 = .ok (.ireturn, 1) := by decide +kernel
theorem dX4_withKind_0 : decode cX4_withKind 0 = .ok (.iload_n 0, 1) := by decide +kernel
theorem dX4_withKind_1 : decode cX4_withKind 1 = .ok (.bipush 7, 2) := by decide +kernel
theorem dX4_withKind_3 : decode cX4_withKind 3 = .ok (.iconst 3, 1) := by decide +kernel
theorem dX4_withKind_4 : decode cX4_withKind 4 = .ok (.iload_n 1, 1) := by decide +kernel
theorem dX4_withKind_5 : decode cX4_withKind 5 = .ok (.imul, 1) := by decide +kernel
theorem dX4_withKind_6 : decode cX4_withKind 6 = .ok (.ishl, 1) := by decide +kernel
theorem dX4_withKind_7 : decode cX4_withKind 7 = .ok (.iconst (-1), 1) := by decide +kernel
theorem dX4_withKind_8 : decode cX4_withKind 8 = .ok (.ixor, 1) := by decide +kernel
theorem dX4_withKind_9 : decode cX4_withKind 9 = .ok (.iand, 1) := by decide +kernel
theorem dX4_withKind_10 : decode cX4_withKind 10 = .ok (.iload_n 2, 1) := by decide +kernel
theorem dX4_withKind_11 : decode cX4_withKind 11 = .ok (.iconst 3, 1) := by decide +kernel
theorem dX4_withKind_12 : decode cX4_withKind 12 = .ok (.iload_n 1, 1) := by decide +kernel
theorem dX4_withKind_13 : decode cX4_withKind 13 = .ok (.imul, 1) := by decide +kernel
theorem dX4_withKind_14 : decode cX4_withKind 14 = .ok (.ishl, 1) := by decide +kernel
theorem dX4_withKind_15 : decode cX4_withKind 15 = .ok (.ior, 1) := by decide +kernel
theorem dX4_withKind_16 : decode cX4_withKind 16 = .ok (.ireturn, 1) := by decide +kernel
end
section
theorem dX5_init_0 : decode cX5_init 0 = .ok (.aload_n 0, 1) := by decide +kernel
theorem dX5_init_1 : decode cX5_init 1 = .ok (.invokespecial 1, 3) := by decide +kernel
theorem dX5_init_4 : decode cX5_init 4 = .ok (.aload_n 0, 1) := by decide +kernel
theorem dX5_init_5 : decode cX5_init 5 = .ok (.iconst 4, 1) := by decide +kernel
theorem dX5_init_6 : decode cX5_init 6 = .ok (.newarray .int, 2) := by decide +kernel
theorem dX5_init_8 : decode cX5_init 8 = .ok (.putfield 7, 3) := by decide +kernel
theorem dX5_init_11 : decode cX5_init 11 = .ok (.aload_n 0, 1) := by decide +kernel
theorem dX5_init_12 : decode cX5_init 12 = .ok (.iconst 4, 1) := by decide +kernel
theorem dX5_init_13 : decode cX5_init 13 = .ok (.newarray .int, 2) := by decide +kernel
theorem dX5_init_15 : decode cX5_init 15 = .ok (.putfield 13, 3) := by decide +kernel
theorem dX5_init_18 : decode cX5_init 18 = .ok (.aload_n 0, 1) := by decide +kernel
theorem dX5_init_19 : decode cX5_init 19 = .ok (.bipush 12, 2) := by decide +kernel
theorem dX5_init_21 : decode cX5_init 21 = .ok (.newarray .int, 2) := by decide +kernel
theorem dX5_init_23 : decode cX5_init 23 = .ok (.putfield 16, 3) := by decide +kernel
theorem dX5_init_26 : decode cX5_init 26 = .ok (.aload_n 0, 1) := by decide +kernel
theorem dX5_init_27 : decode cX5_init 27 = .ok (.bipush 12, 2) := by decide +kernel
theorem dX5_init_29 : decode cX5_init 29 = .ok (.newarray .int, 2) := by decide +kernel
theorem dX5_init_31 : decode cX5_init 31 = .ok (.putfield 19, 3) := by decide +kernel
theorem dX5_init_34 : decode cX5_init 34 = .ok (.aload_n 0, 1) := by decide +kernel
theorem dX5_init_35 : decode cX5_init 35 = .ok (.bipush 96, 2) := by decide +kernel
theorem dX5_init_37 : decode cX5_init 37 = .ok (.newarray .int, 2) := by decide +kernel
theorem dX5_init_39 : decode cX5_init 39 = .ok (.putfield 22, 3) := by decide +kernel
theorem dX5_init_42 : decode cX5_init 42 = .ok (.aload_n 0, 1) := by decide +kernel
theorem dX5_init_43 : decode cX5_init 43 = .ok (.bipush 24, 2) := by decide +kernel
theorem dX5_init_45 : decode cX5_init 45 = .ok (.newarray .int, 2) := by decide +kernel
theorem dX5_init_47 : decode cX5_init 47 = .ok (.putfield 25, 3) := by decide +kernel
theorem dX5_init_50 : decode cX5_init 50 = .ok (.aload_n 0, 1) := by decide +kernel
theorem dX5_init_51 : decode cX5_init 51 = .ok (.bipush 18, 2) := by decide +kernel
theorem dX5_init_53 : decode cX5_init 53 = .ok (.newarray .int, 2) := by decide +kernel
theorem dX5_init_55 : decode cX5_init 55 = .ok (.putfield 28, 3) := by decide +kernel
theorem dX5_init_58 : decode cX5_init 58 = .ok (.aload_n 0, 1) := by decide +kernel
theorem dX5_init_59 : decode cX5_init 59 = .ok (.sipush 200, 3) := by decide +kernel
theorem dX5_init_62 : decode cX5_init 62 = .ok (.newarray .int, 2) := by decide +kernel
theorem dX5_init_64 : decode cX5_init 64 = .ok (.putfield 31, 3) := by decide +kernel
theorem dX5_init_67 : decode cX5_init 67 = .ok (.aload_n 0, 1) := by decide +kernel
theorem dX5_init_68 : decode cX5_init 68 = .ok (.iconst 4, 1) := by decide +kernel
theorem dX5_init_69 : decode cX5_init 69 = .ok (.newarray .int, 2) := by decide +kernel
theorem dX5_init_71 : decode cX5_init 71 = .ok (.putfield 34, 3) := by decide +kernel
theorem dX5_init_74 : decode cX5_init 74 = .ok (.aload_n 0, 1) := by decide +kernel
theorem dX5_init_75 : decode cX5_init 75 = .ok (.iconst 4, 1) := by decide +kernel
theorem dX5_init_76 : decode cX5_init 76 = .ok (.newarray .int, 2) := by decide +kernel
theorem dX5_init_78 : decode cX5_init 78 = .ok (.putfield 37, 3) := by decide +kernel
theorem dX5_init_81 : decode cX5_init 81 = .ok (.aload_n 0, 1) := by decide +kernel
theorem dX5_init_82 : decode cX5_init 82 = .ok (.bipush 12, 2) := by decide +kernel
theorem dX5_init_84 : decode cX5_init 84 = .ok (.newarray .int, 2) := by decide +kernel
theorem dX5_init_86 : decode cX5_init 86 = .ok (.putfield 40, 3) := by decide +kernel
theorem dX5_init_89 : decode cX5_init 89 = .ok (.aload_n 0, 1) := by decide +kernel
theorem dX5_init_90 : decode cX5_init 90 = .ok (.bipush 12, 2) := by decide +kernel
theorem dX5_init_92 : decode cX5_init 92 = .ok (.newarray .int, 2) := by decide +kernel
theorem dX5_init_94 : decode cX5_init 94 = .ok (.putfield 43, 3) := by decide +kernel
theorem dX5_init_97 : decode cX5_init 97 = .ok (.aload_n 0, 1) := by decide +kernel
theorem dX5_init_98 : decode cX5_init 98 = .ok (.bipush 6, 2) := by decide +kernel
theorem dX5_init_100 : decode cX5_init 100 = .ok (.newarray .int, 2) := by decide +kernel
theorem dX5_init_102 : decode cX5_init 102 = .ok (.putfield 46, 3) := by decide +kernel
theorem dX5_init_105 : decode cX5_init 105 = .ok (.aload_n 0, 1) := by decide +kernel
theorem dX5_init_106 : decode cX5_init 106 = .ok (.iconst 4, 1) := by decide +kernel
theorem dX5_init_107 : decode cX5_init 107 = .ok (.newarray .int, 2) := by decide +kernel
theorem dX5_init_109 : decode cX5_init 109 = .ok (.putfield 49, 3) := by decide +kernel
theorem dX5_init_112 : decode cX5_init 112 = .ok (.aload_n 0, 1) := by decide +kernel
theorem dX5_init_113 : decode cX5_init 113 = .ok (.sipush 243, 3) := by decide +kernel
theorem dX5_init_116 : decode cX5_init 116 = .ok (.newarray .int, 2) := by decide +kernel
theorem dX5_init_118 : decode cX5_init 118 = .ok (.putfield 52, 3) := by decide +kernel
theorem dX5_init_121 : decode cX5_init 121 = .ok (.aload_n 0, 1) := by decide +kernel
theorem dX5_init_122 : decode cX5_init 122 = .ok (.getfield 7, 3) := by decide +kernel
theorem dX5_init_125 : decode cX5_init 125 = .ok (.iconst 1, 1) := by decide +kernel
theorem dX5_init_126 : decode cX5_init 126 = .ok (.iconst 1, 1) := by decide +kernel
theorem dX5_init_127 : decode cX5_init 127 = .ok (.iastore, 1) := by decide +kernel
theorem dX5_init_128 : decode cX5_init 128 = .ok (.aload_n 0, 1) := by decide +kernel
theorem dX5_init_129 : decode cX5_init 129 = .ok (.getfield 7, 3) := by decide +kernel
theorem dX5_init_132 : decode cX5_init 132 = .ok (.iconst 2, 1) := by decide +kernel
theorem dX5_init_133 : decode cX5_init 133 = .ok (.iconst 3, 1) := by decide +kernel
theorem dX5_init_134 : decode cX5_init 134 = .ok (.iastore, 1) := by decide +kernel
theorem dX5_init_135 : decode cX5_init 135 = .ok (.aload_n 0, 1) := by decide +kernel
theorem dX5_init_136 : decode cX5_init 136 = .ok (.getfield 7, 3) := by decide +kernel
theorem dX5_init_139 : decode cX5_init 139 = .ok (.iconst 3, 1) := by decide +kernel
theorem dX5_init_140 : decode cX5_init 140 = .ok (.iconst 2, 1) := by decide +kernel
theorem dX5_init_141 : decode cX5_init 141 = .ok (.iastore, 1) := by decide +kernel
theorem dX5_init_142 : decode cX5_init 142 = .ok (.iconst 0, 1) := by decide +kernel
theorem dX5_init_143 : decode cX5_init 143 = .ok (.istore_n 1, 1) := by decide +kernel
theorem dX5_init_144 : decode cX5_init 144 = .ok (.iload_n 1, 1) := by decide +kernel
theorem dX5_init_145 : decode cX5_init 145 = .ok (.iconst 4, 1) := by decide +kernel
theorem dX5_init_146 : decode cX5_init 146 = .ok (.if_icmp .ge 16, 3) := by decide +kernel
theorem dX5_init_149 : decode cX5_init 149 = .ok (.aload_n 0, 1) := by decide +kernel
theorem dX5_init_150 : decode cX5_init 150 = .ok (.getfield 13, 3) := by decide +kernel
theorem dX5_init_153 : decode cX5_init 153 = .ok (.iload_n 1, 1) := by decide +kernel
theorem dX5_init_154 : decode cX5_init 154 = .ok (.iload_n 1, 1) := by decide +kernel
theorem dX5_init_155 : decode cX5_init 155 = .ok (.iastore, 1) := by decide +kernel
theorem dX5_init_156 : decode cX5_init 156 = .ok (.iinc 1 1, 3) := by decide +kernel
theorem dX5_init_159 : decode cX5_init 159 = .ok (.goto (-15), 3) := by decide +kernel
theorem dX5_init_162 : decode cX5_init 162 = .ok (.aload_n 0, 1) := by decide +kernel
theorem dX5_init_163 : decode cX5_init 163 = .ok (.getfield 16, 3) := by decide +kernel
theorem dX5_init_166 : decode cX5_init 166 = .ok (.iconst 2, 1) := by decide +kernel
theorem dX5_init_167 : decode cX5_init 167 = .ok (.iconst 2, 1) := by decide +kernel
theorem dX5_init_168 : decode cX5_init 168 = .ok (.iastore, 1) := by decide +kernel
theorem dX5_init_169 : decode cX5_init 169 = .ok (.aload_n 0, 1) := by decide +kernel
theorem dX5_init_170 : decode cX5_init 170 = .ok (.getfield 16, 3) := by decide +kernel
theorem dX5_init_173 : decode cX5_init 173 = .ok (.iconst 3, 1) := by decide +kernel
theorem dX5_init_174 : decode cX5_init 174 = .ok (.iconst 1, 1) := by decide +kernel
theorem dX5_init_175 : decode cX5_init 175 = .ok (.iastore, 1) := by decide +kernel
theorem dX5_init_176 : decode cX5_init 176 = .ok (.aload_n 0, 1) := by decide +kernel
theorem dX5_init_177 : decode cX5_init 177 = .ok (.getfield 16, 3) := by decide +kernel
theorem dX5_init_180 : decode cX5_init 180 = .ok (.iconst 4, 1) := by decide +kernel
theorem dX5_init_181 : decode cX5_init 181 = .ok (.iconst 2, 1) := by decide +kernel
theorem dX5_init_182 : decode cX5_init 182 = .ok (.iastore, 1) := by decide +kernel
theorem dX5_init_183 : decode cX5_init 183 = .ok (.aload_n 0, 1) := by decide +kernel
theorem dX5_init_184 : decode cX5_init 184 = .ok (.iconst 5, 1) := by decide +kernel
theorem dX5_init_185 : decode cX5_init 185 = .ok (.putfield 55, 3) := by decide +kernel
theorem dX5_init_188 : decode cX5_init 188 = .ok (.aload_n 0, 1) := by decide +kernel
theorem dX5_init_189 : decode cX5_init 189 = .ok (.invokevirtual 59, 3) := by decide +kernel
theorem dX5_init_192 : decode cX5_init 192 = .ok (.return_, 1) := by decide +kernel
theorem dX5_in_0 : decode cX5_in 0 = .ok (.lload_n 0, 1) := by decide +kernel
theorem dX5_in_1 : decode cX5_in 1 = .ok (.lload_n 2, 1) := by decide +kernel
theorem dX5_in_2 : decode cX5_in 2 = .ok (.lcmp, 1) := by decide +kernel
theorem dX5_in_3 : decode cX5_in 3 = .ok (.ifCond .lt 14, 3) := by decide +kernel
theorem dX5_in_6 : decode cX5_in 6 = .ok (.lload_n 0, 1) := by decide +kernel
theorem dX5_in_7 : decode cX5_in 7 = .ok (.lload 4, 2) := by decide +kernel
theorem dX5_in_9 : decode cX5_in 9 = .ok (.lcmp, 1) := by decide +kernel
theorem dX5_in_10 : decode cX5_in 10 = .ok (.ifCond .gt 7, 3) := by decide +kernel
theorem dX5_in_13 : decode cX5_in 13 = .ok (.iconst 1, 1) := by decide +kernel
theorem dX5_in_14 : decode cX5_in 14 = .ok (.goto 4, 3) := by decide +kernel
theorem dX5_in_17 : decode cX5_in 17 = .ok (.iconst 0, 1) := by decide +kernel
theorem dX5_in_18 : decode cX5_in 18 = .ok (.ireturn, 1) := by decide +kernel
theorem dX5_isPart_0 : decode cX5_isPart 0 = .ok (.iload_n 0, 1) := by decide +kernel
theorem dX5_isPart_1 : decode cX5_isPart 1 = .ok (.i2l, 1) := by decide +kernel
theorem dX5_isPart_2 : decode cX5_isPart 2 = .ok (.lconst 0, 1) := by decide +kernel
theorem dX5_isPart_3 : decode cX5_isPart 3 = .ok (.lconst 1, 1) := by decide +kernel
theorem dX5_isPart_4 : decode cX5_isPart 4 = .ok (.invokestatic 62, 3) := by decide +kernel
theorem dX5_isPart_7 : decode cX5_isPart 7 = .ok (.ireturn, 1) := by decide +kernel
theorem dX5_isOne_0 : decode cX5_isOne 0 = .ok (.iload_n 0, 1) := by decide +kernel
theorem dX5_isOne_1 : decode cX5_isOne 1 = .ok (.i2l, 1) := by decide +kernel
theorem dX5_isOne_2 : decode cX5_isOne 2 = .ok (.lconst 0, 1) := by decide +kernel
theorem dX5_isOne_3 : decode cX5_isOne 3 = .ok (.ldc2_w 66, 3) := by decide +kernel
theorem dX5_isOne_6 : decode cX5_isOne 6 = .ok (.invokestatic 62, 3) := by decide +kernel
theorem dX5_isOne_9 : decode cX5_isOne 9 = .ok (.ireturn, 1) := by decide +kernel
theorem dX5_begin_0 : decode cX5_begin 0 = .ok (.iconst 0, 1) := by decide +kernel
theorem dX5_begin_1 : decode cX5_begin 1 = .ok (.istore_n 1, 1) := by decide +kernel
theorem dX5_begin_2 : decode cX5_begin 2 = .ok (.iload_n 1, 1) := by decide +kernel
theorem dX5_begin_3 : decode cX5_begin 3 = .ok (.iconst 4, 1) := by decide +kernel
theorem dX5_begin_4 : decode cX5_begin 4 = .ok (.if_icmp .ge 39, 3) := by decide +kernel
theorem dX5_begin_7 : decode cX5_begin 7 = .ok (.aload_n 0, 1) := by decide +kernel
theorem dX5_begin_8 : decode cX5_begin 8 = .ok (.getfield 19, 3) := by decide +kernel
theorem dX5_begin_11 : decode cX5_begin 11 = .ok (.iconst 0, 1) := by decide +kernel
theorem dX5_begin_12 : decode cX5_begin 12 = .ok (.aload_n 0, 1) := by decide +kernel
theorem dX5_begin_13 : decode cX5_begin 13 = .ok (.getfield 13, 3) := by decide +kernel
theorem dX5_begin_16 : decode cX5_begin 16 = .ok (.iload_n 1, 1) := by decide +kernel
theorem dX5_begin_17 : decode cX5_begin 17 = .ok (.iaload, 1) := by decide +kernel
theorem dX5_begin_18 : decode cX5_begin 18 = .ok (.iadd, 1) := by decide +kernel
theorem dX5_begin_19 : decode cX5_begin 19 = .ok (.iload_n 1, 1) := by decide +kernel
theorem dX5_begin_20 : decode cX5_begin 20 = .ok (.iastore, 1) := by decide +kernel
theorem dX5_begin_21 : decode cX5_begin 21 = .ok (.aload_n 0, 1) := by decide +kernel
theorem dX5_begin_22 : decode cX5_begin 22 = .ok (.getfield 19, 3) := by decide +kernel
theorem dX5_begin_25 : decode cX5_begin 25 = .ok (.iconst 4, 1) := by decide +kernel
theorem dX5_begin_26 : decode cX5_begin 26 = .ok (.iload_n 1, 1) := by decide +kernel
theorem dX5_begin_27 : decode cX5_begin 27 = .ok (.iadd, 1) := by decide +kernel
theorem dX5_begin_28 : decode cX5_begin 28 = .ok (.aload_n 0, 1) := by decide +kernel
theorem dX5_begin_29 : decode cX5_begin 29 = .ok (.getfield 13, 3) := by decide +kernel
theorem dX5_begin_32 : decode cX5_begin 32 = .ok (.iload_n 1, 1) := by decide +kernel
theorem dX5_begin_33 : decode cX5_begin 33 = .ok (.iaload, 1) := by decide +kernel
theorem dX5_begin_34 : decode cX5_begin 34 = .ok (.iconst 2, 1) := by decide +kernel
theorem dX5_begin_35 : decode cX5_begin 35 = .ok (.idiv, 1) := by decide +kernel
theorem dX5_begin_36 : decode cX5_begin 36 = .ok (.iastore, 1) := by decide +kernel
theorem dX5_begin_37 : decode cX5_begin 37 = .ok (.iinc 1 1, 3) := by decide +kernel
theorem dX5_begin_40 : decode cX5_begin 40 = .ok (.goto (-38), 3) := by decide +kernel
theorem dX5_begin_43 : decode cX5_begin 43 = .ok (.aload_n 0, 1) := by decide +kernel
theorem dX5_begin_44 : decode cX5_begin 44 = .ok (.getfield 19, 3) := by decide +kernel
theorem dX5_begin_47 : decode cX5_begin 47 = .ok (.bipush 8, 2) := by decide +kernel
theorem dX5_begin_49 : decode cX5_begin 49 = .ok (.iconst 0, 1) := by decide +kernel
theorem dX5_begin_50 : decode cX5_begin 50 = .ok (.iastore, 1) := by decide +kernel
theorem dX5_begin_51 : decode cX5_begin 51 = .ok (.aload_n 0, 1) := by decide +kernel
theorem dX5_begin_52 : decode cX5_begin 52 = .ok (.getfield 19, 3) := by decide +kernel
theorem dX5_begin_55 : decode cX5_begin 55 = .ok (.bipush 9, 2) := by decide +kernel
theorem dX5_begin_57 : decode cX5_begin 57 = .ok (.iconst 1, 1) := by decide +kernel
theorem dX5_begin_58 : decode cX5_begin 58 = .ok (.iastore, 1) := by decide +kernel
theorem dX5_begin_59 : decode cX5_begin 59 = .ok (.aload_n 0, 1) := by decide +kernel
theorem dX5_begin_60 : decode cX5_begin 60 = .ok (.getfield 19, 3) := by decide +kernel
theorem dX5_begin_63 : decode cX5_begin 63 = .ok (.bipush 10, 2) := by decide +kernel
theorem dX5_begin_65 : decode cX5_begin 65 = .ok (.iconst 0, 1) := by decide +kernel
theorem dX5_begin_66 : decode cX5_begin 66 = .ok (.iastore, 1) := by decide +kernel
theorem dX5_begin_67 : decode cX5_begin 67 = .ok (.aload_n 0, 1) := by decide +kernel
theorem dX5_begin_68 : decode cX5_begin 68 = .ok (.getfield 19, 3) := by decide +kernel
theorem dX5_begin_71 : decode cX5_begin 71 = .ok (.bipush 11, 2) := by decide +kernel
theorem dX5_begin_73 : decode cX5_begin 73 = .ok (.iconst 0, 1) := by decide +kernel
theorem dX5_begin_74 : decode cX5_begin 74 = .ok (.iastore, 1) := by decide +kernel
theorem dX5_begin_75 : decode cX5_begin 75 = .ok (.aload_n 0, 1) := by decide +kernel
theorem dX5_begin_76 : decode cX5_begin 76 = .ok (.iconst 0, 1) := by decide +kernel
theorem dX5_begin_77 : decode cX5_begin 77 = .ok (.putfield 68, 3) := by decide +kernel
theorem dX5_begin_80 : decode cX5_begin 80 = .ok (.aload_n 0, 1) := by decide +kernel
theorem dX5_begin_81 : decode cX5_begin 81 = .ok (.iconst 0, 1) := by decide +kernel
theorem dX5_begin_82 : decode cX5_begin 82 = .ok (.putfield 71, 3) := by decide +kernel
theorem dX5_begin_85 : decode cX5_begin 85 = .ok (.aload_n 0, 1) := by decide +kernel
theorem dX5_begin_86 : decode cX5_begin 86 = .ok (.iconst 0, 1) := by decide +kernel
theorem dX5_begin_87 : decode cX5_begin 87 = .ok (.putfield 74, 3) := by decide +kernel
theorem dX5_begin_90 : decode cX5_begin 90 = .ok (.return_, 1) := by decide +kernel
theorem dX5_write_0 : decode cX5_write 0 = .ok (.iload_n 1, 1) := by decide +kernel
theorem dX5_write_1 : decode cX5_write 1 = .ok (.i2l, 1) := by decide +kernel
theorem dX5_write_2 : decode cX5_write 2 = .ok (.ldc2_w 77, 3) := by decide +kernel
theorem dX5_write_5 : decode cX5_write 5 = .ok (.ldc2_w 79, 3) := by decide +kernel
theorem dX5_write_8 : decode cX5_write 8 = .ok (.invokestatic 62, 3) := by decide +kernel
theorem dX5_write_11 : decode cX5_write 11 = .ok (.ifCond .ne 5, 3) := by decide +kernel
theorem dX5_write_14 : decode cX5_write 14 = .ok (.iconst (-1), 1) := by decide +kernel
theorem dX5_write_15 : decode cX5_write 15 = .ok (.ireturn, 1) := by decide +kernel
theorem dX5_write_16 : decode cX5_write 16 = .ok (.aload_n 0, 1) := by decide +kernel
theorem dX5_write_17 : decode cX5_write 17 = .ok (.getfield 81, 3) := by decide +kernel
theorem dX5_write_20 : decode cX5_write 20 = .ok (.sipush 200, 3) := by decide +kernel
theorem dX5_write_23 : decode cX5_write 23 = .ok (.if_icmp .ne 6, 3) := by decide +kernel
theorem dX5_write_26 : decode cX5_write 26 = .ok (.bipush (-3), 2) := by decide +kernel
theorem dX5_write_28 : decode cX5_write 28 = .ok (.ireturn, 1) := by decide +kernel
theorem dX5_write_29 : decode cX5_write 29 = .ok (.aload_n 0, 1) := by decide +kernel
theorem dX5_write_30 : decode cX5_write 30 = .ok (.getfield 31, 3) := by decide +kernel
theorem dX5_write_33 : decode cX5_write 33 = .ok (.aload_n 0, 1) := by decide +kernel
theorem dX5_write_34 : decode cX5_write 34 = .ok (.getfield 81, 3) := by decide +kernel
theorem dX5_write_37 : decode cX5_write 37 = .ok (.iload_n 1, 1) := by decide +kernel
theorem dX5_write_38 : decode cX5_write 38 = .ok (.iastore, 1) := by decide +kernel
theorem dX5_write_39 : decode cX5_write 39 = .ok (.aload_n 0, 1) := by decide +kernel
theorem dX5_write_40 : decode cX5_write 40 = .ok (.dup, 1) := by decide +kernel
theorem dX5_write_41 : decode cX5_write 41 = .ok (.getfield 81, 3) := by decide +kernel
theorem dX5_write_44 : decode cX5_write 44 = .ok (.iconst 1, 1) := by decide +kernel
theorem dX5_write_45 : decode cX5_write 45 = .ok (.iadd, 1) := by decide +kernel
theorem dX5_write_46 : decode cX5_write 46 = .ok (.putfield 81, 3) := by decide +kernel
theorem dX5_write_49 : decode cX5_write 49 = .ok (.aload_n 0, 1) := by decide +kernel
theorem dX5_write_50 : decode cX5_write 50 = .ok (.getfield 81, 3) := by decide +kernel
theorem dX5_write_53 : decode cX5_write 53 = .ok (.ireturn, 1) := by decide +kernel
theorem dX5_wipe_0 : decode cX5_wipe 0 = .ok (.aload_n 0, 1) := by decide +kernel
theorem dX5_wipe_1 : decode cX5_wipe 1 = .ok (.getfield 81, 3) := by decide +kernel
theorem dX5_wipe_4 : decode cX5_wipe 4 = .ok (.istore_n 1, 1) := by decide +kernel
theorem dX5_wipe_5 : decode cX5_wipe 5 = .ok (.aload_n 0, 1) := by decide +kernel
theorem dX5_wipe_6 : decode cX5_wipe 6 = .ok (.iconst 0, 1) := by decide +kernel
theorem dX5_wipe_7 : decode cX5_wipe 7 = .ok (.putfield 81, 3) := by decide +kernel
theorem dX5_wipe_10 : decode cX5_wipe 10 = .ok (.iload_n 1, 1) := by decide +kernel
theorem dX5_wipe_11 : decode cX5_wipe 11 = .ok (.ireturn, 1) := by decide +kernel
theorem dX5_letter_0 : decode cX5_letter 0 = .ok (.iload_n 1, 1) := by decide +kernel
theorem dX5_letter_1 : decode cX5_letter 1 = .ok (.aload_n 0, 1) := by decide +kernel
theorem dX5_letter_2 : decode cX5_letter 2 = .ok (.getfield 81, 3) := by decide +kernel
theorem dX5_letter_5 : decode cX5_letter 5 = .ok (.if_icmp .ge 12, 3) := by decide +kernel
theorem dX5_letter_8 : decode cX5_letter 8 = .ok (.aload_n 0, 1) := by decide +kernel
theorem dX5_letter_9 : decode cX5_letter 9 = .ok (.getfield 31, 3) := by decide +kernel
theorem dX5_letter_12 : decode cX5_letter 12 = .ok (.iload_n 1, 1) := by decide +kernel
theorem dX5_letter_13 : decode cX5_letter 13 = .ok (.iaload, 1) := by decide +kernel
theorem dX5_letter_14 : decode cX5_letter 14 = .ok (.goto 4, 3) := by decide +kernel
theorem dX5_letter_17 : decode cX5_letter 17 = .ok (.iconst (-1), 1) := by decide +kernel
theorem dX5_letter_18 : decode cX5_letter 18 = .ok (.ireturn, 1) := by decide +kernel
theorem dX5_figureAt_0 : decode cX5_figureAt 0 = .ok (.aload_n 0, 1) := by decide +kernel
theorem dX5_figureAt_1 : decode cX5_figureAt 1 = .ok (.iload_n 1, 1) := by decide +kernel
theorem dX5_figureAt_2 : decode cX5_figureAt 2 = .ok (.invokevirtual 84, 3) := by decide +kernel
theorem dX5_figureAt_5 : decode cX5_figureAt 5 = .ok (.bipush 48, 2) := by decide +kernel
theorem dX5_figureAt_7 : decode cX5_figureAt 7 = .ok (.isub, 1) := by decide +kernel
theorem dX5_figureAt_8 : decode cX5_figureAt 8 = .ok (.istore_n 3, 1) := by decide +kernel
theorem dX5_figureAt_9 : decode cX5_figureAt 9 = .ok (.iload_n 3, 1) := by decide +kernel
theorem dX5_figureAt_10 : decode cX5_figureAt 10 = .ok (.i2l, 1) := by decide +kernel
theorem dX5_figureAt_11 : decode cX5_figureAt 11 = .ok (.lconst 0, 1) := by decide +kernel
theorem dX5_figureAt_12 : decode cX5_figureAt 12 = .ok (.iload_n 2, 1) := by decide +kernel
theorem dX5_figureAt_13 : decode cX5_figureAt 13 = .ok (.i2l, 1) := by decide +kernel
theorem dX5_figureAt_14 : decode cX5_figureAt 14 = .ok (.invokestatic 62, 3) := by decide +kernel
theorem dX5_figureAt_17 : decode cX5_figureAt 17 = .ok (.ifCond .eq 7, 3) := by decide +kernel
theorem dX5_figureAt_20 : decode cX5_figureAt 20 = .ok (.iload_n 3, 1) := by decide +kernel
theorem dX5_figureAt_21 : decode cX5_figureAt 21 = .ok (.goto 5, 3) := by decide +kernel
theorem dX5_figureAt_24 : decode cX5_figureAt 24 = .ok (.bipush (-4), 2) := by decide +kernel
theorem dX5_figureAt_26 : decode cX5_figureAt 26 = .ok (.ireturn, 1) := by decide +kernel
theorem dX5_readItem_0 : decode cX5_readItem 0 = .ok (.aload_n 0, 1) := by decide +kernel
theorem dX5_readItem_1 : decode cX5_readItem 1 = .ok (.iload_n 1, 1) := by decide +kernel
theorem dX5_readItem_2 : decode cX5_readItem 2 = .ok (.invokevirtual 84, 3) := by decide +kernel
theorem dX5_readItem_5 : decode cX5_readItem 5 = .ok (.istore_n 2, 1) := by decide +kernel
theorem dX5_readItem_6 : decode cX5_readItem 6 = .ok (.iload_n 2, 1) := by decide +kernel
theorem dX5_readItem_7 : decode cX5_readItem 7 = .ok (.bipush 114, 2) := by decide +kernel
theorem dX5_readItem_9 : decode cX5_readItem 9 = .ok (.if_icmp .ne 61, 3) := by decide +kernel
theorem dX5_readItem_12 : decode cX5_readItem 12 = .ok (.aload_n 0, 1) := by decide +kernel
theorem dX5_readItem_13 : decode cX5_readItem 13 = .ok (.iload_n 1, 1) := by decide +kernel
theorem dX5_readItem_14 : decode cX5_readItem 14 = .ok (.iconst 1, 1) := by decide +kernel
theorem dX5_readItem_15 : decode cX5_readItem 15 = .ok (.iadd, 1) := by decide +kernel
theorem dX5_readItem_16 : decode cX5_readItem 16 = .ok (.iconst 3, 1) := by decide +kernel
theorem dX5_readItem_17 : decode cX5_readItem 17 = .ok (.invokevirtual 88, 3) := by decide +kernel
theorem dX5_readItem_20 : decode cX5_readItem 20 = .ok (.istore_n 3, 1) := by decide +kernel
theorem dX5_readItem_21 : decode cX5_readItem 21 = .ok (.iload_n 3, 1) := by decide +kernel
theorem dX5_readItem_22 : decode cX5_readItem 22 = .ok (.ifCond .lt 24, 3) := by decide +kernel
theorem dX5_readItem_25 : decode cX5_readItem 25 = .ok (.aload_n 0, 1) := by decide +kernel
theorem dX5_readItem_26 : decode cX5_readItem 26 = .ok (.iload_n 1, 1) := by decide +kernel
theorem dX5_readItem_27 : decode cX5_readItem 27 = .ok (.iconst 2, 1) := by decide +kernel
theorem dX5_readItem_28 : decode cX5_readItem 28 = .ok (.iadd, 1) := by decide +kernel
theorem dX5_readItem_29 : decode cX5_readItem 29 = .ok (.invokevirtual 84, 3) := by decide +kernel
theorem dX5_readItem_32 : decode cX5_readItem 32 = .ok (.bipush 59, 2) := by decide +kernel
theorem dX5_readItem_34 : decode cX5_readItem 34 = .ok (.if_icmp .ne 12, 3) := by decide +kernel
theorem dX5_readItem_37 : decode cX5_readItem 37 = .ok (.aload_n 0, 1) := by decide +kernel
theorem dX5_readItem_38 : decode cX5_readItem 38 = .ok (.getfield 92, 3) := by decide +kernel
theorem dX5_readItem_41 : decode cX5_readItem 41 = .ok (.bipush 12, 2) := by decide +kernel
theorem dX5_readItem_43 : decode cX5_readItem 43 = .ok (.if_icmp .ne 5, 3) := by decide +kernel
theorem dX5_readItem_46 : decode cX5_readItem 46 = .ok (.iconst 0, 1) := by decide +kernel
theorem dX5_readItem_47 : decode cX5_readItem 47 = .ok (.ireturn, 1) := by decide +kernel
theorem dX5_readItem_48 : decode cX5_readItem 48 = .ok (.aload_n 0, 1) := by decide +kernel
theorem dX5_readItem_49 : decode cX5_readItem 49 = .ok (.getfield 40, 3) := by decide +kernel
theorem dX5_readItem_52 : decode cX5_readItem 52 = .ok (.aload_n 0, 1) := by decide +kernel
theorem dX5_readItem_53 : decode cX5_readItem 53 = .ok (.getfield 92, 3) := by decide +kernel
theorem dX5_readItem_56 : decode cX5_readItem 56 = .ok (.iload_n 3, 1) := by decide +kernel
theorem dX5_readItem_57 : decode cX5_readItem 57 = .ok (.iastore, 1) := by decide +kernel
theorem dX5_readItem_58 : decode cX5_readItem 58 = .ok (.aload_n 0, 1) := by decide +kernel
theorem dX5_readItem_59 : decode cX5_readItem 59 = .ok (.dup, 1) := by decide +kernel
theorem dX5_readItem_60 : decode cX5_readItem 60 = .ok (.getfield 92, 3) := by decide +kernel
theorem dX5_readItem_63 : decode cX5_readItem 63 = .ok (.iconst 1, 1) := by decide +kernel
theorem dX5_readItem_64 : decode cX5_readItem 64 = .ok (.iadd, 1) := by decide +kernel
theorem dX5_readItem_65 : decode cX5_readItem 65 = .ok (.putfield 92, 3) := by decide +kernel
theorem dX5_readItem_68 : decode cX5_readItem 68 = .ok (.iconst 3, 1) := by decide +kernel
theorem dX5_readItem_69 : decode cX5_readItem 69 = .ok (.ireturn, 1) := by decide +kernel
theorem dX5_readItem_70 : decode cX5_readItem 70 = .ok (.aload_n 0, 1) := by decide +kernel
theorem dX5_readItem_71 : decode cX5_readItem 71 = .ok (.iload_n 1, 1) := by decide +kernel
theorem dX5_readItem_72 : decode cX5_readItem 72 = .ok (.iconst 1, 1) := by decide +kernel
theorem dX5_readItem_73 : decode cX5_readItem 73 = .ok (.iadd, 1) := by decide +kernel
theorem dX5_readItem_74 : decode cX5_readItem 74 = .ok (.iconst 3, 1) := by decide +kernel
theorem dX5_readItem_75 : decode cX5_readItem 75 = .ok (.invokevirtual 88, 3) := by decide +kernel
theorem dX5_readItem_78 : decode cX5_readItem 78 = .ok (.istore_n 3, 1) := by decide +kernel
theorem dX5_readItem_79 : decode cX5_readItem 79 = .ok (.aload_n 0, 1) := by decide +kernel
theorem dX5_readItem_80 : decode cX5_readItem 80 = .ok (.iload_n 1, 1) := by decide +kernel
theorem dX5_readItem_81 : decode cX5_readItem 81 = .ok (.iconst 3, 1) := by decide +kernel
theorem dX5_readItem_82 : decode cX5_readItem 82 = .ok (.iadd, 1) := by decide +kernel
theorem dX5_readItem_83 : decode cX5_readItem 83 = .ok (.iload_n 2, 1) := by decide +kernel
theorem dX5_readItem_84 : decode cX5_readItem 84 = .ok (.bipush 100, 2) := by decide +kernel
theorem dX5_readItem_86 : decode cX5_readItem 86 = .ok (.if_icmp .ne 7, 3) := by decide +kernel
theorem dX5_readItem_89 : decode cX5_readItem 89 = .ok (.iconst 5, 1) := by decide +kernel
theorem dX5_readItem_90 : decode cX5_readItem 90 = .ok (.goto 4, 3) := by decide +kernel
theorem dX5_readItem_93 : decode cX5_readItem 93 = .ok (.iconst 3, 1) := by decide +kernel
theorem dX5_readItem_94 : decode cX5_readItem 94 = .ok (.invokevirtual 88, 3) := by decide +kernel
theorem dX5_readItem_97 : decode cX5_readItem 97 = .ok (.istore 4, 2) := by decide +kernel
theorem dX5_readItem_99 : decode cX5_readItem 99 = .ok (.iload_n 2, 1) := by decide +kernel
theorem dX5_readItem_100 : decode cX5_readItem 100 = .ok (.bipush 100, 2) := by decide +kernel
theorem dX5_readItem_102 : decode cX5_readItem 102 = .ok (.if_icmp .eq 9, 3) := by decide +kernel
theorem dX5_readItem_105 : decode cX5_readItem 105 = .ok (.iload_n 2, 1) := by decide +kernel
theorem dX5_readItem_106 : decode cX5_readItem 106 = .ok (.bipush 112, 2) := by decide +kernel
theorem dX5_readItem_108 : decode cX5_readItem 108 = .ok (.if_icmp .ne 36, 3) := by decide +kernel
theorem dX5_readItem_111 : decode cX5_readItem 111 = .ok (.iload_n 3, 1) := by decide +kernel
theorem dX5_readItem_112 : decode cX5_readItem 112 = .ok (.ifCond .lt 32, 3) := by decide +kernel
theorem dX5_readItem_115 : decode cX5_readItem 115 = .ok (.aload_n 0, 1) := by decide +kernel
theorem dX5_readItem_116 : decode cX5_readItem 116 = .ok (.iload_n 1, 1) := by decide +kernel
theorem dX5_readItem_117 : decode cX5_readItem 117 = .ok (.iconst 2, 1) := by decide +kernel
theorem dX5_readItem_118 : decode cX5_readItem 118 = .ok (.iadd, 1) := by decide +kernel
theorem dX5_readItem_119 : decode cX5_readItem 119 = .ok (.invokevirtual 84, 3) := by decide +kernel
theorem dX5_readItem_122 : decode cX5_readItem 122 = .ok (.bipush 44, 2) := by decide +kernel
theorem dX5_readItem_124 : decode cX5_readItem 124 = .ok (.if_icmp .ne 20, 3) := by decide +kernel
theorem dX5_readItem_127 : decode cX5_readItem 127 = .ok (.iload 4, 2) := by decide +kernel
theorem dX5_readItem_129 : decode cX5_readItem 129 = .ok (.ifCond .lt 15, 3) := by decide +kernel
theorem dX5_readItem_132 : decode cX5_readItem 132 = .ok (.aload_n 0, 1) := by decide +kernel
theorem dX5_readItem_133 : decode cX5_readItem 133 = .ok (.iload_n 1, 1) := by decide +kernel
theorem dX5_readItem_134 : decode cX5_readItem 134 = .ok (.iconst 4, 1) := by decide +kernel
theorem dX5_readItem_135 : decode cX5_readItem 135 = .ok (.iadd, 1) := by decide +kernel
theorem dX5_readItem_136 : decode cX5_readItem 136 = .ok (.invokevirtual 84, 3) := by decide +kernel
theorem dX5_readItem_139 : decode cX5_readItem 139 = .ok (.bipush 59, 2) := by decide +kernel
theorem dX5_readItem_141 : decode cX5_readItem 141 = .ok (.if_icmp .eq 5, 3) := by decide +kernel
theorem dX5_readItem_144 : decode cX5_readItem 144 = .ok (.iconst 0, 1) := by decide +kernel
theorem dX5_readItem_145 : decode cX5_readItem 145 = .ok (.ireturn, 1) := by decide +kernel
theorem dX5_readItem_146 : decode cX5_readItem 146 = .ok (.iload_n 2, 1) := by decide +kernel
theorem dX5_readItem_147 : decode cX5_readItem 147 = .ok (.bipush 100, 2) := by decide +kernel
theorem dX5_readItem_149 : decode cX5_readItem 149 = .ok (.if_icmp .ne 14, 3) := by decide +kernel
theorem dX5_readItem_152 : decode cX5_readItem 152 = .ok (.aload_n 0, 1) := by decide +kernel
theorem dX5_readItem_153 : decode cX5_readItem 153 = .ok (.getfield 34, 3) := by decide +kernel
theorem dX5_readItem_156 : decode cX5_readItem 156 = .ok (.iload_n 3, 1) := by decide +kernel
theorem dX5_readItem_157 : decode cX5_readItem 157 = .ok (.iload 4, 2) := by decide +kernel
theorem dX5_readItem_159 : decode cX5_readItem 159 = .ok (.iastore, 1) := by decide +kernel
theorem dX5_readItem_160 : decode cX5_readItem 160 = .ok (.goto 11, 3) := by decide +kernel
theorem dX5_readItem_163 : decode cX5_readItem 163 = .ok (.aload_n 0, 1) := by decide +kernel
theorem dX5_readItem_164 : decode cX5_readItem 164 = .ok (.getfield 37, 3) := by decide +kernel
theorem dX5_readItem_167 : decode cX5_readItem 167 = .ok (.iload_n 3, 1) := by decide +kernel
theorem dX5_readItem_168 : decode cX5_readItem 168 = .ok (.iload 4, 2) := by decide +kernel
theorem dX5_readItem_170 : decode cX5_readItem 170 = .ok (.iastore, 1) := by decide +kernel
theorem dX5_readItem_171 : decode cX5_readItem 171 = .ok (.iconst 5, 1) := by decide +kernel
theorem dX5_readItem_172 : decode cX5_readItem 172 = .ok (.ireturn, 1) := by decide +kernel
theorem dX5_fault_0 : decode cX5_fault 0 = .ok (.aload_n 0, 1) := by decide +kernel
theorem dX5_fault_1 : decode cX5_fault 1 = .ok (.iconst 0, 1) := by decide +kernel
theorem dX5_fault_2 : decode cX5_fault 2 = .ok (.putfield 92, 3) := by decide +kernel
theorem dX5_fault_5 : decode cX5_fault 5 = .ok (.iconst 0, 1) := by decide +kernel
theorem dX5_fault_6 : decode cX5_fault 6 = .ok (.istore_n 1, 1) := by decide +kernel
theorem dX5_fault_7 : decode cX5_fault 7 = .ok (.iload_n 1, 1) := by decide +kernel
theorem dX5_fault_8 : decode cX5_fault 8 = .ok (.iconst 4, 1) := by decide +kernel
theorem dX5_fault_9 : decode cX5_fault 9 = .ok (.if_icmp .ge 23, 3) := by decide +kernel
theorem dX5_fault_12 : decode cX5_fault 12 = .ok (.aload_n 0, 1) := by decide +kernel
theorem dX5_fault_13 : decode cX5_fault 13 = .ok (.getfield 34, 3) := by decide +kernel
theorem dX5_fault_16 : decode cX5_fault 16 = .ok (.iload_n 1, 1) := by decide +kernel
theorem dX5_fault_17 : decode cX5_fault 17 = .ok (.iconst 0, 1) := by decide +kernel
theorem dX5_fault_18 : decode cX5_fault 18 = .ok (.iastore, 1) := by decide +kernel
theorem dX5_fault_19 : decode cX5_fault 19 = .ok (.aload_n 0, 1) := by decide +kernel
theorem dX5_fault_20 : decode cX5_fault 20 = .ok (.getfield 37, 3) := by decide +kernel
theorem dX5_fault_23 : decode cX5_fault 23 = .ok (.iload_n 1, 1) := by decide +kernel
theorem dX5_fault_24 : decode cX5_fault 24 = .ok (.iload_n 1, 1) := by decide +kernel
theorem dX5_fault_25 : decode cX5_fault 25 = .ok (.iastore, 1) := by decide +kernel
theorem dX5_fault_26 : decode cX5_fault 26 = .ok (.iinc 1 1, 3) := by decide +kernel
theorem dX5_fault_29 : decode cX5_fault 29 = .ok (.goto (-22), 3) := by decide +kernel
theorem dX5_fault_32 : decode cX5_fault 32 = .ok (.aload_n 0, 1) := by decide +kernel
theorem dX5_fault_33 : decode cX5_fault 33 = .ok (.iconst 0, 1) := by decide +kernel
theorem dX5_fault_34 : decode cX5_fault 34 = .ok (.putfield 95, 3) := by decide +kernel
theorem dX5_fault_37 : decode cX5_fault 37 = .ok (.aload_n 0, 1) := by decide +kernel
theorem dX5_fault_38 : decode cX5_fault 38 = .ok (.getfield 95, 3) := by decide +kernel
theorem dX5_fault_41 : decode cX5_fault 41 = .ok (.aload_n 0, 1) := by decide +kernel
theorem dX5_fault_42 : decode cX5_fault 42 = .ok (.getfield 81, 3) := by decide +kernel
theorem dX5_fault_45 : decode cX5_fault 45 = .ok (.if_icmp .ge 34, 3) := by decide +kernel
theorem dX5_fault_48 : decode cX5_fault 48 = .ok (.aload_n 0, 1) := by decide +kernel
theorem dX5_fault_49 : decode cX5_fault 49 = .ok (.aload_n 0, 1) := by decide +kernel
theorem dX5_fault_50 : decode cX5_fault 50 = .ok (.getfield 95, 3) := by decide +kernel
theorem dX5_fault_53 : decode cX5_fault 53 = .ok (.invokevirtual 98, 3) := by decide +kernel
theorem dX5_fault_56 : decode cX5_fault 56 = .ok (.istore_n 1, 1) := by decide +kernel
theorem dX5_fault_57 : decode cX5_fault 57 = .ok (.iload_n 1, 1) := by decide +kernel
theorem dX5_fault_58 : decode cX5_fault 58 = .ok (.ifCond .ne 8, 3) := by decide +kernel
theorem dX5_fault_61 : decode cX5_fault 61 = .ok (.aload_n 0, 1) := by decide +kernel
theorem dX5_fault_62 : decode cX5_fault 62 = .ok (.getfield 95, 3) := by decide +kernel
theorem dX5_fault_65 : decode cX5_fault 65 = .ok (.ireturn, 1) := by decide +kernel
theorem dX5_fault_66 : decode cX5_fault 66 = .ok (.aload_n 0, 1) := by decide +kernel
theorem dX5_fault_67 : decode cX5_fault 67 = .ok (.dup, 1) := by decide +kernel
theorem dX5_fault_68 : decode cX5_fault 68 = .ok (.getfield 95, 3) := by decide +kernel
theorem dX5_fault_71 : decode cX5_fault 71 = .ok (.iload_n 1, 1) := by decide +kernel
theorem dX5_fault_72 : decode cX5_fault 72 = .ok (.iadd, 1) := by decide +kernel
theorem dX5_fault_73 : decode cX5_fault 73 = .ok (.putfield 95, 3) := by decide +kernel
theorem dX5_fault_76 : decode cX5_fault 76 = .ok (.goto (-39), 3) := by decide +kernel
theorem dX5_fault_79 : decode cX5_fault 79 = .ok (.bipush (-4), 2) := by decide +kernel
theorem dX5_fault_81 : decode cX5_fault 81 = .ok (.ireturn, 1) := by decide +kernel
theorem dX5_lay_0 : decode cX5_lay 0 = .ok (.aload_n 0, 1) := by decide +kernel
theorem dX5_lay_1 : decode cX5_lay 1 = .ok (.getfield 81, 3) := by decide +kernel
theorem dX5_lay_4 : decode cX5_lay 4 = .ok (.ifCond .eq 10, 3) := by decide +kernel
theorem dX5_lay_7 : decode cX5_lay 7 = .ok (.aload_n 0, 1) := by decide +kernel
theorem dX5_lay_8 : decode cX5_lay 8 = .ok (.invokevirtual 101, 3) := by decide +kernel
theorem dX5_lay_11 : decode cX5_lay 11 = .ok (.ifCond .lt 6, 3) := by decide +kernel
theorem dX5_lay_14 : decode cX5_lay 14 = .ok (.bipush (-2), 2) := by decide +kernel
theorem dX5_lay_16 : decode cX5_lay 16 = .ok (.ireturn, 1) := by decide +kernel
theorem dX5_lay_17 : decode cX5_lay 17 = .ok (.iconst 0, 1) := by decide +kernel
theorem dX5_lay_18 : decode cX5_lay 18 = .ok (.istore_n 1, 1) := by decide +kernel
theorem dX5_lay_19 : decode cX5_lay 19 = .ok (.iconst 0, 1) := by decide +kernel
theorem dX5_lay_20 : decode cX5_lay 20 = .ok (.istore_n 2, 1) := by decide +kernel
theorem dX5_lay_21 : decode cX5_lay 21 = .ok (.iload_n 2, 1) := by decide +kernel
theorem dX5_lay_22 : decode cX5_lay 22 = .ok (.iconst 4, 1) := by decide +kernel
theorem dX5_lay_23 : decode cX5_lay 23 = .ok (.if_icmp .ge 20, 3) := by decide +kernel
theorem dX5_lay_26 : decode cX5_lay 26 = .ok (.iload_n 1, 1) := by decide +kernel
theorem dX5_lay_27 : decode cX5_lay 27 = .ok (.iconst 1, 1) := by decide +kernel
theorem dX5_lay_28 : decode cX5_lay 28 = .ok (.aload_n 0, 1) := by decide +kernel
theorem dX5_lay_29 : decode cX5_lay 29 = .ok (.getfield 37, 3) := by decide +kernel
theorem dX5_lay_32 : decode cX5_lay 32 = .ok (.iload_n 2, 1) := by decide +kernel
theorem dX5_lay_33 : decode cX5_lay 33 = .ok (.iaload, 1) := by decide +kernel
theorem dX5_lay_34 : decode cX5_lay 34 = .ok (.ishl, 1) := by decide +kernel
theorem dX5_lay_35 : decode cX5_lay 35 = .ok (.ior, 1) := by decide +kernel
theorem dX5_lay_36 : decode cX5_lay 36 = .ok (.istore_n 1, 1) := by decide +kernel
theorem dX5_lay_37 : decode cX5_lay 37 = .ok (.iinc 2 1, 3) := by decide +kernel
theorem dX5_lay_40 : decode cX5_lay 40 = .ok (.goto (-19), 3) := by decide +kernel
theorem dX5_lay_43 : decode cX5_lay 43 = .ok (.iload_n 1, 1) := by decide +kernel
theorem dX5_lay_44 : decode cX5_lay 44 = .ok (.bipush 15, 2) := by decide +kernel
theorem dX5_lay_46 : decode cX5_lay 46 = .ok (.if_icmp .eq 6, 3) := by decide +kernel
theorem dX5_lay_49 : decode cX5_lay 49 = .ok (.bipush (-2), 2) := by decide +kernel
theorem dX5_lay_51 : decode cX5_lay 51 = .ok (.ireturn, 1) := by decide +kernel
theorem dX5_lay_52 : decode cX5_lay 52 = .ok (.iconst 0, 1) := by decide +kernel
theorem dX5_lay_53 : decode cX5_lay 53 = .ok (.istore_n 2, 1) := by decide +kernel
theorem dX5_lay_54 : decode cX5_lay 54 = .ok (.iload_n 2, 1) := by decide +kernel
theorem dX5_lay_55 : decode cX5_lay 55 = .ok (.iconst 4, 1) := by decide +kernel
theorem dX5_lay_56 : decode cX5_lay 56 = .ok (.if_icmp .ge 33, 3) := by decide +kernel
theorem dX5_lay_59 : decode cX5_lay 59 = .ok (.aload_n 0, 1) := by decide +kernel
theorem dX5_lay_60 : decode cX5_lay 60 = .ok (.getfield 7, 3) := by decide +kernel
theorem dX5_lay_63 : decode cX5_lay 63 = .ok (.iload_n 2, 1) := by decide +kernel
theorem dX5_lay_64 : decode cX5_lay 64 = .ok (.aload_n 0, 1) := by decide +kernel
theorem dX5_lay_65 : decode cX5_lay 65 = .ok (.getfield 34, 3) := by decide +kernel
theorem dX5_lay_68 : decode cX5_lay 68 = .ok (.iload_n 2, 1) := by decide +kernel
theorem dX5_lay_69 : decode cX5_lay 69 = .ok (.iaload, 1) := by decide +kernel
theorem dX5_lay_70 : decode cX5_lay 70 = .ok (.iastore, 1) := by decide +kernel
theorem dX5_lay_71 : decode cX5_lay 71 = .ok (.aload_n 0, 1) := by decide +kernel
theorem dX5_lay_72 : decode cX5_lay 72 = .ok (.getfield 13, 3) := by decide +kernel
theorem dX5_lay_75 : decode cX5_lay 75 = .ok (.iload_n 2, 1) := by decide +kernel
theorem dX5_lay_76 : decode cX5_lay 76 = .ok (.aload_n 0, 1) := by decide +kernel
theorem dX5_lay_77 : decode cX5_lay 77 = .ok (.getfield 37, 3) := by decide +kernel
theorem dX5_lay_80 : decode cX5_lay 80 = .ok (.iload_n 2, 1) := by decide +kernel
theorem dX5_lay_81 : decode cX5_lay 81 = .ok (.iaload, 1) := by decide +kernel
theorem dX5_lay_82 : decode cX5_lay 82 = .ok (.iastore, 1) := by decide +kernel
theorem dX5_lay_83 : decode cX5_lay 83 = .ok (.iinc 2 1, 3) := by decide +kernel
theorem dX5_lay_86 : decode cX5_lay 86 = .ok (.goto (-32), 3) := by decide +kernel
theorem dX5_lay_89 : decode cX5_lay 89 = .ok (.iconst 0, 1) := by decide +kernel
theorem dX5_lay_90 : decode cX5_lay 90 = .ok (.istore_n 2, 1) := by decide +kernel
theorem dX5_lay_91 : decode cX5_lay 91 = .ok (.iload_n 2, 1) := by decide +kernel
theorem dX5_lay_92 : decode cX5_lay 92 = .ok (.aload_n 0, 1) := by decide +kernel
theorem dX5_lay_93 : decode cX5_lay 93 = .ok (.getfield 92, 3) := by decide +kernel
theorem dX5_lay_96 : decode cX5_lay 96 = .ok (.if_icmp .ge 21, 3) := by decide +kernel
theorem dX5_lay_99 : decode cX5_lay 99 = .ok (.aload_n 0, 1) := by decide +kernel
theorem dX5_lay_100 : decode cX5_lay 100 = .ok (.getfield 16, 3) := by decide +kernel
theorem dX5_lay_103 : decode cX5_lay 103 = .ok (.iload_n 2, 1) := by decide +kernel
theorem dX5_lay_104 : decode cX5_lay 104 = .ok (.aload_n 0, 1) := by decide +kernel
theorem dX5_lay_105 : decode cX5_lay 105 = .ok (.getfield 40, 3) := by decide +kernel
theorem dX5_lay_108 : decode cX5_lay 108 = .ok (.iload_n 2, 1) := by decide +kernel
theorem dX5_lay_109 : decode cX5_lay 109 = .ok (.iaload, 1) := by decide +kernel
theorem dX5_lay_110 : decode cX5_lay 110 = .ok (.iastore, 1) := by decide +kernel
theorem dX5_lay_111 : decode cX5_lay 111 = .ok (.iinc 2 1, 3) := by decide +kernel
theorem dX5_lay_114 : decode cX5_lay 114 = .ok (.goto (-23), 3) := by decide +kernel
theorem dX5_lay_117 : decode cX5_lay 117 = .ok (.aload_n 0, 1) := by decide +kernel
theorem dX5_lay_118 : decode cX5_lay 118 = .ok (.aload_n 0, 1) := by decide +kernel
theorem dX5_lay_119 : decode cX5_lay 119 = .ok (.getfield 92, 3) := by decide +kernel
theorem dX5_lay_122 : decode cX5_lay 122 = .ok (.putfield 55, 3) := by decide +kernel
theorem dX5_lay_125 : decode cX5_lay 125 = .ok (.aload_n 0, 1) := by decide +kernel
theorem dX5_lay_126 : decode cX5_lay 126 = .ok (.invokevirtual 59, 3) := by decide +kernel
theorem dX5_lay_129 : decode cX5_lay 129 = .ok (.aload_n 0, 1) := by decide +kernel
theorem dX5_lay_130 : decode cX5_lay 130 = .ok (.getfield 55, 3) := by decide +kernel
theorem dX5_lay_133 : decode cX5_lay 133 = .ok (.ireturn, 1) := by decide +kernel
theorem dX5_placeOf_0 : decode cX5_placeOf 0 = .ok (.iconst 0, 1) := by decide +kernel
theorem dX5_placeOf_1 : decode cX5_placeOf 1 = .ok (.istore_n 2, 1) := by decide +kernel
theorem dX5_placeOf_2 : decode cX5_placeOf 2 = .ok (.aload_n 0, 1) := by decide +kernel
theorem dX5_placeOf_3 : decode cX5_placeOf 3 = .ok (.getfield 19, 3) := by decide +kernel
theorem dX5_placeOf_6 : decode cX5_placeOf 6 = .ok (.iconst 0, 1) := by decide +kernel
theorem dX5_placeOf_7 : decode cX5_placeOf 7 = .ok (.iload_n 2, 1) := by decide +kernel
theorem dX5_placeOf_8 : decode cX5_placeOf 8 = .ok (.iadd, 1) := by decide +kernel
theorem dX5_placeOf_9 : decode cX5_placeOf 9 = .ok (.iaload, 1) := by decide +kernel
theorem dX5_placeOf_10 : decode cX5_placeOf 10 = .ok (.iload_n 1, 1) := by decide +kernel
theorem dX5_placeOf_11 : decode cX5_placeOf 11 = .ok (.if_icmp .eq 9, 3) := by decide +kernel
theorem dX5_placeOf_14 : decode cX5_placeOf 14 = .ok (.iinc 2 1, 3) := by decide +kernel
theorem dX5_placeOf_17 : decode cX5_placeOf 17 = .ok (.goto (-15), 3) := by decide +kernel
theorem dX5_placeOf_20 : decode cX5_placeOf 20 = .ok (.iload_n 2, 1) := by decide +kernel
theorem dX5_placeOf_21 : decode cX5_placeOf 21 = .ok (.ireturn, 1) := by decide +kernel
theorem dX5_dancer_0 : decode cX5_dancer 0 = .ok (.iload_n 1, 1) := by decide +kernel
theorem dX5_dancer_1 : decode cX5_dancer 1 = .ok (.invokestatic 105, 3) := by decide +kernel
theorem dX5_dancer_4 : decode cX5_dancer 4 = .ok (.ifCond .eq 15, 3) := by decide +kernel
theorem dX5_dancer_7 : decode cX5_dancer 7 = .ok (.iload_n 2, 1) := by decide +kernel
theorem dX5_dancer_8 : decode cX5_dancer 8 = .ok (.i2l, 1) := by decide +kernel
theorem dX5_dancer_9 : decode cX5_dancer 9 = .ok (.lconst 0, 1) := by decide +kernel
theorem dX5_dancer_10 : decode cX5_dancer 10 = .ok (.ldc2_w 109, 3) := by decide +kernel
theorem dX5_dancer_13 : decode cX5_dancer 13 = .ok (.invokestatic 62, 3) := by decide +kernel
theorem dX5_dancer_16 : decode cX5_dancer 16 = .ok (.ifCond .ne 5, 3) := by decide +kernel
theorem dX5_dancer_19 : decode cX5_dancer 19 = .ok (.iconst (-1), 1) := by decide +kernel
theorem dX5_dancer_20 : decode cX5_dancer 20 = .ok (.ireturn, 1) := by decide +kernel
theorem dX5_dancer_21 : decode cX5_dancer 21 = .ok (.iload_n 2, 1) := by decide +kernel
theorem dX5_dancer_22 : decode cX5_dancer 22 = .ok (.ifCond .ne 12, 3) := by decide +kernel
theorem dX5_dancer_25 : decode cX5_dancer 25 = .ok (.aload_n 0, 1) := by decide +kernel
theorem dX5_dancer_26 : decode cX5_dancer 26 = .ok (.getfield 7, 3) := by decide +kernel
theorem dX5_dancer_29 : decode cX5_dancer 29 = .ok (.iload_n 1, 1) := by decide +kernel
theorem dX5_dancer_30 : decode cX5_dancer 30 = .ok (.iaload, 1) := by decide +kernel
theorem dX5_dancer_31 : decode cX5_dancer 31 = .ok (.goto 24, 3) := by decide +kernel
theorem dX5_dancer_34 : decode cX5_dancer 34 = .ok (.iload_n 2, 1) := by decide +kernel
theorem dX5_dancer_35 : decode cX5_dancer 35 = .ok (.iconst 1, 1) := by decide +kernel
theorem dX5_dancer_36 : decode cX5_dancer 36 = .ok (.if_icmp .ne 11, 3) := by decide +kernel
theorem dX5_dancer_39 : decode cX5_dancer 39 = .ok (.aload_n 0, 1) := by decide +kernel
theorem dX5_dancer_40 : decode cX5_dancer 40 = .ok (.iload_n 1, 1) := by decide +kernel
theorem dX5_dancer_41 : decode cX5_dancer 41 = .ok (.invokevirtual 111, 3) := by decide +kernel
theorem dX5_dancer_44 : decode cX5_dancer 44 = .ok (.goto 11, 3) := by decide +kernel
theorem dX5_dancer_47 : decode cX5_dancer 47 = .ok (.aload_n 0, 1) := by decide +kernel
theorem dX5_dancer_48 : decode cX5_dancer 48 = .ok (.getfield 19, 3) := by decide +kernel
theorem dX5_dancer_51 : decode cX5_dancer 51 = .ok (.iconst 4, 1) := by decide +kernel
theorem dX5_dancer_52 : decode cX5_dancer 52 = .ok (.iload_n 1, 1) := by decide +kernel
theorem dX5_dancer_53 : decode cX5_dancer 53 = .ok (.iadd, 1) := by decide +kernel
theorem dX5_dancer_54 : decode cX5_dancer 54 = .ok (.iaload, 1) := by decide +kernel
theorem dX5_dancer_55 : decode cX5_dancer 55 = .ok (.ireturn, 1) := by decide +kernel
theorem dX5_place_0 : decode cX5_place 0 = .ok (.iload_n 1, 1) := by decide +kernel
theorem dX5_place_1 : decode cX5_place 1 = .ok (.invokestatic 105, 3) := by decide +kernel
theorem dX5_place_4 : decode cX5_place 4 = .ok (.ifCond .eq 10, 3) := by decide +kernel
theorem dX5_place_7 : decode cX5_place 7 = .ok (.iload_n 2, 1) := by decide +kernel
theorem dX5_place_8 : decode cX5_place 8 = .ok (.invokestatic 114, 3) := by decide +kernel
theorem dX5_place_11 : decode cX5_place 11 = .ok (.ifCond .ne 5, 3) := by decide +kernel
theorem dX5_place_14 : decode cX5_place 14 = .ok (.iconst (-1), 1) := by decide +kernel
theorem dX5_place_15 : decode cX5_place 15 = .ok (.ireturn, 1) := by decide +kernel
theorem dX5_place_16 : decode cX5_place 16 = .ok (.iload_n 2, 1) := by decide +kernel
theorem dX5_place_17 : decode cX5_place 17 = .ok (.ifCond .ne 14, 3) := by decide +kernel
theorem dX5_place_20 : decode cX5_place 20 = .ok (.aload_n 0, 1) := by decide +kernel
theorem dX5_place_21 : decode cX5_place 21 = .ok (.getfield 19, 3) := by decide +kernel
theorem dX5_place_24 : decode cX5_place 24 = .ok (.iconst 0, 1) := by decide +kernel
theorem dX5_place_25 : decode cX5_place 25 = .ok (.iload_n 1, 1) := by decide +kernel
theorem dX5_place_26 : decode cX5_place 26 = .ok (.iadd, 1) := by decide +kernel
theorem dX5_place_27 : decode cX5_place 27 = .ok (.iaload, 1) := by decide +kernel
theorem dX5_place_28 : decode cX5_place 28 = .ok (.goto 18, 3) := by decide +kernel
theorem dX5_place_31 : decode cX5_place 31 = .ok (.aload_n 0, 1) := by decide +kernel
theorem dX5_place_32 : decode cX5_place 32 = .ok (.getfield 19, 3) := by decide +kernel
theorem dX5_place_35 : decode cX5_place 35 = .ok (.iconst 4, 1) := by decide +kernel
theorem dX5_place_36 : decode cX5_place 36 = .ok (.aload_n 0, 1) := by decide +kernel
theorem dX5_place_37 : decode cX5_place 37 = .ok (.getfield 19, 3) := by decide +kernel
theorem dX5_place_40 : decode cX5_place 40 = .ok (.iconst 0, 1) := by decide +kernel
theorem dX5_place_41 : decode cX5_place 41 = .ok (.iload_n 1, 1) := by decide +kernel
theorem dX5_place_42 : decode cX5_place 42 = .ok (.iadd, 1) := by decide +kernel
theorem dX5_place_43 : decode cX5_place 43 = .ok (.iaload, 1) := by decide +kernel
theorem dX5_place_44 : decode cX5_place 44 = .ok (.iadd, 1) := by decide +kernel
theorem dX5_place_45 : decode cX5_place 45 = .ok (.iaload, 1) := by decide +kernel
theorem dX5_place_46 : decode cX5_place 46 = .ok (.ireturn, 1) := by decide +kernel
theorem dX5_wound_0 : decode cX5_wound 0 = .ok (.iload_n 1, 1) := by decide +kernel
theorem dX5_wound_1 : decode cX5_wound 1 = .ok (.invokestatic 114, 3) := by decide +kernel
theorem dX5_wound_4 : decode cX5_wound 4 = .ok (.ifCond .eq 15, 3) := by decide +kernel
theorem dX5_wound_7 : decode cX5_wound 7 = .ok (.aload_n 0, 1) := by decide +kernel
theorem dX5_wound_8 : decode cX5_wound 8 = .ok (.getfield 19, 3) := by decide +kernel
theorem dX5_wound_11 : decode cX5_wound 11 = .ok (.bipush 8, 2) := by decide +kernel
theorem dX5_wound_13 : decode cX5_wound 13 = .ok (.iload_n 1, 1) := by decide +kernel
theorem dX5_wound_14 : decode cX5_wound 14 = .ok (.iadd, 1) := by decide +kernel
theorem dX5_wound_15 : decode cX5_wound 15 = .ok (.iaload, 1) := by decide +kernel
theorem dX5_wound_16 : decode cX5_wound 16 = .ok (.goto 5, 3) := by decide +kernel
theorem dX5_wound_19 : decode cX5_wound 19 = .ok (.ldc 117, 2) := by decide +kernel
theorem dX5_wound_21 : decode cX5_wound 21 = .ok (.ireturn, 1) := by decide +kernel
theorem dX5_row_0 : decode cX5_row 0 = .ok (.iload_n 1, 1) := by decide +kernel
theorem dX5_row_1 : decode cX5_row 1 = .ok (.i2l, 1) := by decide +kernel
theorem dX5_row_2 : decode cX5_row 2 = .ok (.lconst 0, 1) := by decide +kernel
theorem dX5_row_3 : decode cX5_row 3 = .ok (.ldc2_w 118, 3) := by decide +kernel
theorem dX5_row_6 : decode cX5_row 6 = .ok (.invokestatic 62, 3) := by decide +kernel
theorem dX5_row_9 : decode cX5_row 9 = .ok (.ifCond .ne 5, 3) := by decide +kernel
theorem dX5_row_12 : decode cX5_row 12 = .ok (.iconst (-1), 1) := by decide +kernel
theorem dX5_row_13 : decode cX5_row 13 = .ok (.ireturn, 1) := by decide +kernel
theorem dX5_row_14 : decode cX5_row 14 = .ok (.iload_n 1, 1) := by decide +kernel
theorem dX5_row_15 : decode cX5_row 15 = .ok (.aload_n 0, 1) := by decide +kernel
theorem dX5_row_16 : decode cX5_row 16 = .ok (.getfield 55, 3) := by decide +kernel
theorem dX5_row_19 : decode cX5_row 19 = .ok (.if_icmp .ge 12, 3) := by decide +kernel
theorem dX5_row_22 : decode cX5_row 22 = .ok (.aload_n 0, 1) := by decide +kernel
theorem dX5_row_23 : decode cX5_row 23 = .ok (.getfield 16, 3) := by decide +kernel
theorem dX5_row_26 : decode cX5_row 26 = .ok (.iload_n 1, 1) := by decide +kernel
theorem dX5_row_27 : decode cX5_row 27 = .ok (.iaload, 1) := by decide +kernel
theorem dX5_row_28 : decode cX5_row 28 = .ok (.goto 5, 3) := by decide +kernel
theorem dX5_row_31 : decode cX5_row 31 = .ok (.bipush (-4), 2) := by decide +kernel
theorem dX5_row_33 : decode cX5_row 33 = .ok (.ireturn, 1) := by decide +kernel
theorem dX5_common_0 : decode cX5_common 0 = .ok (.iload_n 0, 1) := by decide +kernel
theorem dX5_common_1 : decode cX5_common 1 = .ok (.ifCond .ge 8, 3) := by decide +kernel
theorem dX5_common_4 : decode cX5_common 4 = .ok (.iload_n 0, 1) := by decide +kernel
theorem dX5_common_5 : decode cX5_common 5 = .ok (.ineg, 1) := by decide +kernel
theorem dX5_common_6 : decode cX5_common 6 = .ok (.goto 4, 3) := by decide +kernel
theorem dX5_common_9 : decode cX5_common 9 = .ok (.iload_n 0, 1) := by decide +kernel
theorem dX5_common_10 : decode cX5_common 10 = .ok (.istore_n 2, 1) := by decide +kernel
theorem dX5_common_11 : decode cX5_common 11 = .ok (.iload_n 1, 1) := by decide +kernel
theorem dX5_common_12 : decode cX5_common 12 = .ok (.istore_n 3, 1) := by decide +kernel
theorem dX5_common_13 : decode cX5_common 13 = .ok (.iload_n 3, 1) := by decide +kernel
theorem dX5_common_14 : decode cX5_common 14 = .ok (.ifCond .eq 16, 3) := by decide +kernel
theorem dX5_common_17 : decode cX5_common 17 = .ok (.iload_n 2, 1) := by decide +kernel
theorem dX5_common_18 : decode cX5_common 18 = .ok (.iload_n 3, 1) := by decide +kernel
theorem dX5_common_19 : decode cX5_common 19 = .ok (.irem, 1) := by decide +kernel
theorem dX5_common_20 : decode cX5_common 20 = .ok (.istore 4, 2) := by decide +kernel
theorem dX5_common_22 : decode cX5_common 22 = .ok (.iload_n 3, 1) := by decide +kernel
theorem dX5_common_23 : decode cX5_common 23 = .ok (.istore_n 2, 1) := by decide +kernel
theorem dX5_common_24 : decode cX5_common 24 = .ok (.iload 4, 2) := by decide +kernel
theorem dX5_common_26 : decode cX5_common 26 = .ok (.istore_n 3, 1) := by decide +kernel
theorem dX5_common_27 : decode cX5_common 27 = .ok (.goto (-14), 3) := by decide +kernel
theorem dX5_common_30 : decode cX5_common 30 = .ok (.iload_n 2, 1) := by decide +kernel
theorem dX5_common_31 : decode cX5_common 31 = .ok (.ireturn, 1) := by decide +kernel
theorem dX5_isTight_0 : decode cX5_isTight 0 = .ok (.iload_n 0, 1) := by decide +kernel
theorem dX5_isTight_1 : decode cX5_isTight 1 = .ok (.sipush 9999, 3) := by decide +kernel
theorem dX5_isTight_4 : decode cX5_isTight 4 = .ok (.if_icmp .gt 17, 3) := by decide +kernel
theorem dX5_isTight_7 : decode cX5_isTight 7 = .ok (.iload_n 0, 1) := by decide +kernel
theorem dX5_isTight_8 : decode cX5_isTight 8 = .ok (.sipush (-9999), 3) := by decide +kernel
theorem dX5_isTight_11 : decode cX5_isTight 11 = .ok (.if_icmp .lt 10, 3) := by decide +kernel
theorem dX5_isTight_14 : decode cX5_isTight 14 = .ok (.iload_n 1, 1) := by decide +kernel
theorem dX5_isTight_15 : decode cX5_isTight 15 = .ok (.sipush 9999, 3) := by decide +kernel
theorem dX5_isTight_18 : decode cX5_isTight 18 = .ok (.if_icmp .le 7, 3) := by decide +kernel
theorem dX5_isTight_21 : decode cX5_isTight 21 = .ok (.iconst 1, 1) := by decide +kernel
theorem dX5_isTight_22 : decode cX5_isTight 22 = .ok (.goto 4, 3) := by decide +kernel
theorem dX5_isTight_25 : decode cX5_isTight 25 = .ok (.iconst 0, 1) := by decide +kernel
theorem dX5_isTight_26 : decode cX5_isTight 26 = .ok (.ireturn, 1) := by decide +kernel
theorem dX5_windsBy_0 : decode cX5_windsBy 0 = .ok (.aload_n 0, 1) := by decide +kernel
theorem dX5_windsBy_1 : decode cX5_windsBy 1 = .ok (.getfield 19, 3) := by decide +kernel
theorem dX5_windsBy_4 : decode cX5_windsBy 4 = .ok (.iconst 1, 1) := by decide +kernel
theorem dX5_windsBy_5 : decode cX5_windsBy 5 = .ok (.iaload, 1) := by decide +kernel
theorem dX5_windsBy_6 : decode cX5_windsBy 6 = .ok (.istore_n 2, 1) := by decide +kernel
theorem dX5_windsBy_7 : decode cX5_windsBy 7 = .ok (.aload_n 0, 1) := by decide +kernel
theorem dX5_windsBy_8 : decode cX5_windsBy 8 = .ok (.getfield 7, 3) := by decide +kernel
theorem dX5_windsBy_11 : decode cX5_windsBy 11 = .ok (.iload_n 2, 1) := by decide +kernel
theorem dX5_windsBy_12 : decode cX5_windsBy 12 = .ok (.iaload, 1) := by decide +kernel
theorem dX5_windsBy_13 : decode cX5_windsBy 13 = .ok (.tableswitch 122 1 5 #[35, 38, 57, 61, 91], 35) := by decide +kernel
theorem dX5_windsBy_48 : decode cX5_windsBy 48 = .ok (.iload_n 1, 1) := by decide +kernel
theorem dX5_windsBy_49 : decode cX5_windsBy 49 = .ok (.ineg, 1) := by decide +kernel
theorem dX5_windsBy_50 : decode cX5_windsBy 50 = .ok (.ireturn, 1) := by decide +kernel
theorem dX5_windsBy_51 : decode cX5_windsBy 51 = .ok (.aload_n 0, 1) := by decide +kernel
theorem dX5_windsBy_52 : decode cX5_windsBy 52 = .ok (.getfield 19, 3) := by decide +kernel
theorem dX5_windsBy_55 : decode cX5_windsBy 55 = .ok (.bipush 10, 2) := by decide +kernel
theorem dX5_windsBy_57 : decode cX5_windsBy 57 = .ok (.iaload, 1) := by decide +kernel
theorem dX5_windsBy_58 : decode cX5_windsBy 58 = .ok (.iconst 2, 1) := by decide +kernel
theorem dX5_windsBy_59 : decode cX5_windsBy 59 = .ok (.irem, 1) := by decide +kernel
theorem dX5_windsBy_60 : decode cX5_windsBy 60 = .ok (.iconst 1, 1) := by decide +kernel
theorem dX5_windsBy_61 : decode cX5_windsBy 61 = .ok (.if_icmp .ne 7, 3) := by decide +kernel
theorem dX5_windsBy_64 : decode cX5_windsBy 64 = .ok (.iconst 0, 1) := by decide +kernel
theorem dX5_windsBy_65 : decode cX5_windsBy 65 = .ok (.goto 4, 3) := by decide +kernel
theorem dX5_windsBy_68 : decode cX5_windsBy 68 = .ok (.iload_n 1, 1) := by decide +kernel
theorem dX5_windsBy_69 : decode cX5_windsBy 69 = .ok (.ireturn, 1) := by decide +kernel
theorem dX5_windsBy_70 : decode cX5_windsBy 70 = .ok (.iconst 2, 1) := by decide +kernel
theorem dX5_windsBy_71 : decode cX5_windsBy 71 = .ok (.iload_n 1, 1) := by decide +kernel
theorem dX5_windsBy_72 : decode cX5_windsBy 72 = .ok (.imul, 1) := by decide +kernel
theorem dX5_windsBy_73 : decode cX5_windsBy 73 = .ok (.ireturn, 1) := by decide +kernel
theorem dX5_windsBy_74 : decode cX5_windsBy 74 = .ok (.aload_n 0, 1) := by decide +kernel
theorem dX5_windsBy_75 : decode cX5_windsBy 75 = .ok (.getfield 19, 3) := by decide +kernel
theorem dX5_windsBy_78 : decode cX5_windsBy 78 = .ok (.iconst 4, 1) := by decide +kernel
theorem dX5_windsBy_79 : decode cX5_windsBy 79 = .ok (.iload_n 2, 1) := by decide +kernel
theorem dX5_windsBy_80 : decode cX5_windsBy 80 = .ok (.iadd, 1) := by decide +kernel
theorem dX5_windsBy_81 : decode cX5_windsBy 81 = .ok (.iaload, 1) := by decide +kernel
theorem dX5_windsBy_82 : decode cX5_windsBy 82 = .ok (.aload_n 0, 1) := by decide +kernel
theorem dX5_windsBy_83 : decode cX5_windsBy 83 = .ok (.getfield 19, 3) := by decide +kernel
theorem dX5_windsBy_86 : decode cX5_windsBy 86 = .ok (.iconst 4, 1) := by decide +kernel
theorem dX5_windsBy_87 : decode cX5_windsBy 87 = .ok (.aload_n 0, 1) := by decide +kernel
theorem dX5_windsBy_88 : decode cX5_windsBy 88 = .ok (.getfield 19, 3) := by decide +kernel
theorem dX5_windsBy_91 : decode cX5_windsBy 91 = .ok (.iconst 2, 1) := by decide +kernel
theorem dX5_windsBy_92 : decode cX5_windsBy 92 = .ok (.iaload, 1) := by decide +kernel
theorem dX5_windsBy_93 : decode cX5_windsBy 93 = .ok (.iadd, 1) := by decide +kernel
theorem dX5_windsBy_94 : decode cX5_windsBy 94 = .ok (.iaload, 1) := by decide +kernel
theorem dX5_windsBy_95 : decode cX5_windsBy 95 = .ok (.if_icmp .ne 7, 3) := by decide +kernel
theorem dX5_windsBy_98 : decode cX5_windsBy 98 = .ok (.iconst 0, 1) := by decide +kernel
theorem dX5_windsBy_99 : decode cX5_windsBy 99 = .ok (.goto 4, 3) := by decide +kernel
theorem dX5_windsBy_102 : decode cX5_windsBy 102 = .ok (.iload_n 1, 1) := by decide +kernel
theorem dX5_windsBy_103 : decode cX5_windsBy 103 = .ok (.ireturn, 1) := by decide +kernel
theorem dX5_windsBy_104 : decode cX5_windsBy 104 = .ok (.aload_n 0, 1) := by decide +kernel
theorem dX5_windsBy_105 : decode cX5_windsBy 105 = .ok (.getfield 19, 3) := by decide +kernel
theorem dX5_windsBy_108 : decode cX5_windsBy 108 = .ok (.bipush 11, 2) := by decide +kernel
theorem dX5_windsBy_110 : decode cX5_windsBy 110 = .ok (.iaload, 1) := by decide +kernel
theorem dX5_windsBy_111 : decode cX5_windsBy 111 = .ok (.ifCond .ne 7, 3) := by decide +kernel
theorem dX5_windsBy_114 : decode cX5_windsBy 114 = .ok (.iload_n 1, 1) := by decide +kernel
theorem dX5_windsBy_115 : decode cX5_windsBy 115 = .ok (.goto 19, 3) := by decide +kernel
theorem dX5_windsBy_118 : decode cX5_windsBy 118 = .ok (.aload_n 0, 1) := by decide +kernel
theorem dX5_windsBy_119 : decode cX5_windsBy 119 = .ok (.getfield 19, 3) := by decide +kernel
theorem dX5_windsBy_122 : decode cX5_windsBy 122 = .ok (.bipush 11, 2) := by decide +kernel
theorem dX5_windsBy_124 : decode cX5_windsBy 124 = .ok (.iaload, 1) := by decide +kernel
theorem dX5_windsBy_125 : decode cX5_windsBy 125 = .ok (.iconst 1, 1) := by decide +kernel
theorem dX5_windsBy_126 : decode cX5_windsBy 126 = .ok (.if_icmp .ne 7, 3) := by decide +kernel
theorem dX5_windsBy_129 : decode cX5_windsBy 129 = .ok (.iconst 1, 1) := by decide +kernel
theorem dX5_windsBy_130 : decode cX5_windsBy 130 = .ok (.goto 4, 3) := by decide +kernel
theorem dX5_windsBy_133 : decode cX5_windsBy 133 = .ok (.iconst (-1), 1) := by decide +kernel
theorem dX5_windsBy_134 : decode cX5_windsBy 134 = .ok (.ireturn, 1) := by decide +kernel
theorem dX5_windsBy_135 : decode cX5_windsBy 135 = .ok (.iload_n 1, 1) := by decide +kernel
theorem dX5_windsBy_136 : decode cX5_windsBy 136 = .ok (.ireturn, 1) := by decide +kernel
theorem dX5_changePlaces_0 : decode cX5_changePlaces 0 = .ok (.aload_n 0, 1) := by decide +kernel
theorem dX5_changePlaces_1 : decode cX5_changePlaces 1 = .ok (.getfield 19, 3) := by decide +kernel
theorem dX5_changePlaces_4 : decode cX5_changePlaces 4 = .ok (.iconst 0, 1) := by decide +kernel
theorem dX5_changePlaces_5 : decode cX5_changePlaces 5 = .ok (.iload_n 1, 1) := by decide +kernel
theorem dX5_changePlaces_6 : decode cX5_changePlaces 6 = .ok (.iadd, 1) := by decide +kernel
theorem dX5_changePlaces_7 : decode cX5_changePlaces 7 = .ok (.iaload, 1) := by decide +kernel
theorem dX5_changePlaces_8 : decode cX5_changePlaces 8 = .ok (.istore_n 3, 1) := by decide +kernel
theorem dX5_changePlaces_9 : decode cX5_changePlaces 9 = .ok (.aload_n 0, 1) := by decide +kernel
theorem dX5_changePlaces_10 : decode cX5_changePlaces 10 = .ok (.getfield 19, 3) := by decide +kernel
theorem dX5_changePlaces_13 : decode cX5_changePlaces 13 = .ok (.iconst 0, 1) := by decide +kernel
theorem dX5_changePlaces_14 : decode cX5_changePlaces 14 = .ok (.iload_n 1, 1) := by decide +kernel
theorem dX5_changePlaces_15 : decode cX5_changePlaces 15 = .ok (.iadd, 1) := by decide +kernel
theorem dX5_changePlaces_16 : decode cX5_changePlaces 16 = .ok (.aload_n 0, 1) := by decide +kernel
theorem dX5_changePlaces_17 : decode cX5_changePlaces 17 = .ok (.getfield 19, 3) := by decide +kernel
theorem dX5_changePlaces_20 : decode cX5_changePlaces 20 = .ok (.iconst 0, 1) := by decide +kernel
theorem dX5_changePlaces_21 : decode cX5_changePlaces 21 = .ok (.iload_n 2, 1) := by decide +kernel
theorem dX5_changePlaces_22 : decode cX5_changePlaces 22 = .ok (.iadd, 1) := by decide +kernel
theorem dX5_changePlaces_23 : decode cX5_changePlaces 23 = .ok (.iaload, 1) := by decide +kernel
theorem dX5_changePlaces_24 : decode cX5_changePlaces 24 = .ok (.iastore, 1) := by decide +kernel
theorem dX5_changePlaces_25 : decode cX5_changePlaces 25 = .ok (.aload_n 0, 1) := by decide +kernel
theorem dX5_changePlaces_26 : decode cX5_changePlaces 26 = .ok (.getfield 19, 3) := by decide +kernel
theorem dX5_changePlaces_29 : decode cX5_changePlaces 29 = .ok (.iconst 0, 1) := by decide +kernel
theorem dX5_changePlaces_30 : decode cX5_changePlaces 30 = .ok (.iload_n 2, 1) := by decide +kernel
theorem dX5_changePlaces_31 : decode cX5_changePlaces 31 = .ok (.iadd, 1) := by decide +kernel
theorem dX5_changePlaces_32 : decode cX5_changePlaces 32 = .ok (.iload_n 3, 1) := by decide +kernel
theorem dX5_changePlaces_33 : decode cX5_changePlaces 33 = .ok (.iastore, 1) := by decide +kernel
theorem dX5_changePlaces_34 : decode cX5_changePlaces 34 = .ok (.return_, 1) := by decide +kernel
theorem dX5_winds_0 : decode cX5_winds 0 = .ok (.aload_n 0, 1) := by decide +kernel
theorem dX5_winds_1 : decode cX5_winds 1 = .ok (.iload_n 1, 1) := by decide +kernel
theorem dX5_winds_2 : decode cX5_winds 2 = .ok (.invokevirtual 120, 3) := by decide +kernel
theorem dX5_winds_5 : decode cX5_winds 5 = .ok (.istore_n 2, 1) := by decide +kernel
theorem dX5_winds_6 : decode cX5_winds 6 = .ok (.aload_n 0, 1) := by decide +kernel
theorem dX5_winds_7 : decode cX5_winds 7 = .ok (.getfield 19, 3) := by decide +kernel
theorem dX5_winds_10 : decode cX5_winds 10 = .ok (.bipush 8, 2) := by decide +kernel
theorem dX5_winds_12 : decode cX5_winds 12 = .ok (.iaload, 1) := by decide +kernel
theorem dX5_winds_13 : decode cX5_winds 13 = .ok (.iload_n 2, 1) := by decide +kernel
theorem dX5_winds_14 : decode cX5_winds 14 = .ok (.aload_n 0, 1) := by decide +kernel
theorem dX5_winds_15 : decode cX5_winds 15 = .ok (.getfield 19, 3) := by decide +kernel
theorem dX5_winds_18 : decode cX5_winds 18 = .ok (.bipush 9, 2) := by decide +kernel
theorem dX5_winds_20 : decode cX5_winds 20 = .ok (.iaload, 1) := by decide +kernel
theorem dX5_winds_21 : decode cX5_winds 21 = .ok (.imul, 1) := by decide +kernel
theorem dX5_winds_22 : decode cX5_winds 22 = .ok (.iadd, 1) := by decide +kernel
theorem dX5_winds_23 : decode cX5_winds 23 = .ok (.istore_n 3, 1) := by decide +kernel
theorem dX5_winds_24 : decode cX5_winds 24 = .ok (.iload_n 3, 1) := by decide +kernel
theorem dX5_winds_25 : decode cX5_winds 25 = .ok (.aload_n 0, 1) := by decide +kernel
theorem dX5_winds_26 : decode cX5_winds 26 = .ok (.getfield 19, 3) := by decide +kernel
theorem dX5_winds_29 : decode cX5_winds 29 = .ok (.bipush 9, 2) := by decide +kernel
theorem dX5_winds_31 : decode cX5_winds 31 = .ok (.iaload, 1) := by decide +kernel
theorem dX5_winds_32 : decode cX5_winds 32 = .ok (.invokestatic 123, 3) := by decide +kernel
theorem dX5_winds_35 : decode cX5_winds 35 = .ok (.ifCond .eq 5, 3) := by decide +kernel
theorem dX5_winds_38 : decode cX5_winds 38 = .ok (.iconst 0, 1) := by decide +kernel
theorem dX5_winds_39 : decode cX5_winds 39 = .ok (.ireturn, 1) := by decide +kernel
theorem dX5_winds_40 : decode cX5_winds 40 = .ok (.aload_n 0, 1) := by decide +kernel
theorem dX5_winds_41 : decode cX5_winds 41 = .ok (.iload_n 2, 1) := by decide +kernel
theorem dX5_winds_42 : decode cX5_winds 42 = .ok (.putfield 127, 3) := by decide +kernel
theorem dX5_winds_45 : decode cX5_winds 45 = .ok (.aload_n 0, 1) := by decide +kernel
theorem dX5_winds_46 : decode cX5_winds 46 = .ok (.getfield 19, 3) := by decide +kernel
theorem dX5_winds_49 : decode cX5_winds 49 = .ok (.bipush 8, 2) := by decide +kernel
theorem dX5_winds_51 : decode cX5_winds 51 = .ok (.aload_n 0, 1) := by decide +kernel
theorem dX5_winds_52 : decode cX5_winds 52 = .ok (.getfield 19, 3) := by decide +kernel
theorem dX5_winds_55 : decode cX5_winds 55 = .ok (.bipush 9, 2) := by decide +kernel
theorem dX5_winds_57 : decode cX5_winds 57 = .ok (.iaload, 1) := by decide +kernel
theorem dX5_winds_58 : decode cX5_winds 58 = .ok (.ifCond .ne 7, 3) := by decide +kernel
theorem dX5_winds_61 : decode cX5_winds 61 = .ok (.iconst 1, 1) := by decide +kernel
theorem dX5_winds_62 : decode cX5_winds 62 = .ok (.goto 4, 3) := by decide +kernel
theorem dX5_winds_65 : decode cX5_winds 65 = .ok (.iload_n 3, 1) := by decide +kernel
theorem dX5_winds_66 : decode cX5_winds 66 = .ok (.iastore, 1) := by decide +kernel
theorem dX5_winds_67 : decode cX5_winds 67 = .ok (.iload_n 2, 1) := by decide +kernel
theorem dX5_winds_68 : decode cX5_winds 68 = .ok (.iconst 1, 1) := by decide +kernel
theorem dX5_winds_69 : decode cX5_winds 69 = .ok (.if_icmp .eq 8, 3) := by decide +kernel
theorem dX5_winds_72 : decode cX5_winds 72 = .ok (.iload_n 2, 1) := by decide +kernel
theorem dX5_winds_73 : decode cX5_winds 73 = .ok (.iconst (-1), 1) := by decide +kernel
theorem dX5_winds_74 : decode cX5_winds 74 = .ok (.if_icmp .ne 9, 3) := by decide +kernel
theorem dX5_winds_77 : decode cX5_winds 77 = .ok (.aload_n 0, 1) := by decide +kernel
theorem dX5_winds_78 : decode cX5_winds 78 = .ok (.iconst 1, 1) := by decide +kernel
theorem dX5_winds_79 : decode cX5_winds 79 = .ok (.iconst 2, 1) := by decide +kernel
theorem dX5_winds_80 : decode cX5_winds 80 = .ok (.invokevirtual 130, 3) := by decide +kernel
theorem dX5_winds_83 : decode cX5_winds 83 = .ok (.aload_n 0, 1) := by decide +kernel
theorem dX5_winds_84 : decode cX5_winds 84 = .ok (.getfield 19, 3) := by decide +kernel
theorem dX5_winds_87 : decode cX5_winds 87 = .ok (.bipush 11, 2) := by decide +kernel
theorem dX5_winds_89 : decode cX5_winds 89 = .ok (.iload_n 2, 1) := by decide +kernel
theorem dX5_winds_90 : decode cX5_winds 90 = .ok (.ifCond .ne 13, 3) := by decide +kernel
theorem dX5_winds_93 : decode cX5_winds 93 = .ok (.aload_n 0, 1) := by decide +kernel
theorem dX5_winds_94 : decode cX5_winds 94 = .ok (.getfield 19, 3) := by decide +kernel
theorem dX5_winds_97 : decode cX5_winds 97 = .ok (.bipush 11, 2) := by decide +kernel
theorem dX5_winds_99 : decode cX5_winds 99 = .ok (.iaload, 1) := by decide +kernel
theorem dX5_winds_100 : decode cX5_winds 100 = .ok (.goto 12, 3) := by decide +kernel
theorem dX5_winds_103 : decode cX5_winds 103 = .ok (.iload_n 2, 1) := by decide +kernel
theorem dX5_winds_104 : decode cX5_winds 104 = .ok (.ifCond .le 7, 3) := by decide +kernel
theorem dX5_winds_107 : decode cX5_winds 107 = .ok (.iconst 1, 1) := by decide +kernel
theorem dX5_winds_108 : decode cX5_winds 108 = .ok (.goto 4, 3) := by decide +kernel
theorem dX5_winds_111 : decode cX5_winds 111 = .ok (.iconst 2, 1) := by decide +kernel
theorem dX5_winds_112 : decode cX5_winds 112 = .ok (.iastore, 1) := by decide +kernel
theorem dX5_winds_113 : decode cX5_winds 113 = .ok (.iconst 1, 1) := by decide +kernel
theorem dX5_winds_114 : decode cX5_winds 114 = .ok (.ireturn, 1) := by decide +kernel
theorem dX5_turns_0 : decode cX5_turns 0 = .ok (.aload_n 0, 1) := by decide +kernel
theorem dX5_turns_1 : decode cX5_turns 1 = .ok (.getfield 19, 3) := by decide +kernel
theorem dX5_turns_4 : decode cX5_turns 4 = .ok (.bipush 8, 2) := by decide +kernel
theorem dX5_turns_6 : decode cX5_turns 6 = .ok (.iaload, 1) := by decide +kernel
theorem dX5_turns_7 : decode cX5_turns 7 = .ok (.istore_n 1, 1) := by decide +kernel
theorem dX5_turns_8 : decode cX5_turns 8 = .ok (.aload_n 0, 1) := by decide +kernel
theorem dX5_turns_9 : decode cX5_turns 9 = .ok (.getfield 19, 3) := by decide +kernel
theorem dX5_turns_12 : decode cX5_turns 12 = .ok (.bipush 9, 2) := by decide +kernel
theorem dX5_turns_14 : decode cX5_turns 14 = .ok (.iaload, 1) := by decide +kernel
theorem dX5_turns_15 : decode cX5_turns 15 = .ok (.istore_n 2, 1) := by decide +kernel
theorem dX5_turns_16 : decode cX5_turns 16 = .ok (.iload_n 2, 1) := by decide +kernel
theorem dX5_turns_17 : decode cX5_turns 17 = .ok (.iload_n 1, 1) := by decide +kernel
theorem dX5_turns_18 : decode cX5_turns 18 = .ok (.ifCond .ge 8, 3) := by decide +kernel
theorem dX5_turns_21 : decode cX5_turns 21 = .ok (.iload_n 1, 1) := by decide +kernel
theorem dX5_turns_22 : decode cX5_turns 22 = .ok (.ineg, 1) := by decide +kernel
theorem dX5_turns_23 : decode cX5_turns 23 = .ok (.goto 4, 3) := by decide +kernel
theorem dX5_turns_26 : decode cX5_turns 26 = .ok (.iload_n 1, 1) := by decide +kernel
theorem dX5_turns_27 : decode cX5_turns 27 = .ok (.invokestatic 123, 3) := by decide +kernel
theorem dX5_turns_30 : decode cX5_turns 30 = .ok (.ifCond .eq 5, 3) := by decide +kernel
theorem dX5_turns_33 : decode cX5_turns 33 = .ok (.iconst 0, 1) := by decide +kernel
theorem dX5_turns_34 : decode cX5_turns 34 = .ok (.ireturn, 1) := by decide +kernel
theorem dX5_turns_35 : decode cX5_turns 35 = .ok (.aload_n 0, 1) := by decide +kernel
theorem dX5_turns_36 : decode cX5_turns 36 = .ok (.getfield 19, 3) := by decide +kernel
theorem dX5_turns_39 : decode cX5_turns 39 = .ok (.iconst 3, 1) := by decide +kernel
theorem dX5_turns_40 : decode cX5_turns 40 = .ok (.iaload, 1) := by decide +kernel
theorem dX5_turns_41 : decode cX5_turns 41 = .ok (.istore_n 3, 1) := by decide +kernel
theorem dX5_turns_42 : decode cX5_turns 42 = .ok (.iconst 3, 1) := by decide +kernel
theorem dX5_turns_43 : decode cX5_turns 43 = .ok (.istore 4, 2) := by decide +kernel
theorem dX5_turns_45 : decode cX5_turns 45 = .ok (.iload 4, 2) := by decide +kernel
theorem dX5_turns_47 : decode cX5_turns 47 = .ok (.ifCond .le 29, 3) := by decide +kernel
theorem dX5_turns_50 : decode cX5_turns 50 = .ok (.aload_n 0, 1) := by decide +kernel
theorem dX5_turns_51 : decode cX5_turns 51 = .ok (.getfield 19, 3) := by decide +kernel
theorem dX5_turns_54 : decode cX5_turns 54 = .ok (.iconst 0, 1) := by decide +kernel
theorem dX5_turns_55 : decode cX5_turns 55 = .ok (.iload 4, 2) := by decide +kernel
theorem dX5_turns_57 : decode cX5_turns 57 = .ok (.iadd, 1) := by decide +kernel
theorem dX5_turns_58 : decode cX5_turns 58 = .ok (.aload_n 0, 1) := by decide +kernel
theorem dX5_turns_59 : decode cX5_turns 59 = .ok (.getfield 19, 3) := by decide +kernel
theorem dX5_turns_62 : decode cX5_turns 62 = .ok (.iconst 0, 1) := by decide +kernel
theorem dX5_turns_63 : decode cX5_turns 63 = .ok (.iload 4, 2) := by decide +kernel
theorem dX5_turns_65 : decode cX5_turns 65 = .ok (.iadd, 1) := by decide +kernel
theorem dX5_turns_66 : decode cX5_turns 66 = .ok (.iconst 1, 1) := by decide +kernel
theorem dX5_turns_67 : decode cX5_turns 67 = .ok (.isub, 1) := by decide +kernel
theorem dX5_turns_68 : decode cX5_turns 68 = .ok (.iaload, 1) := by decide +kernel
theorem dX5_turns_69 : decode cX5_turns 69 = .ok (.iastore, 1) := by decide +kernel
theorem dX5_turns_70 : decode cX5_turns 70 = .ok (.iinc 4 (-1), 3) := by decide +kernel
theorem dX5_turns_73 : decode cX5_turns 73 = .ok (.goto (-28), 3) := by decide +kernel
theorem dX5_turns_76 : decode cX5_turns 76 = .ok (.aload_n 0, 1) := by decide +kernel
theorem dX5_turns_77 : decode cX5_turns 77 = .ok (.getfield 19, 3) := by decide +kernel
theorem dX5_turns_80 : decode cX5_turns 80 = .ok (.iconst 0, 1) := by decide +kernel
theorem dX5_turns_81 : decode cX5_turns 81 = .ok (.iload_n 3, 1) := by decide +kernel
theorem dX5_turns_82 : decode cX5_turns 82 = .ok (.iastore, 1) := by decide +kernel
theorem dX5_turns_83 : decode cX5_turns 83 = .ok (.aload_n 0, 1) := by decide +kernel
theorem dX5_turns_84 : decode cX5_turns 84 = .ok (.getfield 19, 3) := by decide +kernel
theorem dX5_turns_87 : decode cX5_turns 87 = .ok (.bipush 8, 2) := by decide +kernel
theorem dX5_turns_89 : decode cX5_turns 89 = .ok (.iload_n 1, 1) := by decide +kernel
theorem dX5_turns_90 : decode cX5_turns 90 = .ok (.ifCond .ne 7, 3) := by decide +kernel
theorem dX5_turns_93 : decode cX5_turns 93 = .ok (.iconst 1, 1) := by decide +kernel
theorem dX5_turns_94 : decode cX5_turns 94 = .ok (.goto 13, 3) := by decide +kernel
theorem dX5_turns_97 : decode cX5_turns 97 = .ok (.iload_n 1, 1) := by decide +kernel
theorem dX5_turns_98 : decode cX5_turns 98 = .ok (.ifCond .le 8, 3) := by decide +kernel
theorem dX5_turns_101 : decode cX5_turns 101 = .ok (.iload_n 2, 1) := by decide +kernel
theorem dX5_turns_102 : decode cX5_turns 102 = .ok (.ineg, 1) := by decide +kernel
theorem dX5_turns_103 : decode cX5_turns 103 = .ok (.goto 4, 3) := by decide +kernel
theorem dX5_turns_106 : decode cX5_turns 106 = .ok (.iload_n 2, 1) := by decide +kernel
theorem dX5_turns_107 : decode cX5_turns 107 = .ok (.iastore, 1) := by decide +kernel
theorem dX5_turns_108 : decode cX5_turns 108 = .ok (.aload_n 0, 1) := by decide +kernel
theorem dX5_turns_109 : decode cX5_turns 109 = .ok (.getfield 19, 3) := by decide +kernel
theorem dX5_turns_112 : decode cX5_turns 112 = .ok (.bipush 9, 2) := by decide +kernel
theorem dX5_turns_114 : decode cX5_turns 114 = .ok (.iload_n 1, 1) := by decide +kernel
theorem dX5_turns_115 : decode cX5_turns 115 = .ok (.ifCond .ge 8, 3) := by decide +kernel
theorem dX5_turns_118 : decode cX5_turns 118 = .ok (.iload_n 1, 1) := by decide +kernel
theorem dX5_turns_119 : decode cX5_turns 119 = .ok (.ineg, 1) := by decide +kernel
theorem dX5_turns_120 : decode cX5_turns 120 = .ok (.goto 4, 3) := by decide +kernel
theorem dX5_turns_123 : decode cX5_turns 123 = .ok (.iload_n 1, 1) := by decide +kernel
theorem dX5_turns_124 : decode cX5_turns 124 = .ok (.iastore, 1) := by decide +kernel
theorem dX5_turns_125 : decode cX5_turns 125 = .ok (.iconst 1, 1) := by decide +kernel
theorem dX5_turns_126 : decode cX5_turns 126 = .ok (.ireturn, 1) := by decide +kernel
theorem dX5_dances_0 : decode cX5_dances 0 = .ok (.aload_n 0, 1) := by decide +kernel
theorem dX5_dances_1 : decode cX5_dances 1 = .ok (.iconst 0, 1) := by decide +kernel
theorem dX5_dances_2 : decode cX5_dances 2 = .ok (.putfield 127, 3) := by decide +kernel
theorem dX5_dances_5 : decode cX5_dances 5 = .ok (.iload_n 1, 1) := by decide +kernel
theorem dX5_dances_6 : decode cX5_dances 6 = .ok (.iconst 3, 1) := by decide +kernel
theorem dX5_dances_7 : decode cX5_dances 7 = .ok (.if_icmp .eq 34, 3) := by decide +kernel
theorem dX5_dances_10 : decode cX5_dances 10 = .ok (.iload_n 1, 1) := by decide +kernel
theorem dX5_dances_11 : decode cX5_dances 11 = .ok (.iconst 2, 1) := by decide +kernel
theorem dX5_dances_12 : decode cX5_dances 12 = .ok (.if_icmp .ne 13, 3) := by decide +kernel
theorem dX5_dances_15 : decode cX5_dances 15 = .ok (.aload_n 0, 1) := by decide +kernel
theorem dX5_dances_16 : decode cX5_dances 16 = .ok (.invokevirtual 134, 3) := by decide +kernel
theorem dX5_dances_19 : decode cX5_dances 19 = .ok (.ifCond .eq 26, 3) := by decide +kernel
theorem dX5_dances_22 : decode cX5_dances 22 = .ok (.goto 19, 3) := by decide +kernel
theorem dX5_dances_25 : decode cX5_dances 25 = .ok (.aload_n 0, 1) := by decide +kernel
theorem dX5_dances_26 : decode cX5_dances 26 = .ok (.iload_n 1, 1) := by decide +kernel
theorem dX5_dances_27 : decode cX5_dances 27 = .ok (.ifCond .ne 7, 3) := by decide +kernel
theorem dX5_dances_30 : decode cX5_dances 30 = .ok (.iconst 1, 1) := by decide +kernel
theorem dX5_dances_31 : decode cX5_dances 31 = .ok (.goto 4, 3) := by decide +kernel
theorem dX5_dances_34 : decode cX5_dances 34 = .ok (.iconst (-1), 1) := by decide +kernel
theorem dX5_dances_35 : decode cX5_dances 35 = .ok (.invokevirtual 138, 3) := by decide +kernel
theorem dX5_dances_38 : decode cX5_dances 38 = .ok (.ifCond .eq 7, 3) := by decide +kernel
theorem dX5_dances_41 : decode cX5_dances 41 = .ok (.iconst 1, 1) := by decide +kernel
theorem dX5_dances_42 : decode cX5_dances 42 = .ok (.goto 4, 3) := by decide +kernel
theorem dX5_dances_45 : decode cX5_dances 45 = .ok (.iconst 0, 1) := by decide +kernel
theorem dX5_dances_46 : decode cX5_dances 46 = .ok (.istore_n 2, 1) := by decide +kernel
theorem dX5_dances_47 : decode cX5_dances 47 = .ok (.aload_n 0, 1) := by decide +kernel
theorem dX5_dances_48 : decode cX5_dances 48 = .ok (.getfield 19, 3) := by decide +kernel
theorem dX5_dances_51 : decode cX5_dances 51 = .ok (.bipush 10, 2) := by decide +kernel
theorem dX5_dances_53 : decode cX5_dances 53 = .ok (.dup2, 1) := by decide +kernel
theorem dX5_dances_54 : decode cX5_dances 54 = .ok (.iaload, 1) := by decide +kernel
theorem dX5_dances_55 : decode cX5_dances 55 = .ok (.iload_n 2, 1) := by decide +kernel
theorem dX5_dances_56 : decode cX5_dances 56 = .ok (.ifCond .eq 7, 3) := by decide +kernel
theorem dX5_dances_59 : decode cX5_dances 59 = .ok (.iconst 1, 1) := by decide +kernel
theorem dX5_dances_60 : decode cX5_dances 60 = .ok (.goto 4, 3) := by decide +kernel
theorem dX5_dances_63 : decode cX5_dances 63 = .ok (.iconst 0, 1) := by decide +kernel
theorem dX5_dances_64 : decode cX5_dances 64 = .ok (.iadd, 1) := by decide +kernel
theorem dX5_dances_65 : decode cX5_dances 65 = .ok (.iastore, 1) := by decide +kernel
theorem dX5_dances_66 : decode cX5_dances 66 = .ok (.iload_n 2, 1) := by decide +kernel
theorem dX5_dances_67 : decode cX5_dances 67 = .ok (.ireturn, 1) := by decide +kernel
theorem dX5_note_0 : decode cX5_note 0 = .ok (.aload_n 0, 1) := by decide +kernel
theorem dX5_note_1 : decode cX5_note 1 = .ok (.getfield 68, 3) := by decide +kernel
theorem dX5_note_4 : decode cX5_note 4 = .ok (.bipush 8, 2) := by decide +kernel
theorem dX5_note_6 : decode cX5_note 6 = .ok (.if_icmp .ne 42, 3) := by decide +kernel
theorem dX5_note_9 : decode cX5_note 9 = .ok (.iconst 0, 1) := by decide +kernel
theorem dX5_note_10 : decode cX5_note 10 = .ok (.istore_n 1, 1) := by decide +kernel
theorem dX5_note_11 : decode cX5_note 11 = .ok (.iload_n 1, 1) := by decide +kernel
theorem dX5_note_12 : decode cX5_note 12 = .ok (.bipush 84, 2) := by decide +kernel
theorem dX5_note_14 : decode cX5_note 14 = .ok (.if_icmp .ge 24, 3) := by decide +kernel
theorem dX5_note_17 : decode cX5_note 17 = .ok (.aload_n 0, 1) := by decide +kernel
theorem dX5_note_18 : decode cX5_note 18 = .ok (.getfield 22, 3) := by decide +kernel
theorem dX5_note_21 : decode cX5_note 21 = .ok (.iload_n 1, 1) := by decide +kernel
theorem dX5_note_22 : decode cX5_note 22 = .ok (.aload_n 0, 1) := by decide +kernel
theorem dX5_note_23 : decode cX5_note 23 = .ok (.getfield 22, 3) := by decide +kernel
theorem dX5_note_26 : decode cX5_note 26 = .ok (.iload_n 1, 1) := by decide +kernel
theorem dX5_note_27 : decode cX5_note 27 = .ok (.bipush 12, 2) := by decide +kernel
theorem dX5_note_29 : decode cX5_note 29 = .ok (.iadd, 1) := by decide +kernel
theorem dX5_note_30 : decode cX5_note 30 = .ok (.iaload, 1) := by decide +kernel
theorem dX5_note_31 : decode cX5_note 31 = .ok (.iastore, 1) := by decide +kernel
theorem dX5_note_32 : decode cX5_note 32 = .ok (.iinc 1 1, 3) := by decide +kernel
theorem dX5_note_35 : decode cX5_note 35 = .ok (.goto (-24), 3) := by decide +kernel
theorem dX5_note_38 : decode cX5_note 38 = .ok (.aload_n 0, 1) := by decide +kernel
theorem dX5_note_39 : decode cX5_note 39 = .ok (.dup, 1) := by decide +kernel
theorem dX5_note_40 : decode cX5_note 40 = .ok (.getfield 68, 3) := by decide +kernel
theorem dX5_note_43 : decode cX5_note 43 = .ok (.iconst 1, 1) := by decide +kernel
theorem dX5_note_44 : decode cX5_note 44 = .ok (.isub, 1) := by decide +kernel
theorem dX5_note_45 : decode cX5_note 45 = .ok (.putfield 68, 3) := by decide +kernel
theorem dX5_note_48 : decode cX5_note 48 = .ok (.iconst 0, 1) := by decide +kernel
theorem dX5_note_49 : decode cX5_note 49 = .ok (.istore_n 1, 1) := by decide +kernel
theorem dX5_note_50 : decode cX5_note 50 = .ok (.iload_n 1, 1) := by decide +kernel
theorem dX5_note_51 : decode cX5_note 51 = .ok (.bipush 12, 2) := by decide +kernel
theorem dX5_note_53 : decode cX5_note 53 = .ok (.if_icmp .ge 29, 3) := by decide +kernel
theorem dX5_note_56 : decode cX5_note 56 = .ok (.aload_n 0, 1) := by decide +kernel
theorem dX5_note_57 : decode cX5_note 57 = .ok (.getfield 22, 3) := by decide +kernel
theorem dX5_note_60 : decode cX5_note 60 = .ok (.bipush 12, 2) := by decide +kernel
theorem dX5_note_62 : decode cX5_note 62 = .ok (.aload_n 0, 1) := by decide +kernel
theorem dX5_note_63 : decode cX5_note 63 = .ok (.getfield 68, 3) := by decide +kernel
theorem dX5_note_66 : decode cX5_note 66 = .ok (.imul, 1) := by decide +kernel
theorem dX5_note_67 : decode cX5_note 67 = .ok (.iload_n 1, 1) := by decide +kernel
theorem dX5_note_68 : decode cX5_note 68 = .ok (.iadd, 1) := by decide +kernel
theorem dX5_note_69 : decode cX5_note 69 = .ok (.aload_n 0, 1) := by decide +kernel
theorem dX5_note_70 : decode cX5_note 70 = .ok (.getfield 19, 3) := by decide +kernel
theorem dX5_note_73 : decode cX5_note 73 = .ok (.iload_n 1, 1) := by decide +kernel
theorem dX5_note_74 : decode cX5_note 74 = .ok (.iaload, 1) := by decide +kernel
theorem dX5_note_75 : decode cX5_note 75 = .ok (.iastore, 1) := by decide +kernel
theorem dX5_note_76 : decode cX5_note 76 = .ok (.iinc 1 1, 3) := by decide +kernel
theorem dX5_note_79 : decode cX5_note 79 = .ok (.goto (-29), 3) := by decide +kernel
theorem dX5_note_82 : decode cX5_note 82 = .ok (.aload_n 0, 1) := by decide +kernel
theorem dX5_note_83 : decode cX5_note 83 = .ok (.dup, 1) := by decide +kernel
theorem dX5_note_84 : decode cX5_note 84 = .ok (.getfield 68, 3) := by decide +kernel
theorem dX5_note_87 : decode cX5_note 87 = .ok (.iconst 1, 1) := by decide +kernel
theorem dX5_note_88 : decode cX5_note 88 = .ok (.iadd, 1) := by decide +kernel
theorem dX5_note_89 : decode cX5_note 89 = .ok (.putfield 68, 3) := by decide +kernel
theorem dX5_note_92 : decode cX5_note 92 = .ok (.return_, 1) := by decide +kernel
theorem dX5_dance_0 : decode cX5_dance 0 = .ok (.iload_n 1, 1) := by decide +kernel
theorem dX5_dance_1 : decode cX5_dance 1 = .ok (.invokestatic 105, 3) := by decide +kernel
theorem dX5_dance_4 : decode cX5_dance 4 = .ok (.ifCond .ne 5, 3) := by decide +kernel
theorem dX5_dance_7 : decode cX5_dance 7 = .ok (.iconst (-1), 1) := by decide +kernel
theorem dX5_dance_8 : decode cX5_dance 8 = .ok (.ireturn, 1) := by decide +kernel
theorem dX5_dance_9 : decode cX5_dance 9 = .ok (.aload_n 0, 1) := by decide +kernel
theorem dX5_dance_10 : decode cX5_dance 10 = .ok (.invokevirtual 141, 3) := by decide +kernel
theorem dX5_dance_13 : decode cX5_dance 13 = .ok (.aload_n 0, 1) := by decide +kernel
theorem dX5_dance_14 : decode cX5_dance 14 = .ok (.iload_n 1, 1) := by decide +kernel
theorem dX5_dance_15 : decode cX5_dance 15 = .ok (.invokevirtual 144, 3) := by decide +kernel
theorem dX5_dance_18 : decode cX5_dance 18 = .ok (.ifCond .ne 6, 3) := by decide +kernel
theorem dX5_dance_21 : decode cX5_dance 21 = .ok (.bipush (-2), 2) := by decide +kernel
theorem dX5_dance_23 : decode cX5_dance 23 = .ok (.ireturn, 1) := by decide +kernel
theorem dX5_dance_24 : decode cX5_dance 24 = .ok (.aload_n 0, 1) := by decide +kernel
theorem dX5_dance_25 : decode cX5_dance 25 = .ok (.getfield 127, 3) := by decide +kernel
theorem dX5_dance_28 : decode cX5_dance 28 = .ok (.istore_n 2, 1) := by decide +kernel
theorem dX5_dance_29 : decode cX5_dance 29 = .ok (.aload_n 0, 1) := by decide +kernel
theorem dX5_dance_30 : decode cX5_dance 30 = .ok (.invokevirtual 147, 3) := by decide +kernel
theorem dX5_dance_33 : decode cX5_dance 33 = .ok (.aload_n 0, 1) := by decide +kernel
theorem dX5_dance_34 : decode cX5_dance 34 = .ok (.invokevirtual 150, 3) := by decide +kernel
theorem dX5_dance_37 : decode cX5_dance 37 = .ok (.aload_n 0, 1) := by decide +kernel
theorem dX5_dance_38 : decode cX5_dance 38 = .ok (.iload_n 1, 1) := by decide +kernel
theorem dX5_dance_39 : decode cX5_dance 39 = .ok (.invokevirtual 144, 3) := by decide +kernel
theorem dX5_dance_42 : decode cX5_dance 42 = .ok (.pop, 1) := by decide +kernel
theorem dX5_dance_43 : decode cX5_dance 43 = .ok (.bipush 10, 2) := by decide +kernel
theorem dX5_dance_45 : decode cX5_dance 45 = .ok (.iload_n 2, 1) := by decide +kernel
theorem dX5_dance_46 : decode cX5_dance 46 = .ok (.iadd, 1) := by decide +kernel
theorem dX5_dance_47 : decode cX5_dance 47 = .ok (.ireturn, 1) := by decide +kernel
theorem dX5_putThem_0 : decode cX5_putThem 0 = .ok (.aload_n 0, 1) := by decide +kernel
theorem dX5_putThem_1 : decode cX5_putThem 1 = .ok (.getfield 19, 3) := by decide +kernel
theorem dX5_putThem_4 : decode cX5_putThem 4 = .ok (.iconst 4, 1) := by decide +kernel
theorem dX5_putThem_5 : decode cX5_putThem 5 = .ok (.iload_n 1, 1) := by decide +kernel
theorem dX5_putThem_6 : decode cX5_putThem 6 = .ok (.iadd, 1) := by decide +kernel
theorem dX5_putThem_7 : decode cX5_putThem 7 = .ok (.iaload, 1) := by decide +kernel
theorem dX5_putThem_8 : decode cX5_putThem 8 = .ok (.istore_n 3, 1) := by decide +kernel
theorem dX5_putThem_9 : decode cX5_putThem 9 = .ok (.aload_n 0, 1) := by decide +kernel
theorem dX5_putThem_10 : decode cX5_putThem 10 = .ok (.getfield 19, 3) := by decide +kernel
theorem dX5_putThem_13 : decode cX5_putThem 13 = .ok (.iconst 4, 1) := by decide +kernel
theorem dX5_putThem_14 : decode cX5_putThem 14 = .ok (.iload_n 1, 1) := by decide +kernel
theorem dX5_putThem_15 : decode cX5_putThem 15 = .ok (.iadd, 1) := by decide +kernel
theorem dX5_putThem_16 : decode cX5_putThem 16 = .ok (.aload_n 0, 1) := by decide +kernel
theorem dX5_putThem_17 : decode cX5_putThem 17 = .ok (.getfield 19, 3) := by decide +kernel
theorem dX5_putThem_20 : decode cX5_putThem 20 = .ok (.iconst 4, 1) := by decide +kernel
theorem dX5_putThem_21 : decode cX5_putThem 21 = .ok (.iload_n 2, 1) := by decide +kernel
theorem dX5_putThem_22 : decode cX5_putThem 22 = .ok (.iadd, 1) := by decide +kernel
theorem dX5_putThem_23 : decode cX5_putThem 23 = .ok (.iaload, 1) := by decide +kernel
theorem dX5_putThem_24 : decode cX5_putThem 24 = .ok (.iastore, 1) := by decide +kernel
theorem dX5_putThem_25 : decode cX5_putThem 25 = .ok (.aload_n 0, 1) := by decide +kernel
theorem dX5_putThem_26 : decode cX5_putThem 26 = .ok (.getfield 19, 3) := by decide +kernel
theorem dX5_putThem_29 : decode cX5_putThem 29 = .ok (.iconst 4, 1) := by decide +kernel
theorem dX5_putThem_30 : decode cX5_putThem 30 = .ok (.iload_n 2, 1) := by decide +kernel
theorem dX5_putThem_31 : decode cX5_putThem 31 = .ok (.iadd, 1) := by decide +kernel
theorem dX5_putThem_32 : decode cX5_putThem 32 = .ok (.iload_n 3, 1) := by decide +kernel
theorem dX5_putThem_33 : decode cX5_putThem 33 = .ok (.iastore, 1) := by decide +kernel
theorem dX5_putThem_34 : decode cX5_putThem 34 = .ok (.aload_n 0, 1) := by decide +kernel
theorem dX5_putThem_35 : decode cX5_putThem 35 = .ok (.aload_n 0, 1) := by decide +kernel
theorem dX5_putThem_36 : decode cX5_putThem 36 = .ok (.iload_n 1, 1) := by decide +kernel
theorem dX5_putThem_37 : decode cX5_putThem 37 = .ok (.invokevirtual 111, 3) := by decide +kernel
theorem dX5_putThem_40 : decode cX5_putThem 40 = .ok (.aload_n 0, 1) := by decide +kernel
theorem dX5_putThem_41 : decode cX5_putThem 41 = .ok (.iload_n 2, 1) := by decide +kernel
theorem dX5_putThem_42 : decode cX5_putThem 42 = .ok (.invokevirtual 111, 3) := by decide +kernel
theorem dX5_putThem_45 : decode cX5_putThem 45 = .ok (.invokevirtual 130, 3) := by decide +kernel
theorem dX5_putThem_48 : decode cX5_putThem 48 = .ok (.return_, 1) := by decide +kernel
theorem dX5_put_0 : decode cX5_put 0 = .ok (.iload_n 1, 1) := by decide +kernel
theorem dX5_put_1 : decode cX5_put 1 = .ok (.invokestatic 105, 3) := by decide +kernel
theorem dX5_put_4 : decode cX5_put 4 = .ok (.ifCond .eq 15, 3) := by decide +kernel
theorem dX5_put_7 : decode cX5_put 7 = .ok (.iload_n 2, 1) := by decide +kernel
theorem dX5_put_8 : decode cX5_put 8 = .ok (.invokestatic 105, 3) := by decide +kernel
theorem dX5_put_11 : decode cX5_put 11 = .ok (.ifCond .eq 8, 3) := by decide +kernel
theorem dX5_put_14 : decode cX5_put 14 = .ok (.iload_n 1, 1) := by decide +kernel
theorem dX5_put_15 : decode cX5_put 15 = .ok (.iload_n 2, 1) := by decide +kernel
theorem dX5_put_16 : decode cX5_put 16 = .ok (.if_icmp .ne 5, 3) := by decide +kernel
theorem dX5_put_19 : decode cX5_put 19 = .ok (.iconst (-1), 1) := by decide +kernel
theorem dX5_put_20 : decode cX5_put 20 = .ok (.ireturn, 1) := by decide +kernel
theorem dX5_put_21 : decode cX5_put 21 = .ok (.aload_n 0, 1) := by decide +kernel
theorem dX5_put_22 : decode cX5_put 22 = .ok (.invokevirtual 150, 3) := by decide +kernel
theorem dX5_put_25 : decode cX5_put 25 = .ok (.aload_n 0, 1) := by decide +kernel
theorem dX5_put_26 : decode cX5_put 26 = .ok (.iload_n 1, 1) := by decide +kernel
theorem dX5_put_27 : decode cX5_put 27 = .ok (.iload_n 2, 1) := by decide +kernel
theorem dX5_put_28 : decode cX5_put 28 = .ok (.invokevirtual 153, 3) := by decide +kernel
theorem dX5_put_31 : decode cX5_put 31 = .ok (.aload_n 0, 1) := by decide +kernel
theorem dX5_put_32 : decode cX5_put 32 = .ok (.iload_n 1, 1) := by decide +kernel
theorem dX5_put_33 : decode cX5_put 33 = .ok (.invokevirtual 111, 3) := by decide +kernel
theorem dX5_put_36 : decode cX5_put 36 = .ok (.ireturn, 1) := by decide +kernel
theorem dX5_undo_0 : decode cX5_undo 0 = .ok (.aload_n 0, 1) := by decide +kernel
theorem dX5_undo_1 : decode cX5_undo 1 = .ok (.getfield 68, 3) := by decide +kernel
theorem dX5_undo_4 : decode cX5_undo 4 = .ok (.ifCond .ne 6, 3) := by decide +kernel
theorem dX5_undo_7 : decode cX5_undo 7 = .ok (.bipush (-2), 2) := by decide +kernel
theorem dX5_undo_9 : decode cX5_undo 9 = .ok (.ireturn, 1) := by decide +kernel
theorem dX5_undo_10 : decode cX5_undo 10 = .ok (.aload_n 0, 1) := by decide +kernel
theorem dX5_undo_11 : decode cX5_undo 11 = .ok (.dup, 1) := by decide +kernel
theorem dX5_undo_12 : decode cX5_undo 12 = .ok (.getfield 68, 3) := by decide +kernel
theorem dX5_undo_15 : decode cX5_undo 15 = .ok (.iconst 1, 1) := by decide +kernel
theorem dX5_undo_16 : decode cX5_undo 16 = .ok (.isub, 1) := by decide +kernel
theorem dX5_undo_17 : decode cX5_undo 17 = .ok (.putfield 68, 3) := by decide +kernel
theorem dX5_undo_20 : decode cX5_undo 20 = .ok (.iconst 0, 1) := by decide +kernel
theorem dX5_undo_21 : decode cX5_undo 21 = .ok (.istore_n 1, 1) := by decide +kernel
theorem dX5_undo_22 : decode cX5_undo 22 = .ok (.iload_n 1, 1) := by decide +kernel
theorem dX5_undo_23 : decode cX5_undo 23 = .ok (.bipush 12, 2) := by decide +kernel
theorem dX5_undo_25 : decode cX5_undo 25 = .ok (.if_icmp .ge 29, 3) := by decide +kernel
theorem dX5_undo_28 : decode cX5_undo 28 = .ok (.aload_n 0, 1) := by decide +kernel
theorem dX5_undo_29 : decode cX5_undo 29 = .ok (.getfield 19, 3) := by decide +kernel
theorem dX5_undo_32 : decode cX5_undo 32 = .ok (.iload_n 1, 1) := by decide +kernel
theorem dX5_undo_33 : decode cX5_undo 33 = .ok (.aload_n 0, 1) := by decide +kernel
theorem dX5_undo_34 : decode cX5_undo 34 = .ok (.getfield 22, 3) := by decide +kernel
theorem dX5_undo_37 : decode cX5_undo 37 = .ok (.bipush 12, 2) := by decide +kernel
theorem dX5_undo_39 : decode cX5_undo 39 = .ok (.aload_n 0, 1) := by decide +kernel
theorem dX5_undo_40 : decode cX5_undo 40 = .ok (.getfield 68, 3) := by decide +kernel
theorem dX5_undo_43 : decode cX5_undo 43 = .ok (.imul, 1) := by decide +kernel
theorem dX5_undo_44 : decode cX5_undo 44 = .ok (.iload_n 1, 1) := by decide +kernel
theorem dX5_undo_45 : decode cX5_undo 45 = .ok (.iadd, 1) := by decide +kernel
theorem dX5_undo_46 : decode cX5_undo 46 = .ok (.iaload, 1) := by decide +kernel
theorem dX5_undo_47 : decode cX5_undo 47 = .ok (.iastore, 1) := by decide +kernel
theorem dX5_undo_48 : decode cX5_undo 48 = .ok (.iinc 1 1, 3) := by decide +kernel
theorem dX5_undo_51 : decode cX5_undo 51 = .ok (.goto (-29), 3) := by decide +kernel
theorem dX5_undo_54 : decode cX5_undo 54 = .ok (.aload_n 0, 1) := by decide +kernel
theorem dX5_undo_55 : decode cX5_undo 55 = .ok (.getfield 68, 3) := by decide +kernel
theorem dX5_undo_58 : decode cX5_undo 58 = .ok (.ireturn, 1) := by decide +kernel
theorem dX5_putAside_0 : decode cX5_putAside 0 = .ok (.iconst 0, 1) := by decide +kernel
theorem dX5_putAside_1 : decode cX5_putAside 1 = .ok (.istore_n 1, 1) := by decide +kernel
theorem dX5_putAside_2 : decode cX5_putAside 2 = .ok (.iload_n 1, 1) := by decide +kernel
theorem dX5_putAside_3 : decode cX5_putAside 3 = .ok (.bipush 12, 2) := by decide +kernel
theorem dX5_putAside_5 : decode cX5_putAside 5 = .ok (.if_icmp .ge 21, 3) := by decide +kernel
theorem dX5_putAside_8 : decode cX5_putAside 8 = .ok (.aload_n 0, 1) := by decide +kernel
theorem dX5_putAside_9 : decode cX5_putAside 9 = .ok (.getfield 43, 3) := by decide +kernel
theorem dX5_putAside_12 : decode cX5_putAside 12 = .ok (.iload_n 1, 1) := by decide +kernel
theorem dX5_putAside_13 : decode cX5_putAside 13 = .ok (.aload_n 0, 1) := by decide +kernel
theorem dX5_putAside_14 : decode cX5_putAside 14 = .ok (.getfield 19, 3) := by decide +kernel
theorem dX5_putAside_17 : decode cX5_putAside 17 = .ok (.iload_n 1, 1) := by decide +kernel
theorem dX5_putAside_18 : decode cX5_putAside 18 = .ok (.iaload, 1) := by decide +kernel
theorem dX5_putAside_19 : decode cX5_putAside 19 = .ok (.iastore, 1) := by decide +kernel
theorem dX5_putAside_20 : decode cX5_putAside 20 = .ok (.iinc 1 1, 3) := by decide +kernel
theorem dX5_putAside_23 : decode cX5_putAside 23 = .ok (.goto (-21), 3) := by decide +kernel
theorem dX5_putAside_26 : decode cX5_putAside 26 = .ok (.return_, 1) := by decide +kernel
theorem dX5_takeBack_0 : decode cX5_takeBack 0 = .ok (.iconst 0, 1) := by decide +kernel
theorem dX5_takeBack_1 : decode cX5_takeBack 1 = .ok (.istore_n 1, 1) := by decide +kernel
theorem dX5_takeBack_2 : decode cX5_takeBack 2 = .ok (.iload_n 1, 1) := by decide +kernel
theorem dX5_takeBack_3 : decode cX5_takeBack 3 = .ok (.bipush 12, 2) := by decide +kernel
theorem dX5_takeBack_5 : decode cX5_takeBack 5 = .ok (.if_icmp .ge 21, 3) := by decide +kernel
theorem dX5_takeBack_8 : decode cX5_takeBack 8 = .ok (.aload_n 0, 1) := by decide +kernel
theorem dX5_takeBack_9 : decode cX5_takeBack 9 = .ok (.getfield 19, 3) := by decide +kernel
theorem dX5_takeBack_12 : decode cX5_takeBack 12 = .ok (.iload_n 1, 1) := by decide +kernel
theorem dX5_takeBack_13 : decode cX5_takeBack 13 = .ok (.aload_n 0, 1) := by decide +kernel
theorem dX5_takeBack_14 : decode cX5_takeBack 14 = .ok (.getfield 43, 3) := by decide +kernel
theorem dX5_takeBack_17 : decode cX5_takeBack 17 = .ok (.iload_n 1, 1) := by decide +kernel
theorem dX5_takeBack_18 : decode cX5_takeBack 18 = .ok (.iaload, 1) := by decide +kernel
theorem dX5_takeBack_19 : decode cX5_takeBack 19 = .ok (.iastore, 1) := by decide +kernel
theorem dX5_takeBack_20 : decode cX5_takeBack 20 = .ok (.iinc 1 1, 3) := by decide +kernel
theorem dX5_takeBack_23 : decode cX5_takeBack 23 = .ok (.goto (-21), 3) := by decide +kernel
theorem dX5_takeBack_26 : decode cX5_takeBack 26 = .ok (.return_, 1) := by decide +kernel
theorem dX5_rowsOf_0 : decode cX5_rowsOf 0 = .ok (.iconst 1, 1) := by decide +kernel
theorem dX5_rowsOf_1 : decode cX5_rowsOf 1 = .ok (.istore_n 2, 1) := by decide +kernel
theorem dX5_rowsOf_2 : decode cX5_rowsOf 2 = .ok (.iconst 0, 1) := by decide +kernel
theorem dX5_rowsOf_3 : decode cX5_rowsOf 3 = .ok (.istore_n 3, 1) := by decide +kernel
theorem dX5_rowsOf_4 : decode cX5_rowsOf 4 = .ok (.iload_n 3, 1) := by decide +kernel
theorem dX5_rowsOf_5 : decode cX5_rowsOf 5 = .ok (.iload_n 1, 1) := by decide +kernel
theorem dX5_rowsOf_6 : decode cX5_rowsOf 6 = .ok (.if_icmp .ge 13, 3) := by decide +kernel
theorem dX5_rowsOf_9 : decode cX5_rowsOf 9 = .ok (.iload_n 2, 1) := by decide +kernel
theorem dX5_rowsOf_10 : decode cX5_rowsOf 10 = .ok (.iload_n 0, 1) := by decide +kernel
theorem dX5_rowsOf_11 : decode cX5_rowsOf 11 = .ok (.imul, 1) := by decide +kernel
theorem dX5_rowsOf_12 : decode cX5_rowsOf 12 = .ok (.istore_n 2, 1) := by decide +kernel
theorem dX5_rowsOf_13 : decode cX5_rowsOf 13 = .ok (.iinc 3 1, 3) := by decide +kernel
theorem dX5_rowsOf_16 : decode cX5_rowsOf 16 = .ok (.goto (-12), 3) := by decide +kernel
theorem dX5_rowsOf_19 : decode cX5_rowsOf 19 = .ok (.iload_n 2, 1) := by decide +kernel
theorem dX5_rowsOf_20 : decode cX5_rowsOf 20 = .ok (.ireturn, 1) := by decide +kernel
theorem dX5_dancesRow_0 : decode cX5_dancesRow 0 = .ok (.iconst 1, 1) := by decide +kernel
theorem dX5_dancesRow_1 : decode cX5_dancesRow 1 = .ok (.istore_n 3, 1) := by decide +kernel
theorem dX5_dancesRow_2 : decode cX5_dancesRow 2 = .ok (.iconst 3, 1) := by decide +kernel
theorem dX5_dancesRow_3 : decode cX5_dancesRow 3 = .ok (.iload_n 2, 1) := by decide +kernel
theorem dX5_dancesRow_4 : decode cX5_dancesRow 4 = .ok (.invokestatic 156, 3) := by decide +kernel
theorem dX5_dancesRow_7 : decode cX5_dancesRow 7 = .ok (.iconst 3, 1) := by decide +kernel
theorem dX5_dancesRow_8 : decode cX5_dancesRow 8 = .ok (.idiv, 1) := by decide +kernel
theorem dX5_dancesRow_9 : decode cX5_dancesRow 9 = .ok (.istore 4, 2) := by decide +kernel
theorem dX5_dancesRow_11 : decode cX5_dancesRow 11 = .ok (.iload 4, 2) := by decide +kernel
theorem dX5_dancesRow_13 : decode cX5_dancesRow 13 = .ok (.ifCond .le 27, 3) := by decide +kernel
theorem dX5_dancesRow_16 : decode cX5_dancesRow 16 = .ok (.iload_n 3, 1) := by decide +kernel
theorem dX5_dancesRow_17 : decode cX5_dancesRow 17 = .ok (.ifCond .eq 23, 3) := by decide +kernel
theorem dX5_dancesRow_20 : decode cX5_dancesRow 20 = .ok (.aload_n 0, 1) := by decide +kernel
theorem dX5_dancesRow_21 : decode cX5_dancesRow 21 = .ok (.iload_n 1, 1) := by decide +kernel
theorem dX5_dancesRow_22 : decode cX5_dancesRow 22 = .ok (.iload 4, 2) := by decide +kernel
theorem dX5_dancesRow_24 : decode cX5_dancesRow 24 = .ok (.idiv, 1) := by decide +kernel
theorem dX5_dancesRow_25 : decode cX5_dancesRow 25 = .ok (.iconst 3, 1) := by decide +kernel
theorem dX5_dancesRow_26 : decode cX5_dancesRow 26 = .ok (.irem, 1) := by decide +kernel
theorem dX5_dancesRow_27 : decode cX5_dancesRow 27 = .ok (.invokevirtual 144, 3) := by decide +kernel
theorem dX5_dancesRow_30 : decode cX5_dancesRow 30 = .ok (.istore_n 3, 1) := by decide +kernel
theorem dX5_dancesRow_31 : decode cX5_dancesRow 31 = .ok (.iload 4, 2) := by decide +kernel
theorem dX5_dancesRow_33 : decode cX5_dancesRow 33 = .ok (.iconst 3, 1) := by decide +kernel
theorem dX5_dancesRow_34 : decode cX5_dancesRow 34 = .ok (.idiv, 1) := by decide +kernel
theorem dX5_dancesRow_35 : decode cX5_dancesRow 35 = .ok (.istore 4, 2) := by decide +kernel
theorem dX5_dancesRow_37 : decode cX5_dancesRow 37 = .ok (.goto (-26), 3) := by decide +kernel
theorem dX5_dancesRow_40 : decode cX5_dancesRow 40 = .ok (.iload_n 3, 1) := by decide +kernel
theorem dX5_dancesRow_41 : decode cX5_dancesRow 41 = .ok (.ireturn, 1) := by decide +kernel
theorem dX5_isWound_0 : decode cX5_isWound 0 = .ok (.aload_n 0, 1) := by decide +kernel
theorem dX5_isWound_1 : decode cX5_isWound 1 = .ok (.getfield 19, 3) := by decide +kernel
theorem dX5_isWound_4 : decode cX5_isWound 4 = .ok (.bipush 8, 2) := by decide +kernel
theorem dX5_isWound_6 : decode cX5_isWound 6 = .ok (.iaload, 1) := by decide +kernel
theorem dX5_isWound_7 : decode cX5_isWound 7 = .ok (.iload_n 1, 1) := by decide +kernel
theorem dX5_isWound_8 : decode cX5_isWound 8 = .ok (.if_icmp .ne 18, 3) := by decide +kernel
theorem dX5_isWound_11 : decode cX5_isWound 11 = .ok (.aload_n 0, 1) := by decide +kernel
theorem dX5_isWound_12 : decode cX5_isWound 12 = .ok (.getfield 19, 3) := by decide +kernel
theorem dX5_isWound_15 : decode cX5_isWound 15 = .ok (.bipush 9, 2) := by decide +kernel
theorem dX5_isWound_17 : decode cX5_isWound 17 = .ok (.iaload, 1) := by decide +kernel
theorem dX5_isWound_18 : decode cX5_isWound 18 = .ok (.iload_n 2, 1) := by decide +kernel
theorem dX5_isWound_19 : decode cX5_isWound 19 = .ok (.if_icmp .ne 7, 3) := by decide +kernel
theorem dX5_isWound_22 : decode cX5_isWound 22 = .ok (.iconst 1, 1) := by decide +kernel
theorem dX5_isWound_23 : decode cX5_isWound 23 = .ok (.goto 4, 3) := by decide +kernel
theorem dX5_isWound_26 : decode cX5_isWound 26 = .ok (.iconst 0, 1) := by decide +kernel
theorem dX5_isWound_27 : decode cX5_isWound 27 = .ok (.ireturn, 1) := by decide +kernel
theorem dX5_areBeside_0 : decode cX5_areBeside 0 = .ok (.aload_n 0, 1) := by decide +kernel
theorem dX5_areBeside_1 : decode cX5_areBeside 1 = .ok (.iload_n 1, 1) := by decide +kernel
theorem dX5_areBeside_2 : decode cX5_areBeside 2 = .ok (.invokevirtual 111, 3) := by decide +kernel
theorem dX5_areBeside_5 : decode cX5_areBeside 5 = .ok (.aload_n 0, 1) := by decide +kernel
theorem dX5_areBeside_6 : decode cX5_areBeside 6 = .ok (.iload_n 2, 1) := by decide +kernel
theorem dX5_areBeside_7 : decode cX5_areBeside 7 = .ok (.invokevirtual 111, 3) := by decide +kernel
theorem dX5_areBeside_10 : decode cX5_areBeside 10 = .ok (.isub, 1) := by decide +kernel
theorem dX5_areBeside_11 : decode cX5_areBeside 11 = .ok (.istore_n 3, 1) := by decide +kernel
theorem dX5_areBeside_12 : decode cX5_areBeside 12 = .ok (.iload_n 3, 1) := by decide +kernel
theorem dX5_areBeside_13 : decode cX5_areBeside 13 = .ok (.iconst 2, 1) := by decide +kernel
theorem dX5_areBeside_14 : decode cX5_areBeside 14 = .ok (.irem, 1) := by decide +kernel
theorem dX5_areBeside_15 : decode cX5_areBeside 15 = .ok (.ifCond .eq 7, 3) := by decide +kernel
theorem dX5_areBeside_18 : decode cX5_areBeside 18 = .ok (.iconst 1, 1) := by decide +kernel
theorem dX5_areBeside_19 : decode cX5_areBeside 19 = .ok (.goto 4, 3) := by decide +kernel
theorem dX5_areBeside_22 : decode cX5_areBeside 22 = .ok (.iconst 0, 1) := by decide +kernel
theorem dX5_areBeside_23 : decode cX5_areBeside 23 = .ok (.ireturn, 1) := by decide +kernel
theorem dX5_search_0 : decode cX5_search 0 = .ok (.aload_n 0, 1) := by decide +kernel
theorem dX5_search_1 : decode cX5_search 1 = .ok (.bipush (-4), 2) := by decide +kernel
theorem dX5_search_3 : decode cX5_search 3 = .ok (.putfield 159, 3) := by decide +kernel
theorem dX5_search_6 : decode cX5_search 6 = .ok (.aload_n 0, 1) := by decide +kernel
theorem dX5_search_7 : decode cX5_search 7 = .ok (.invokevirtual 141, 3) := by decide +kernel
theorem dX5_search_10 : decode cX5_search 10 = .ok (.iconst 0, 1) := by decide +kernel
theorem dX5_search_11 : decode cX5_search 11 = .ok (.istore 5, 2) := by decide +kernel
theorem dX5_search_13 : decode cX5_search 13 = .ok (.iload 5, 2) := by decide +kernel
theorem dX5_search_15 : decode cX5_search 15 = .ok (.bipush 7, 2) := by decide +kernel
theorem dX5_search_17 : decode cX5_search 17 = .ok (.if_icmp .gt 96, 3) := by decide +kernel
theorem dX5_search_20 : decode cX5_search 20 = .ok (.aload_n 0, 1) := by decide +kernel
theorem dX5_search_21 : decode cX5_search 21 = .ok (.getfield 159, 3) := by decide +kernel
theorem dX5_search_24 : decode cX5_search 24 = .ok (.ifCond .ge 89, 3) := by decide +kernel
theorem dX5_search_27 : decode cX5_search 27 = .ok (.iconst 0, 1) := by decide +kernel
theorem dX5_search_28 : decode cX5_search 28 = .ok (.istore 6, 2) := by decide +kernel
theorem dX5_search_30 : decode cX5_search 30 = .ok (.iload 6, 2) := by decide +kernel
theorem dX5_search_32 : decode cX5_search 32 = .ok (.iconst 3, 1) := by decide +kernel
theorem dX5_search_33 : decode cX5_search 33 = .ok (.iload 5, 2) := by decide +kernel
theorem dX5_search_35 : decode cX5_search 35 = .ok (.invokestatic 156, 3) := by decide +kernel
theorem dX5_search_38 : decode cX5_search 38 = .ok (.if_icmp .ge 69, 3) := by decide +kernel
theorem dX5_search_41 : decode cX5_search 41 = .ok (.aload_n 0, 1) := by decide +kernel
theorem dX5_search_42 : decode cX5_search 42 = .ok (.getfield 159, 3) := by decide +kernel
theorem dX5_search_45 : decode cX5_search 45 = .ok (.ifCond .ge 62, 3) := by decide +kernel
theorem dX5_search_48 : decode cX5_search 48 = .ok (.aload_n 0, 1) := by decide +kernel
theorem dX5_search_49 : decode cX5_search 49 = .ok (.iload 6, 2) := by decide +kernel
theorem dX5_search_51 : decode cX5_search 51 = .ok (.iload 5, 2) := by decide +kernel
theorem dX5_search_53 : decode cX5_search 53 = .ok (.invokevirtual 162, 3) := by decide +kernel
theorem dX5_search_56 : decode cX5_search 56 = .ok (.ifCond .eq 41, 3) := by decide +kernel
theorem dX5_search_59 : decode cX5_search 59 = .ok (.iload_n 3, 1) := by decide +kernel
theorem dX5_search_60 : decode cX5_search 60 = .ok (.ifCond .ge 15, 3) := by decide +kernel
theorem dX5_search_63 : decode cX5_search 63 = .ok (.aload_n 0, 1) := by decide +kernel
theorem dX5_search_64 : decode cX5_search 64 = .ok (.iload_n 1, 1) := by decide +kernel
theorem dX5_search_65 : decode cX5_search 65 = .ok (.iload_n 2, 1) := by decide +kernel
theorem dX5_search_66 : decode cX5_search 66 = .ok (.invokevirtual 165, 3) := by decide +kernel
theorem dX5_search_69 : decode cX5_search 69 = .ok (.ifCond .eq 28, 3) := by decide +kernel
theorem dX5_search_72 : decode cX5_search 72 = .ok (.goto 13, 3) := by decide +kernel
theorem dX5_search_75 : decode cX5_search 75 = .ok (.aload_n 0, 1) := by decide +kernel
theorem dX5_search_76 : decode cX5_search 76 = .ok (.iload_n 3, 1) := by decide +kernel
theorem dX5_search_77 : decode cX5_search 77 = .ok (.iload 4, 2) := by decide +kernel
theorem dX5_search_79 : decode cX5_search 79 = .ok (.invokevirtual 168, 3) := by decide +kernel
theorem dX5_search_82 : decode cX5_search 82 = .ok (.ifCond .eq 15, 3) := by decide +kernel
theorem dX5_search_85 : decode cX5_search 85 = .ok (.aload_n 0, 1) := by decide +kernel
theorem dX5_search_86 : decode cX5_search 86 = .ok (.iload 5, 2) := by decide +kernel
end
section
theorem dX5_search_88 : decode cX5_search 88 = .ok (.putfield 159, 3) := by decide +kernel
theorem dX5_search_91 : decode cX5_search 91 = .ok (.aload_n 0, 1) := by decide +kernel
theorem dX5_search_92 : decode cX5_search 92 = .ok (.iload 6, 2) := by decide +kernel
theorem dX5_search_94 : decode cX5_search 94 = .ok (.putfield 171, 3) := by decide +kernel
theorem dX5_search_97 : decode cX5_search 97 = .ok (.aload_n 0, 1) := by decide +kernel
theorem dX5_search_98 : decode cX5_search 98 = .ok (.invokevirtual 147, 3) := by decide +kernel
theorem dX5_search_101 : decode cX5_search 101 = .ok (.iinc 6 1, 3) := by decide +kernel
theorem dX5_search_104 : decode cX5_search 104 = .ok (.goto (-74), 3) := by decide +kernel
theorem dX5_search_107 : decode cX5_search 107 = .ok (.iinc 5 1, 3) := by decide +kernel
theorem dX5_search_110 : decode cX5_search 110 = .ok (.goto (-97), 3) := by decide +kernel
theorem dX5_search_113 : decode cX5_search 113 = .ok (.return_, 1) := by decide +kernel
theorem dX5_tells_0 : decode cX5_tells 0 = .ok (.aload_n 0, 1) := by decide +kernel
theorem dX5_tells_1 : decode cX5_tells 1 = .ok (.getfield 159, 3) := by decide +kernel
theorem dX5_tells_4 : decode cX5_tells 4 = .ok (.ifCond .lt 11, 3) := by decide +kernel
theorem dX5_tells_7 : decode cX5_tells 7 = .ok (.iload_n 1, 1) := by decide +kernel
theorem dX5_tells_8 : decode cX5_tells 8 = .ok (.aload_n 0, 1) := by decide +kernel
theorem dX5_tells_9 : decode cX5_tells 9 = .ok (.getfield 159, 3) := by decide +kernel
theorem dX5_tells_12 : decode cX5_tells 12 = .ok (.if_icmp .lt 6, 3) := by decide +kernel
theorem dX5_tells_15 : decode cX5_tells 15 = .ok (.bipush (-4), 2) := by decide +kernel
theorem dX5_tells_17 : decode cX5_tells 17 = .ok (.ireturn, 1) := by decide +kernel
theorem dX5_tells_18 : decode cX5_tells 18 = .ok (.iload_n 1, 1) := by decide +kernel
theorem dX5_tells_19 : decode cX5_tells 19 = .ok (.ifCond .ge 10, 3) := by decide +kernel
theorem dX5_tells_22 : decode cX5_tells 22 = .ok (.aload_n 0, 1) := by decide +kernel
theorem dX5_tells_23 : decode cX5_tells 23 = .ok (.getfield 159, 3) := by decide +kernel
theorem dX5_tells_26 : decode cX5_tells 26 = .ok (.goto 22, 3) := by decide +kernel
theorem dX5_tells_29 : decode cX5_tells 29 = .ok (.aload_n 0, 1) := by decide +kernel
theorem dX5_tells_30 : decode cX5_tells 30 = .ok (.getfield 171, 3) := by decide +kernel
theorem dX5_tells_33 : decode cX5_tells 33 = .ok (.iconst 3, 1) := by decide +kernel
theorem dX5_tells_34 : decode cX5_tells 34 = .ok (.aload_n 0, 1) := by decide +kernel
theorem dX5_tells_35 : decode cX5_tells 35 = .ok (.getfield 159, 3) := by decide +kernel
theorem dX5_tells_38 : decode cX5_tells 38 = .ok (.iconst 1, 1) := by decide +kernel
theorem dX5_tells_39 : decode cX5_tells 39 = .ok (.isub, 1) := by decide +kernel
theorem dX5_tells_40 : decode cX5_tells 40 = .ok (.iload_n 1, 1) := by decide +kernel
theorem dX5_tells_41 : decode cX5_tells 41 = .ok (.isub, 1) := by decide +kernel
theorem dX5_tells_42 : decode cX5_tells 42 = .ok (.invokestatic 156, 3) := by decide +kernel
theorem dX5_tells_45 : decode cX5_tells 45 = .ok (.idiv, 1) := by decide +kernel
theorem dX5_tells_46 : decode cX5_tells 46 = .ok (.iconst 3, 1) := by decide +kernel
theorem dX5_tells_47 : decode cX5_tells 47 = .ok (.irem, 1) := by decide +kernel
theorem dX5_tells_48 : decode cX5_tells 48 = .ok (.ireturn, 1) := by decide +kernel
theorem dX5_isPlaceOfRow_0 : decode cX5_isPlaceOfRow 0 = .ok (.iload_n 0, 1) := by decide +kernel
theorem dX5_isPlaceOfRow_1 : decode cX5_isPlaceOfRow 1 = .ok (.i2l, 1) := by decide +kernel
theorem dX5_isPlaceOfRow_2 : decode cX5_isPlaceOfRow 2 = .ok (.ldc2_w 174, 3) := by decide +kernel
theorem dX5_isPlaceOfRow_5 : decode cX5_isPlaceOfRow 5 = .ok (.ldc2_w 176, 3) := by decide +kernel
theorem dX5_isPlaceOfRow_8 : decode cX5_isPlaceOfRow 8 = .ok (.invokestatic 62, 3) := by decide +kernel
theorem dX5_isPlaceOfRow_11 : decode cX5_isPlaceOfRow 11 = .ok (.ireturn, 1) := by decide +kernel
theorem dX5_free_0 : decode cX5_free 0 = .ok (.iload_n 1, 1) := by decide +kernel
theorem dX5_free_1 : decode cX5_free 1 = .ok (.invokestatic 178, 3) := by decide +kernel
theorem dX5_free_4 : decode cX5_free 4 = .ok (.ifCond .ne 5, 3) := by decide +kernel
theorem dX5_free_7 : decode cX5_free 7 = .ok (.iconst (-1), 1) := by decide +kernel
theorem dX5_free_8 : decode cX5_free 8 = .ok (.ireturn, 1) := by decide +kernel
theorem dX5_free_9 : decode cX5_free 9 = .ok (.aload_n 0, 1) := by decide +kernel
theorem dX5_free_10 : decode cX5_free 10 = .ok (.iconst 0, 1) := by decide +kernel
theorem dX5_free_11 : decode cX5_free 11 = .ok (.iconst 1, 1) := by decide +kernel
theorem dX5_free_12 : decode cX5_free 12 = .ok (.iconst (-1), 1) := by decide +kernel
theorem dX5_free_13 : decode cX5_free 13 = .ok (.iconst (-1), 1) := by decide +kernel
theorem dX5_free_14 : decode cX5_free 14 = .ok (.invokevirtual 181, 3) := by decide +kernel
theorem dX5_free_17 : decode cX5_free 17 = .ok (.aload_n 0, 1) := by decide +kernel
theorem dX5_free_18 : decode cX5_free 18 = .ok (.iload_n 1, 1) := by decide +kernel
theorem dX5_free_19 : decode cX5_free 19 = .ok (.invokevirtual 185, 3) := by decide +kernel
theorem dX5_free_22 : decode cX5_free 22 = .ok (.ireturn, 1) := by decide +kernel
theorem dX5_isFraction_0 : decode cX5_isFraction 0 = .ok (.iload_n 0, 1) := by decide +kernel
theorem dX5_isFraction_1 : decode cX5_isFraction 1 = .ok (.i2l, 1) := by decide +kernel
theorem dX5_isFraction_2 : decode cX5_isFraction 2 = .ok (.ldc2_w 188, 3) := by decide +kernel
theorem dX5_isFraction_5 : decode cX5_isFraction 5 = .ok (.ldc2_w 190, 3) := by decide +kernel
theorem dX5_isFraction_8 : decode cX5_isFraction 8 = .ok (.invokestatic 62, 3) := by decide +kernel
theorem dX5_isFraction_11 : decode cX5_isFraction 11 = .ok (.ifCond .eq 40, 3) := by decide +kernel
theorem dX5_isFraction_14 : decode cX5_isFraction 14 = .ok (.iload_n 1, 1) := by decide +kernel
theorem dX5_isFraction_15 : decode cX5_isFraction 15 = .ok (.i2l, 1) := by decide +kernel
theorem dX5_isFraction_16 : decode cX5_isFraction 16 = .ok (.lconst 0, 1) := by decide +kernel
theorem dX5_isFraction_17 : decode cX5_isFraction 17 = .ok (.ldc2_w 190, 3) := by decide +kernel
theorem dX5_isFraction_20 : decode cX5_isFraction 20 = .ok (.invokestatic 62, 3) := by decide +kernel
theorem dX5_isFraction_23 : decode cX5_isFraction 23 = .ok (.ifCond .eq 28, 3) := by decide +kernel
theorem dX5_isFraction_26 : decode cX5_isFraction 26 = .ok (.iload_n 1, 1) := by decide +kernel
theorem dX5_isFraction_27 : decode cX5_isFraction 27 = .ok (.ifCond .le 15, 3) := by decide +kernel
theorem dX5_isFraction_30 : decode cX5_isFraction 30 = .ok (.iload_n 0, 1) := by decide +kernel
theorem dX5_isFraction_31 : decode cX5_isFraction 31 = .ok (.iload_n 1, 1) := by decide +kernel
theorem dX5_isFraction_32 : decode cX5_isFraction 32 = .ok (.invokestatic 192, 3) := by decide +kernel
theorem dX5_isFraction_35 : decode cX5_isFraction 35 = .ok (.iconst 1, 1) := by decide +kernel
theorem dX5_isFraction_36 : decode cX5_isFraction 36 = .ok (.if_icmp .ne 15, 3) := by decide +kernel
theorem dX5_isFraction_39 : decode cX5_isFraction 39 = .ok (.goto 8, 3) := by decide +kernel
theorem dX5_isFraction_42 : decode cX5_isFraction 42 = .ok (.iload_n 0, 1) := by decide +kernel
theorem dX5_isFraction_43 : decode cX5_isFraction 43 = .ok (.iconst 1, 1) := by decide +kernel
theorem dX5_isFraction_44 : decode cX5_isFraction 44 = .ok (.if_icmp .ne 7, 3) := by decide +kernel
theorem dX5_isFraction_47 : decode cX5_isFraction 47 = .ok (.iconst 1, 1) := by decide +kernel
theorem dX5_isFraction_48 : decode cX5_isFraction 48 = .ok (.goto 4, 3) := by decide +kernel
theorem dX5_isFraction_51 : decode cX5_isFraction 51 = .ok (.iconst 0, 1) := by decide +kernel
theorem dX5_isFraction_52 : decode cX5_isFraction 52 = .ok (.ireturn, 1) := by decide +kernel
theorem dX5_reach_0 : decode cX5_reach 0 = .ok (.iload_n 1, 1) := by decide +kernel
theorem dX5_reach_1 : decode cX5_reach 1 = .ok (.iload_n 2, 1) := by decide +kernel
theorem dX5_reach_2 : decode cX5_reach 2 = .ok (.invokestatic 195, 3) := by decide +kernel
theorem dX5_reach_5 : decode cX5_reach 5 = .ok (.ifCond .eq 10, 3) := by decide +kernel
theorem dX5_reach_8 : decode cX5_reach 8 = .ok (.iload_n 3, 1) := by decide +kernel
theorem dX5_reach_9 : decode cX5_reach 9 = .ok (.invokestatic 178, 3) := by decide +kernel
theorem dX5_reach_12 : decode cX5_reach 12 = .ok (.ifCond .ne 5, 3) := by decide +kernel
theorem dX5_reach_15 : decode cX5_reach 15 = .ok (.iconst (-1), 1) := by decide +kernel
theorem dX5_reach_16 : decode cX5_reach 16 = .ok (.ireturn, 1) := by decide +kernel
theorem dX5_reach_17 : decode cX5_reach 17 = .ok (.aload_n 0, 1) := by decide +kernel
theorem dX5_reach_18 : decode cX5_reach 18 = .ok (.iload_n 1, 1) := by decide +kernel
theorem dX5_reach_19 : decode cX5_reach 19 = .ok (.iload_n 2, 1) := by decide +kernel
theorem dX5_reach_20 : decode cX5_reach 20 = .ok (.iconst (-1), 1) := by decide +kernel
theorem dX5_reach_21 : decode cX5_reach 21 = .ok (.iconst (-1), 1) := by decide +kernel
theorem dX5_reach_22 : decode cX5_reach 22 = .ok (.invokevirtual 181, 3) := by decide +kernel
theorem dX5_reach_25 : decode cX5_reach 25 = .ok (.aload_n 0, 1) := by decide +kernel
theorem dX5_reach_26 : decode cX5_reach 26 = .ok (.iload_n 3, 1) := by decide +kernel
theorem dX5_reach_27 : decode cX5_reach 27 = .ok (.invokevirtual 185, 3) := by decide +kernel
theorem dX5_reach_30 : decode cX5_reach 30 = .ok (.ireturn, 1) := by decide +kernel
theorem dX5_meet_0 : decode cX5_meet 0 = .ok (.iload_n 1, 1) := by decide +kernel
theorem dX5_meet_1 : decode cX5_meet 1 = .ok (.invokestatic 105, 3) := by decide +kernel
theorem dX5_meet_4 : decode cX5_meet 4 = .ok (.ifCond .eq 22, 3) := by decide +kernel
theorem dX5_meet_7 : decode cX5_meet 7 = .ok (.iload_n 2, 1) := by decide +kernel
theorem dX5_meet_8 : decode cX5_meet 8 = .ok (.invokestatic 105, 3) := by decide +kernel
theorem dX5_meet_11 : decode cX5_meet 11 = .ok (.ifCond .eq 15, 3) := by decide +kernel
theorem dX5_meet_14 : decode cX5_meet 14 = .ok (.iload_n 1, 1) := by decide +kernel
theorem dX5_meet_15 : decode cX5_meet 15 = .ok (.iload_n 2, 1) := by decide +kernel
theorem dX5_meet_16 : decode cX5_meet 16 = .ok (.if_icmp .eq 10, 3) := by decide +kernel
theorem dX5_meet_19 : decode cX5_meet 19 = .ok (.iload_n 3, 1) := by decide +kernel
theorem dX5_meet_20 : decode cX5_meet 20 = .ok (.invokestatic 178, 3) := by decide +kernel
theorem dX5_meet_23 : decode cX5_meet 23 = .ok (.ifCond .ne 5, 3) := by decide +kernel
theorem dX5_meet_26 : decode cX5_meet 26 = .ok (.iconst (-1), 1) := by decide +kernel
theorem dX5_meet_27 : decode cX5_meet 27 = .ok (.ireturn, 1) := by decide +kernel
theorem dX5_meet_28 : decode cX5_meet 28 = .ok (.aload_n 0, 1) := by decide +kernel
theorem dX5_meet_29 : decode cX5_meet 29 = .ok (.iconst 0, 1) := by decide +kernel
theorem dX5_meet_30 : decode cX5_meet 30 = .ok (.iconst 1, 1) := by decide +kernel
theorem dX5_meet_31 : decode cX5_meet 31 = .ok (.iload_n 1, 1) := by decide +kernel
theorem dX5_meet_32 : decode cX5_meet 32 = .ok (.iload_n 2, 1) := by decide +kernel
theorem dX5_meet_33 : decode cX5_meet 33 = .ok (.invokevirtual 181, 3) := by decide +kernel
theorem dX5_meet_36 : decode cX5_meet 36 = .ok (.aload_n 0, 1) := by decide +kernel
theorem dX5_meet_37 : decode cX5_meet 37 = .ok (.iload_n 3, 1) := by decide +kernel
theorem dX5_meet_38 : decode cX5_meet 38 = .ok (.invokevirtual 185, 3) := by decide +kernel
theorem dX5_meet_41 : decode cX5_meet 41 = .ok (.ireturn, 1) := by decide +kernel
theorem dX5_ways_0 : decode cX5_ways 0 = .ok (.iload_n 1, 1) := by decide +kernel
theorem dX5_ways_1 : decode cX5_ways 1 = .ok (.i2l, 1) := by decide +kernel
theorem dX5_ways_2 : decode cX5_ways 2 = .ok (.lconst 0, 1) := by decide +kernel
theorem dX5_ways_3 : decode cX5_ways 3 = .ok (.ldc2_w 198, 3) := by decide +kernel
theorem dX5_ways_6 : decode cX5_ways 6 = .ok (.invokestatic 62, 3) := by decide +kernel
theorem dX5_ways_9 : decode cX5_ways 9 = .ok (.ifCond .ne 5, 3) := by decide +kernel
theorem dX5_ways_12 : decode cX5_ways 12 = .ok (.iconst (-1), 1) := by decide +kernel
theorem dX5_ways_13 : decode cX5_ways 13 = .ok (.ireturn, 1) := by decide +kernel
theorem dX5_ways_14 : decode cX5_ways 14 = .ok (.aload_n 0, 1) := by decide +kernel
theorem dX5_ways_15 : decode cX5_ways 15 = .ok (.invokevirtual 141, 3) := by decide +kernel
theorem dX5_ways_18 : decode cX5_ways 18 = .ok (.iconst 0, 1) := by decide +kernel
theorem dX5_ways_19 : decode cX5_ways 19 = .ok (.istore_n 2, 1) := by decide +kernel
theorem dX5_ways_20 : decode cX5_ways 20 = .ok (.iconst 0, 1) := by decide +kernel
theorem dX5_ways_21 : decode cX5_ways 21 = .ok (.istore_n 3, 1) := by decide +kernel
theorem dX5_ways_22 : decode cX5_ways 22 = .ok (.iload_n 3, 1) := by decide +kernel
theorem dX5_ways_23 : decode cX5_ways 23 = .ok (.iconst 3, 1) := by decide +kernel
theorem dX5_ways_24 : decode cX5_ways 24 = .ok (.iload_n 1, 1) := by decide +kernel
theorem dX5_ways_25 : decode cX5_ways 25 = .ok (.invokestatic 156, 3) := by decide +kernel
theorem dX5_ways_28 : decode cX5_ways 28 = .ok (.if_icmp .ge 40, 3) := by decide +kernel
theorem dX5_ways_31 : decode cX5_ways 31 = .ok (.iload_n 2, 1) := by decide +kernel
theorem dX5_ways_32 : decode cX5_ways 32 = .ok (.aload_n 0, 1) := by decide +kernel
theorem dX5_ways_33 : decode cX5_ways 33 = .ok (.iload_n 3, 1) := by decide +kernel
theorem dX5_ways_34 : decode cX5_ways 34 = .ok (.iload_n 1, 1) := by decide +kernel
theorem dX5_ways_35 : decode cX5_ways 35 = .ok (.invokevirtual 162, 3) := by decide +kernel
theorem dX5_ways_38 : decode cX5_ways 38 = .ok (.ifCond .eq 17, 3) := by decide +kernel
theorem dX5_ways_41 : decode cX5_ways 41 = .ok (.aload_n 0, 1) := by decide +kernel
theorem dX5_ways_42 : decode cX5_ways 42 = .ok (.getfield 19, 3) := by decide +kernel
theorem dX5_ways_45 : decode cX5_ways 45 = .ok (.bipush 8, 2) := by decide +kernel
theorem dX5_ways_47 : decode cX5_ways 47 = .ok (.iaload, 1) := by decide +kernel
theorem dX5_ways_48 : decode cX5_ways 48 = .ok (.ifCond .ne 7, 3) := by decide +kernel
theorem dX5_ways_51 : decode cX5_ways 51 = .ok (.iconst 1, 1) := by decide +kernel
theorem dX5_ways_52 : decode cX5_ways 52 = .ok (.goto 4, 3) := by decide +kernel
theorem dX5_ways_55 : decode cX5_ways 55 = .ok (.iconst 0, 1) := by decide +kernel
theorem dX5_ways_56 : decode cX5_ways 56 = .ok (.iadd, 1) := by decide +kernel
theorem dX5_ways_57 : decode cX5_ways 57 = .ok (.istore_n 2, 1) := by decide +kernel
theorem dX5_ways_58 : decode cX5_ways 58 = .ok (.aload_n 0, 1) := by decide +kernel
theorem dX5_ways_59 : decode cX5_ways 59 = .ok (.invokevirtual 147, 3) := by decide +kernel
theorem dX5_ways_62 : decode cX5_ways 62 = .ok (.iinc 3 1, 3) := by decide +kernel
theorem dX5_ways_65 : decode cX5_ways 65 = .ok (.goto (-43), 3) := by decide +kernel
theorem dX5_ways_68 : decode cX5_ways 68 = .ok (.iload_n 2, 1) := by decide +kernel
theorem dX5_ways_69 : decode cX5_ways 69 = .ok (.ireturn, 1) := by decide +kernel
theorem dX5_plain_0 : decode cX5_plain 0 = .ok (.aload_n 0, 1) := by decide +kernel
theorem dX5_plain_1 : decode cX5_plain 1 = .ok (.invokevirtual 141, 3) := by decide +kernel
theorem dX5_plain_4 : decode cX5_plain 4 = .ok (.iconst 0, 1) := by decide +kernel
theorem dX5_plain_5 : decode cX5_plain 5 = .ok (.istore_n 1, 1) := by decide +kernel
theorem dX5_plain_6 : decode cX5_plain 6 = .ok (.iconst 1, 1) := by decide +kernel
theorem dX5_plain_7 : decode cX5_plain 7 = .ok (.istore_n 2, 1) := by decide +kernel
theorem dX5_plain_8 : decode cX5_plain 8 = .ok (.iload_n 2, 1) := by decide +kernel
theorem dX5_plain_9 : decode cX5_plain 9 = .ok (.ifCond .eq 45, 3) := by decide +kernel
theorem dX5_plain_12 : decode cX5_plain 12 = .ok (.aload_n 0, 1) := by decide +kernel
theorem dX5_plain_13 : decode cX5_plain 13 = .ok (.getfield 19, 3) := by decide +kernel
theorem dX5_plain_16 : decode cX5_plain 16 = .ok (.bipush 8, 2) := by decide +kernel
theorem dX5_plain_18 : decode cX5_plain 18 = .ok (.iaload, 1) := by decide +kernel
theorem dX5_plain_19 : decode cX5_plain 19 = .ok (.ifCond .eq 35, 3) := by decide +kernel
theorem dX5_plain_22 : decode cX5_plain 22 = .ok (.iload_n 1, 1) := by decide +kernel
theorem dX5_plain_23 : decode cX5_plain 23 = .ok (.bipush 60, 2) := by decide +kernel
theorem dX5_plain_25 : decode cX5_plain 25 = .ok (.if_icmp .ge 29, 3) := by decide +kernel
theorem dX5_plain_28 : decode cX5_plain 28 = .ok (.aload_n 0, 1) := by decide +kernel
theorem dX5_plain_29 : decode cX5_plain 29 = .ok (.aload_n 0, 1) := by decide +kernel
theorem dX5_plain_30 : decode cX5_plain 30 = .ok (.getfield 19, 3) := by decide +kernel
theorem dX5_plain_33 : decode cX5_plain 33 = .ok (.bipush 8, 2) := by decide +kernel
theorem dX5_plain_35 : decode cX5_plain 35 = .ok (.iaload, 1) := by decide +kernel
theorem dX5_plain_36 : decode cX5_plain 36 = .ok (.ifCond .ge 7, 3) := by decide +kernel
theorem dX5_plain_39 : decode cX5_plain 39 = .ok (.iconst 0, 1) := by decide +kernel
theorem dX5_plain_40 : decode cX5_plain 40 = .ok (.goto 4, 3) := by decide +kernel
theorem dX5_plain_43 : decode cX5_plain 43 = .ok (.iconst 2, 1) := by decide +kernel
theorem dX5_plain_44 : decode cX5_plain 44 = .ok (.invokevirtual 144, 3) := by decide +kernel
theorem dX5_plain_47 : decode cX5_plain 47 = .ok (.istore_n 2, 1) := by decide +kernel
theorem dX5_plain_48 : decode cX5_plain 48 = .ok (.iinc 1 1, 3) := by decide +kernel
theorem dX5_plain_51 : decode cX5_plain 51 = .ok (.goto (-43), 3) := by decide +kernel
theorem dX5_plain_54 : decode cX5_plain 54 = .ok (.iload_n 2, 1) := by decide +kernel
theorem dX5_plain_55 : decode cX5_plain 55 = .ok (.ifCond .eq 17, 3) := by decide +kernel
theorem dX5_plain_58 : decode cX5_plain 58 = .ok (.aload_n 0, 1) := by decide +kernel
theorem dX5_plain_59 : decode cX5_plain 59 = .ok (.getfield 19, 3) := by decide +kernel
theorem dX5_plain_62 : decode cX5_plain 62 = .ok (.bipush 8, 2) := by decide +kernel
theorem dX5_plain_64 : decode cX5_plain 64 = .ok (.iaload, 1) := by decide +kernel
theorem dX5_plain_65 : decode cX5_plain 65 = .ok (.ifCond .ne 7, 3) := by decide +kernel
theorem dX5_plain_68 : decode cX5_plain 68 = .ok (.iconst 1, 1) := by decide +kernel
theorem dX5_plain_69 : decode cX5_plain 69 = .ok (.goto 4, 3) := by decide +kernel
theorem dX5_plain_72 : decode cX5_plain 72 = .ok (.iconst 0, 1) := by decide +kernel
theorem dX5_plain_73 : decode cX5_plain 73 = .ok (.istore_n 3, 1) := by decide +kernel
theorem dX5_plain_74 : decode cX5_plain 74 = .ok (.aload_n 0, 1) := by decide +kernel
theorem dX5_plain_75 : decode cX5_plain 75 = .ok (.invokevirtual 147, 3) := by decide +kernel
theorem dX5_plain_78 : decode cX5_plain 78 = .ok (.iload_n 3, 1) := by decide +kernel
theorem dX5_plain_79 : decode cX5_plain 79 = .ok (.ifCond .eq 7, 3) := by decide +kernel
theorem dX5_plain_82 : decode cX5_plain 82 = .ok (.iload_n 1, 1) := by decide +kernel
theorem dX5_plain_83 : decode cX5_plain 83 = .ok (.goto 5, 3) := by decide +kernel
theorem dX5_plain_86 : decode cX5_plain 86 = .ok (.bipush (-4), 2) := by decide +kernel
theorem dX5_plain_88 : decode cX5_plain 88 = .ok (.ireturn, 1) := by decide +kernel
theorem dX5_dancesOn_0 : decode cX5_dancesOn 0 = .ok (.iload_n 1, 1) := by decide +kernel
theorem dX5_dancesOn_1 : decode cX5_dancesOn 1 = .ok (.aload_n 0, 1) := by decide +kernel
theorem dX5_dancesOn_2 : decode cX5_dancesOn 2 = .ok (.getfield 55, 3) := by decide +kernel
theorem dX5_dancesOn_5 : decode cX5_dancesOn 5 = .ok (.if_icmp .ge 7, 3) := by decide +kernel
theorem dX5_dancesOn_8 : decode cX5_dancesOn 8 = .ok (.iload_n 1, 1) := by decide +kernel
theorem dX5_dancesOn_9 : decode cX5_dancesOn 9 = .ok (.goto 7, 3) := by decide +kernel
theorem dX5_dancesOn_12 : decode cX5_dancesOn 12 = .ok (.aload_n 0, 1) := by decide +kernel
theorem dX5_dancesOn_13 : decode cX5_dancesOn 13 = .ok (.getfield 55, 3) := by decide +kernel
theorem dX5_dancesOn_16 : decode cX5_dancesOn 16 = .ok (.istore_n 2, 1) := by decide +kernel
theorem dX5_dancesOn_17 : decode cX5_dancesOn 17 = .ok (.iconst 0, 1) := by decide +kernel
theorem dX5_dancesOn_18 : decode cX5_dancesOn 18 = .ok (.istore_n 3, 1) := by decide +kernel
theorem dX5_dancesOn_19 : decode cX5_dancesOn 19 = .ok (.iload_n 3, 1) := by decide +kernel
theorem dX5_dancesOn_20 : decode cX5_dancesOn 20 = .ok (.iload_n 2, 1) := by decide +kernel
theorem dX5_dancesOn_21 : decode cX5_dancesOn 21 = .ok (.if_icmp .ge 22, 3) := by decide +kernel
theorem dX5_dancesOn_24 : decode cX5_dancesOn 24 = .ok (.aload_n 0, 1) := by decide +kernel
theorem dX5_dancesOn_25 : decode cX5_dancesOn 25 = .ok (.aload_n 0, 1) := by decide +kernel
theorem dX5_dancesOn_26 : decode cX5_dancesOn 26 = .ok (.getfield 16, 3) := by decide +kernel
theorem dX5_dancesOn_29 : decode cX5_dancesOn 29 = .ok (.iload_n 3, 1) := by decide +kernel
theorem dX5_dancesOn_30 : decode cX5_dancesOn 30 = .ok (.iaload, 1) := by decide +kernel
theorem dX5_dancesOn_31 : decode cX5_dancesOn 31 = .ok (.invokevirtual 144, 3) := by decide +kernel
theorem dX5_dancesOn_34 : decode cX5_dancesOn 34 = .ok (.ifCond .eq 9, 3) := by decide +kernel
theorem dX5_dancesOn_37 : decode cX5_dancesOn 37 = .ok (.iinc 3 1, 3) := by decide +kernel
theorem dX5_dancesOn_40 : decode cX5_dancesOn 40 = .ok (.goto (-21), 3) := by decide +kernel
theorem dX5_dancesOn_43 : decode cX5_dancesOn 43 = .ok (.iload_n 3, 1) := by decide +kernel
theorem dX5_dancesOn_44 : decode cX5_dancesOn 44 = .ok (.ireturn, 1) := by decide +kernel
theorem dX5_dancesFirst_0 : decode cX5_dancesFirst 0 = .ok (.aload_n 0, 1) := by decide +kernel
theorem dX5_dancesFirst_1 : decode cX5_dancesFirst 1 = .ok (.iload_n 1, 1) := by decide +kernel
theorem dX5_dancesFirst_2 : decode cX5_dancesFirst 2 = .ok (.invokevirtual 200, 3) := by decide +kernel
theorem dX5_dancesFirst_5 : decode cX5_dancesFirst 5 = .ok (.iload_n 1, 1) := by decide +kernel
theorem dX5_dancesFirst_6 : decode cX5_dancesFirst 6 = .ok (.aload_n 0, 1) := by decide +kernel
theorem dX5_dancesFirst_7 : decode cX5_dancesFirst 7 = .ok (.getfield 55, 3) := by decide +kernel
theorem dX5_dancesFirst_10 : decode cX5_dancesFirst 10 = .ok (.if_icmp .ge 7, 3) := by decide +kernel
theorem dX5_dancesFirst_13 : decode cX5_dancesFirst 13 = .ok (.iload_n 1, 1) := by decide +kernel
theorem dX5_dancesFirst_14 : decode cX5_dancesFirst 14 = .ok (.goto 7, 3) := by decide +kernel
theorem dX5_dancesFirst_17 : decode cX5_dancesFirst 17 = .ok (.aload_n 0, 1) := by decide +kernel
theorem dX5_dancesFirst_18 : decode cX5_dancesFirst 18 = .ok (.getfield 55, 3) := by decide +kernel
theorem dX5_dancesFirst_21 : decode cX5_dancesFirst 21 = .ok (.if_icmp .ne 7, 3) := by decide +kernel
theorem dX5_dancesFirst_24 : decode cX5_dancesFirst 24 = .ok (.iconst 1, 1) := by decide +kernel
theorem dX5_dancesFirst_25 : decode cX5_dancesFirst 25 = .ok (.goto 4, 3) := by decide +kernel
theorem dX5_dancesFirst_28 : decode cX5_dancesFirst 28 = .ok (.iconst 0, 1) := by decide +kernel
theorem dX5_dancesFirst_29 : decode cX5_dancesFirst 29 = .ok (.ireturn, 1) := by decide +kernel
theorem dX5_comes_0 : decode cX5_comes 0 = .ok (.iload_n 1, 1) := by decide +kernel
theorem dX5_comes_1 : decode cX5_comes 1 = .ok (.invokestatic 114, 3) := by decide +kernel
theorem dX5_comes_4 : decode cX5_comes 4 = .ok (.ifCond .ne 5, 3) := by decide +kernel
theorem dX5_comes_7 : decode cX5_comes 7 = .ok (.iconst (-1), 1) := by decide +kernel
theorem dX5_comes_8 : decode cX5_comes 8 = .ok (.ireturn, 1) := by decide +kernel
theorem dX5_comes_9 : decode cX5_comes 9 = .ok (.aload_n 0, 1) := by decide +kernel
theorem dX5_comes_10 : decode cX5_comes 10 = .ok (.invokevirtual 141, 3) := by decide +kernel
theorem dX5_comes_13 : decode cX5_comes 13 = .ok (.aload_n 0, 1) := by decide +kernel
theorem dX5_comes_14 : decode cX5_comes 14 = .ok (.bipush 12, 2) := by decide +kernel
theorem dX5_comes_16 : decode cX5_comes 16 = .ok (.invokevirtual 200, 3) := by decide +kernel
theorem dX5_comes_19 : decode cX5_comes 19 = .ok (.istore_n 2, 1) := by decide +kernel
theorem dX5_comes_20 : decode cX5_comes 20 = .ok (.aload_n 0, 1) := by decide +kernel
theorem dX5_comes_21 : decode cX5_comes 21 = .ok (.getfield 19, 3) := by decide +kernel
theorem dX5_comes_24 : decode cX5_comes 24 = .ok (.iconst 0, 1) := by decide +kernel
theorem dX5_comes_25 : decode cX5_comes 25 = .ok (.iaload, 1) := by decide +kernel
theorem dX5_comes_26 : decode cX5_comes 26 = .ok (.istore_n 3, 1) := by decide +kernel
theorem dX5_comes_27 : decode cX5_comes 27 = .ok (.aload_n 0, 1) := by decide +kernel
theorem dX5_comes_28 : decode cX5_comes 28 = .ok (.invokevirtual 147, 3) := by decide +kernel
theorem dX5_comes_31 : decode cX5_comes 31 = .ok (.iload_n 1, 1) := by decide +kernel
theorem dX5_comes_32 : decode cX5_comes 32 = .ok (.ifCond .ne 7, 3) := by decide +kernel
theorem dX5_comes_35 : decode cX5_comes 35 = .ok (.iload_n 2, 1) := by decide +kernel
theorem dX5_comes_36 : decode cX5_comes 36 = .ok (.goto 4, 3) := by decide +kernel
theorem dX5_comes_39 : decode cX5_comes 39 = .ok (.iload_n 3, 1) := by decide +kernel
theorem dX5_comes_40 : decode cX5_comes 40 = .ok (.ireturn, 1) := by decide +kernel
theorem dX5_behind_0 : decode cX5_behind 0 = .ok (.iload_n 1, 1) := by decide +kernel
theorem dX5_behind_1 : decode cX5_behind 1 = .ok (.i2l, 1) := by decide +kernel
theorem dX5_behind_2 : decode cX5_behind 2 = .ok (.lconst 0, 1) := by decide +kernel
theorem dX5_behind_3 : decode cX5_behind 3 = .ok (.ldc2_w 203, 3) := by decide +kernel
theorem dX5_behind_6 : decode cX5_behind 6 = .ok (.invokestatic 62, 3) := by decide +kernel
theorem dX5_behind_9 : decode cX5_behind 9 = .ok (.ifCond .eq 10, 3) := by decide +kernel
theorem dX5_behind_12 : decode cX5_behind 12 = .ok (.iload_n 2, 1) := by decide +kernel
theorem dX5_behind_13 : decode cX5_behind 13 = .ok (.invokestatic 114, 3) := by decide +kernel
theorem dX5_behind_16 : decode cX5_behind 16 = .ok (.ifCond .ne 6, 3) := by decide +kernel
theorem dX5_behind_19 : decode cX5_behind 19 = .ok (.ldc 117, 2) := by decide +kernel
theorem dX5_behind_21 : decode cX5_behind 21 = .ok (.ireturn, 1) := by decide +kernel
theorem dX5_behind_22 : decode cX5_behind 22 = .ok (.aload_n 0, 1) := by decide +kernel
theorem dX5_behind_23 : decode cX5_behind 23 = .ok (.invokevirtual 141, 3) := by decide +kernel
theorem dX5_behind_26 : decode cX5_behind 26 = .ok (.aload_n 0, 1) := by decide +kernel
theorem dX5_behind_27 : decode cX5_behind 27 = .ok (.iload_n 1, 1) := by decide +kernel
theorem dX5_behind_28 : decode cX5_behind 28 = .ok (.invokevirtual 205, 3) := by decide +kernel
theorem dX5_behind_31 : decode cX5_behind 31 = .ok (.ifCond .eq 15, 3) := by decide +kernel
theorem dX5_behind_34 : decode cX5_behind 34 = .ok (.aload_n 0, 1) := by decide +kernel
theorem dX5_behind_35 : decode cX5_behind 35 = .ok (.getfield 19, 3) := by decide +kernel
theorem dX5_behind_38 : decode cX5_behind 38 = .ok (.bipush 8, 2) := by decide +kernel
theorem dX5_behind_40 : decode cX5_behind 40 = .ok (.iload_n 2, 1) := by decide +kernel
theorem dX5_behind_41 : decode cX5_behind 41 = .ok (.iadd, 1) := by decide +kernel
theorem dX5_behind_42 : decode cX5_behind 42 = .ok (.iaload, 1) := by decide +kernel
theorem dX5_behind_43 : decode cX5_behind 43 = .ok (.goto 5, 3) := by decide +kernel
theorem dX5_behind_46 : decode cX5_behind 46 = .ok (.ldc 208, 2) := by decide +kernel
theorem dX5_behind_48 : decode cX5_behind 48 = .ok (.istore_n 3, 1) := by decide +kernel
theorem dX5_behind_49 : decode cX5_behind 49 = .ok (.aload_n 0, 1) := by decide +kernel
theorem dX5_behind_50 : decode cX5_behind 50 = .ok (.invokevirtual 147, 3) := by decide +kernel
theorem dX5_behind_53 : decode cX5_behind 53 = .ok (.iload_n 3, 1) := by decide +kernel
theorem dX5_behind_54 : decode cX5_behind 54 = .ok (.ireturn, 1) := by decide +kernel
theorem dX5_see_0 : decode cX5_see 0 = .ok (.iload_n 1, 1) := by decide +kernel
theorem dX5_see_1 : decode cX5_see 1 = .ok (.i2l, 1) := by decide +kernel
theorem dX5_see_2 : decode cX5_see 2 = .ok (.lconst 0, 1) := by decide +kernel
theorem dX5_see_3 : decode cX5_see 3 = .ok (.ldc2_w 203, 3) := by decide +kernel
theorem dX5_see_6 : decode cX5_see 6 = .ok (.invokestatic 62, 3) := by decide +kernel
theorem dX5_see_9 : decode cX5_see 9 = .ok (.ifCond .eq 11, 3) := by decide +kernel
theorem dX5_see_12 : decode cX5_see 12 = .ok (.iload_n 2, 1) := by decide +kernel
theorem dX5_see_13 : decode cX5_see 13 = .ok (.iload_n 3, 1) := by decide +kernel
theorem dX5_see_14 : decode cX5_see 14 = .ok (.invokestatic 195, 3) := by decide +kernel
theorem dX5_see_17 : decode cX5_see 17 = .ok (.ifCond .ne 5, 3) := by decide +kernel
theorem dX5_see_20 : decode cX5_see 20 = .ok (.iconst (-1), 1) := by decide +kernel
theorem dX5_see_21 : decode cX5_see 21 = .ok (.ireturn, 1) := by decide +kernel
theorem dX5_see_22 : decode cX5_see 22 = .ok (.aload_n 0, 1) := by decide +kernel
theorem dX5_see_23 : decode cX5_see 23 = .ok (.getfield 74, 3) := by decide +kernel
theorem dX5_see_26 : decode cX5_see 26 = .ok (.bipush 6, 2) := by decide +kernel
theorem dX5_see_28 : decode cX5_see 28 = .ok (.if_icmp .ne 6, 3) := by decide +kernel
theorem dX5_see_31 : decode cX5_see 31 = .ok (.bipush (-3), 2) := by decide +kernel
theorem dX5_see_33 : decode cX5_see 33 = .ok (.ireturn, 1) := by decide +kernel
theorem dX5_see_34 : decode cX5_see 34 = .ok (.aload_n 0, 1) := by decide +kernel
theorem dX5_see_35 : decode cX5_see 35 = .ok (.getfield 28, 3) := by decide +kernel
theorem dX5_see_38 : decode cX5_see 38 = .ok (.iconst 3, 1) := by decide +kernel
theorem dX5_see_39 : decode cX5_see 39 = .ok (.aload_n 0, 1) := by decide +kernel
theorem dX5_see_40 : decode cX5_see 40 = .ok (.getfield 74, 3) := by decide +kernel
theorem dX5_see_43 : decode cX5_see 43 = .ok (.imul, 1) := by decide +kernel
theorem dX5_see_44 : decode cX5_see 44 = .ok (.iload_n 1, 1) := by decide +kernel
theorem dX5_see_45 : decode cX5_see 45 = .ok (.iastore, 1) := by decide +kernel
theorem dX5_see_46 : decode cX5_see 46 = .ok (.aload_n 0, 1) := by decide +kernel
theorem dX5_see_47 : decode cX5_see 47 = .ok (.getfield 28, 3) := by decide +kernel
theorem dX5_see_50 : decode cX5_see 50 = .ok (.iconst 3, 1) := by decide +kernel
theorem dX5_see_51 : decode cX5_see 51 = .ok (.aload_n 0, 1) := by decide +kernel
theorem dX5_see_52 : decode cX5_see 52 = .ok (.getfield 74, 3) := by decide +kernel
theorem dX5_see_55 : decode cX5_see 55 = .ok (.imul, 1) := by decide +kernel
theorem dX5_see_56 : decode cX5_see 56 = .ok (.iconst 1, 1) := by decide +kernel
theorem dX5_see_57 : decode cX5_see 57 = .ok (.iadd, 1) := by decide +kernel
theorem dX5_see_58 : decode cX5_see 58 = .ok (.iload_n 2, 1) := by decide +kernel
theorem dX5_see_59 : decode cX5_see 59 = .ok (.iastore, 1) := by decide +kernel
theorem dX5_see_60 : decode cX5_see 60 = .ok (.aload_n 0, 1) := by decide +kernel
theorem dX5_see_61 : decode cX5_see 61 = .ok (.getfield 28, 3) := by decide +kernel
theorem dX5_see_64 : decode cX5_see 64 = .ok (.iconst 3, 1) := by decide +kernel
theorem dX5_see_65 : decode cX5_see 65 = .ok (.aload_n 0, 1) := by decide +kernel
theorem dX5_see_66 : decode cX5_see 66 = .ok (.getfield 74, 3) := by decide +kernel
theorem dX5_see_69 : decode cX5_see 69 = .ok (.imul, 1) := by decide +kernel
theorem dX5_see_70 : decode cX5_see 70 = .ok (.iconst 2, 1) := by decide +kernel
theorem dX5_see_71 : decode cX5_see 71 = .ok (.iadd, 1) := by decide +kernel
theorem dX5_see_72 : decode cX5_see 72 = .ok (.iload_n 3, 1) := by decide +kernel
theorem dX5_see_73 : decode cX5_see 73 = .ok (.iastore, 1) := by decide +kernel
theorem dX5_see_74 : decode cX5_see 74 = .ok (.aload_n 0, 1) := by decide +kernel
theorem dX5_see_75 : decode cX5_see 75 = .ok (.dup, 1) := by decide +kernel
theorem dX5_see_76 : decode cX5_see 76 = .ok (.getfield 74, 3) := by decide +kernel
theorem dX5_see_79 : decode cX5_see 79 = .ok (.iconst 1, 1) := by decide +kernel
theorem dX5_see_80 : decode cX5_see 80 = .ok (.iadd, 1) := by decide +kernel
theorem dX5_see_81 : decode cX5_see 81 = .ok (.putfield 74, 3) := by decide +kernel
theorem dX5_see_84 : decode cX5_see 84 = .ok (.aload_n 0, 1) := by decide +kernel
theorem dX5_see_85 : decode cX5_see 85 = .ok (.getfield 74, 3) := by decide +kernel
theorem dX5_see_88 : decode cX5_see 88 = .ok (.ireturn, 1) := by decide +kernel
theorem dX5_forget_0 : decode cX5_forget 0 = .ok (.aload_n 0, 1) := by decide +kernel
theorem dX5_forget_1 : decode cX5_forget 1 = .ok (.getfield 74, 3) := by decide +kernel
theorem dX5_forget_4 : decode cX5_forget 4 = .ok (.istore_n 1, 1) := by decide +kernel
theorem dX5_forget_5 : decode cX5_forget 5 = .ok (.aload_n 0, 1) := by decide +kernel
theorem dX5_forget_6 : decode cX5_forget 6 = .ok (.iconst 0, 1) := by decide +kernel
theorem dX5_forget_7 : decode cX5_forget 7 = .ok (.putfield 74, 3) := by decide +kernel
theorem dX5_forget_10 : decode cX5_forget 10 = .ok (.iload_n 1, 1) := by decide +kernel
theorem dX5_forget_11 : decode cX5_forget 11 = .ok (.ireturn, 1) := by decide +kernel
theorem dX5_isAsSeen_0 : decode cX5_isAsSeen 0 = .ok (.iconst 1, 1) := by decide +kernel
theorem dX5_isAsSeen_1 : decode cX5_isAsSeen 1 = .ok (.istore_n 1, 1) := by decide +kernel
theorem dX5_isAsSeen_2 : decode cX5_isAsSeen 2 = .ok (.iconst 0, 1) := by decide +kernel
theorem dX5_isAsSeen_3 : decode cX5_isAsSeen 3 = .ok (.istore_n 2, 1) := by decide +kernel
theorem dX5_isAsSeen_4 : decode cX5_isAsSeen 4 = .ok (.iload_n 2, 1) := by decide +kernel
theorem dX5_isAsSeen_5 : decode cX5_isAsSeen 5 = .ok (.aload_n 0, 1) := by decide +kernel
theorem dX5_isAsSeen_6 : decode cX5_isAsSeen 6 = .ok (.getfield 74, 3) := by decide +kernel
theorem dX5_isAsSeen_9 : decode cX5_isAsSeen 9 = .ok (.if_icmp .ge 65, 3) := by decide +kernel
theorem dX5_isAsSeen_12 : decode cX5_isAsSeen 12 = .ok (.iload_n 1, 1) := by decide +kernel
theorem dX5_isAsSeen_13 : decode cX5_isAsSeen 13 = .ok (.ifCond .eq 61, 3) := by decide +kernel
theorem dX5_isAsSeen_16 : decode cX5_isAsSeen 16 = .ok (.aload_n 0, 1) := by decide +kernel
theorem dX5_isAsSeen_17 : decode cX5_isAsSeen 17 = .ok (.aload_n 0, 1) := by decide +kernel
theorem dX5_isAsSeen_18 : decode cX5_isAsSeen 18 = .ok (.getfield 28, 3) := by decide +kernel
theorem dX5_isAsSeen_21 : decode cX5_isAsSeen 21 = .ok (.iconst 3, 1) := by decide +kernel
theorem dX5_isAsSeen_22 : decode cX5_isAsSeen 22 = .ok (.iload_n 2, 1) := by decide +kernel
theorem dX5_isAsSeen_23 : decode cX5_isAsSeen 23 = .ok (.imul, 1) := by decide +kernel
theorem dX5_isAsSeen_24 : decode cX5_isAsSeen 24 = .ok (.iaload, 1) := by decide +kernel
theorem dX5_isAsSeen_25 : decode cX5_isAsSeen 25 = .ok (.invokevirtual 205, 3) := by decide +kernel
theorem dX5_isAsSeen_28 : decode cX5_isAsSeen 28 = .ok (.ifCond .eq 34, 3) := by decide +kernel
theorem dX5_isAsSeen_31 : decode cX5_isAsSeen 31 = .ok (.aload_n 0, 1) := by decide +kernel
theorem dX5_isAsSeen_32 : decode cX5_isAsSeen 32 = .ok (.aload_n 0, 1) := by decide +kernel
theorem dX5_isAsSeen_33 : decode cX5_isAsSeen 33 = .ok (.getfield 28, 3) := by decide +kernel
theorem dX5_isAsSeen_36 : decode cX5_isAsSeen 36 = .ok (.iconst 3, 1) := by decide +kernel
theorem dX5_isAsSeen_37 : decode cX5_isAsSeen 37 = .ok (.iload_n 2, 1) := by decide +kernel
theorem dX5_isAsSeen_38 : decode cX5_isAsSeen 38 = .ok (.imul, 1) := by decide +kernel
theorem dX5_isAsSeen_39 : decode cX5_isAsSeen 39 = .ok (.iconst 1, 1) := by decide +kernel
theorem dX5_isAsSeen_40 : decode cX5_isAsSeen 40 = .ok (.iadd, 1) := by decide +kernel
theorem dX5_isAsSeen_41 : decode cX5_isAsSeen 41 = .ok (.iaload, 1) := by decide +kernel
theorem dX5_isAsSeen_42 : decode cX5_isAsSeen 42 = .ok (.aload_n 0, 1) := by decide +kernel
theorem dX5_isAsSeen_43 : decode cX5_isAsSeen 43 = .ok (.getfield 28, 3) := by decide +kernel
theorem dX5_isAsSeen_46 : decode cX5_isAsSeen 46 = .ok (.iconst 3, 1) := by decide +kernel
theorem dX5_isAsSeen_47 : decode cX5_isAsSeen 47 = .ok (.iload_n 2, 1) := by decide +kernel
theorem dX5_isAsSeen_48 : decode cX5_isAsSeen 48 = .ok (.imul, 1) := by decide +kernel
theorem dX5_isAsSeen_49 : decode cX5_isAsSeen 49 = .ok (.iconst 2, 1) := by decide +kernel
theorem dX5_isAsSeen_50 : decode cX5_isAsSeen 50 = .ok (.iadd, 1) := by decide +kernel
theorem dX5_isAsSeen_51 : decode cX5_isAsSeen 51 = .ok (.iaload, 1) := by decide +kernel
theorem dX5_isAsSeen_52 : decode cX5_isAsSeen 52 = .ok (.invokevirtual 165, 3) := by decide +kernel
theorem dX5_isAsSeen_55 : decode cX5_isAsSeen 55 = .ok (.ifCond .eq 7, 3) := by decide +kernel
theorem dX5_isAsSeen_58 : decode cX5_isAsSeen 58 = .ok (.iconst 1, 1) := by decide +kernel
theorem dX5_isAsSeen_59 : decode cX5_isAsSeen 59 = .ok (.goto 4, 3) := by decide +kernel
theorem dX5_isAsSeen_62 : decode cX5_isAsSeen 62 = .ok (.iconst 0, 1) := by decide +kernel
theorem dX5_isAsSeen_63 : decode cX5_isAsSeen 63 = .ok (.istore_n 1, 1) := by decide +kernel
theorem dX5_isAsSeen_64 : decode cX5_isAsSeen 64 = .ok (.aload_n 0, 1) := by decide +kernel
theorem dX5_isAsSeen_65 : decode cX5_isAsSeen 65 = .ok (.invokevirtual 147, 3) := by decide +kernel
theorem dX5_isAsSeen_68 : decode cX5_isAsSeen 68 = .ok (.iinc 2 1, 3) := by decide +kernel
theorem dX5_isAsSeen_71 : decode cX5_isAsSeen 71 = .ok (.goto (-67), 3) := by decide +kernel
theorem dX5_isAsSeen_74 : decode cX5_isAsSeen 74 = .ok (.iload_n 1, 1) := by decide +kernel
theorem dX5_isAsSeen_75 : decode cX5_isAsSeen 75 = .ok (.ireturn, 1) := by decide +kernel
theorem dX5_kindSet_0 : decode cX5_kindSet 0 = .ok (.aload_n 0, 1) := by decide +kernel
theorem dX5_kindSet_1 : decode cX5_kindSet 1 = .ok (.invokevirtual 141, 3) := by decide +kernel
theorem dX5_kindSet_4 : decode cX5_kindSet 4 = .ok (.aload_n 0, 1) := by decide +kernel
theorem dX5_kindSet_5 : decode cX5_kindSet 5 = .ok (.getfield 7, 3) := by decide +kernel
theorem dX5_kindSet_8 : decode cX5_kindSet 8 = .ok (.iload_n 1, 1) := by decide +kernel
theorem dX5_kindSet_9 : decode cX5_kindSet 9 = .ok (.iaload, 1) := by decide +kernel
theorem dX5_kindSet_10 : decode cX5_kindSet 10 = .ok (.istore_n 2, 1) := by decide +kernel
theorem dX5_kindSet_11 : decode cX5_kindSet 11 = .ok (.iconst 0, 1) := by decide +kernel
theorem dX5_kindSet_12 : decode cX5_kindSet 12 = .ok (.istore_n 3, 1) := by decide +kernel
theorem dX5_kindSet_13 : decode cX5_kindSet 13 = .ok (.iconst 0, 1) := by decide +kernel
theorem dX5_kindSet_14 : decode cX5_kindSet 14 = .ok (.istore 4, 2) := by decide +kernel
theorem dX5_kindSet_16 : decode cX5_kindSet 16 = .ok (.iload 4, 2) := by decide +kernel
theorem dX5_kindSet_18 : decode cX5_kindSet 18 = .ok (.iconst 5, 1) := by decide +kernel
theorem dX5_kindSet_19 : decode cX5_kindSet 19 = .ok (.if_icmp .gt 35, 3) := by decide +kernel
theorem dX5_kindSet_22 : decode cX5_kindSet 22 = .ok (.aload_n 0, 1) := by decide +kernel
theorem dX5_kindSet_23 : decode cX5_kindSet 23 = .ok (.getfield 7, 3) := by decide +kernel
theorem dX5_kindSet_26 : decode cX5_kindSet 26 = .ok (.iload_n 1, 1) := by decide +kernel
theorem dX5_kindSet_27 : decode cX5_kindSet 27 = .ok (.iload 4, 2) := by decide +kernel
theorem dX5_kindSet_29 : decode cX5_kindSet 29 = .ok (.iastore, 1) := by decide +kernel
theorem dX5_kindSet_30 : decode cX5_kindSet 30 = .ok (.iload_n 3, 1) := by decide +kernel
theorem dX5_kindSet_31 : decode cX5_kindSet 31 = .ok (.aload_n 0, 1) := by decide +kernel
theorem dX5_kindSet_32 : decode cX5_kindSet 32 = .ok (.invokevirtual 209, 3) := by decide +kernel
theorem dX5_kindSet_35 : decode cX5_kindSet 35 = .ok (.ifCond .eq 10, 3) := by decide +kernel
theorem dX5_kindSet_38 : decode cX5_kindSet 38 = .ok (.iconst 1, 1) := by decide +kernel
theorem dX5_kindSet_39 : decode cX5_kindSet 39 = .ok (.iload 4, 2) := by decide +kernel
theorem dX5_kindSet_41 : decode cX5_kindSet 41 = .ok (.ishl, 1) := by decide +kernel
theorem dX5_kindSet_42 : decode cX5_kindSet 42 = .ok (.goto 4, 3) := by decide +kernel
theorem dX5_kindSet_45 : decode cX5_kindSet 45 = .ok (.iconst 0, 1) := by decide +kernel
theorem dX5_kindSet_46 : decode cX5_kindSet 46 = .ok (.ior, 1) := by decide +kernel
theorem dX5_kindSet_47 : decode cX5_kindSet 47 = .ok (.istore_n 3, 1) := by decide +kernel
theorem dX5_kindSet_48 : decode cX5_kindSet 48 = .ok (.iinc 4 1, 3) := by decide +kernel
theorem dX5_kindSet_51 : decode cX5_kindSet 51 = .ok (.goto (-35), 3) := by decide +kernel
theorem dX5_kindSet_54 : decode cX5_kindSet 54 = .ok (.aload_n 0, 1) := by decide +kernel
theorem dX5_kindSet_55 : decode cX5_kindSet 55 = .ok (.getfield 7, 3) := by decide +kernel
theorem dX5_kindSet_58 : decode cX5_kindSet 58 = .ok (.iload_n 1, 1) := by decide +kernel
theorem dX5_kindSet_59 : decode cX5_kindSet 59 = .ok (.iload_n 2, 1) := by decide +kernel
theorem dX5_kindSet_60 : decode cX5_kindSet 60 = .ok (.iastore, 1) := by decide +kernel
theorem dX5_kindSet_61 : decode cX5_kindSet 61 = .ok (.iload_n 3, 1) := by decide +kernel
theorem dX5_kindSet_62 : decode cX5_kindSet 62 = .ok (.ireturn, 1) := by decide +kernel
theorem dX5_kinds_0 : decode cX5_kinds 0 = .ok (.iload_n 1, 1) := by decide +kernel
theorem dX5_kinds_1 : decode cX5_kinds 1 = .ok (.invokestatic 105, 3) := by decide +kernel
theorem dX5_kinds_4 : decode cX5_kinds 4 = .ok (.ifCond .eq 11, 3) := by decide +kernel
theorem dX5_kinds_7 : decode cX5_kinds 7 = .ok (.aload_n 0, 1) := by decide +kernel
theorem dX5_kinds_8 : decode cX5_kinds 8 = .ok (.iload_n 1, 1) := by decide +kernel
theorem dX5_kinds_9 : decode cX5_kinds 9 = .ok (.invokevirtual 212, 3) := by decide +kernel
theorem dX5_kinds_12 : decode cX5_kinds 12 = .ok (.goto 4, 3) := by decide +kernel
theorem dX5_kinds_15 : decode cX5_kinds 15 = .ok (.iconst (-1), 1) := by decide +kernel
theorem dX5_kinds_16 : decode cX5_kinds 16 = .ok (.ireturn, 1) := by decide +kernel
theorem dX5_partBy_0 : decode cX5_partBy 0 = .ok (.aload_n 0, 1) := by decide +kernel
theorem dX5_partBy_1 : decode cX5_partBy 1 = .ok (.getfield 7, 3) := by decide +kernel
theorem dX5_partBy_4 : decode cX5_partBy 4 = .ok (.iload_n 1, 1) := by decide +kernel
theorem dX5_partBy_5 : decode cX5_partBy 5 = .ok (.iaload, 1) := by decide +kernel
theorem dX5_partBy_6 : decode cX5_partBy 6 = .ok (.istore 4, 2) := by decide +kernel
theorem dX5_partBy_8 : decode cX5_partBy 8 = .ok (.iconst 0, 1) := by decide +kernel
theorem dX5_partBy_9 : decode cX5_partBy 9 = .ok (.istore 5, 2) := by decide +kernel
theorem dX5_partBy_11 : decode cX5_partBy 11 = .ok (.iload 5, 2) := by decide +kernel
theorem dX5_partBy_13 : decode cX5_partBy 13 = .ok (.iconst 5, 1) := by decide +kernel
theorem dX5_partBy_14 : decode cX5_partBy 14 = .ok (.if_icmp .gt 64, 3) := by decide +kernel
theorem dX5_partBy_17 : decode cX5_partBy 17 = .ok (.aload_n 0, 1) := by decide +kernel
theorem dX5_partBy_18 : decode cX5_partBy 18 = .ok (.getfield 7, 3) := by decide +kernel
theorem dX5_partBy_21 : decode cX5_partBy 21 = .ok (.iload_n 1, 1) := by decide +kernel
theorem dX5_partBy_22 : decode cX5_partBy 22 = .ok (.iload 5, 2) := by decide +kernel
theorem dX5_partBy_24 : decode cX5_partBy 24 = .ok (.iastore, 1) := by decide +kernel
theorem dX5_partBy_25 : decode cX5_partBy 25 = .ok (.aload_n 0, 1) := by decide +kernel
theorem dX5_partBy_26 : decode cX5_partBy 26 = .ok (.getfield 46, 3) := by decide +kernel
theorem dX5_partBy_29 : decode cX5_partBy 29 = .ok (.iload 5, 2) := by decide +kernel
theorem dX5_partBy_31 : decode cX5_partBy 31 = .ok (.aload_n 0, 1) := by decide +kernel
theorem dX5_partBy_32 : decode cX5_partBy 32 = .ok (.iload_n 2, 1) := by decide +kernel
theorem dX5_partBy_33 : decode cX5_partBy 33 = .ok (.invokevirtual 205, 3) := by decide +kernel
theorem dX5_partBy_36 : decode cX5_partBy 36 = .ok (.ifCond .eq 29, 3) := by decide +kernel
theorem dX5_partBy_39 : decode cX5_partBy 39 = .ok (.sipush 10000, 3) := by decide +kernel
theorem dX5_partBy_42 : decode cX5_partBy 42 = .ok (.aload_n 0, 1) := by decide +kernel
theorem dX5_partBy_43 : decode cX5_partBy 43 = .ok (.getfield 19, 3) := by decide +kernel
theorem dX5_partBy_46 : decode cX5_partBy 46 = .ok (.bipush 8, 2) := by decide +kernel
theorem dX5_partBy_48 : decode cX5_partBy 48 = .ok (.iaload, 1) := by decide +kernel
theorem dX5_partBy_49 : decode cX5_partBy 49 = .ok (.sipush 9999, 3) := by decide +kernel
theorem dX5_partBy_52 : decode cX5_partBy 52 = .ok (.iadd, 1) := by decide +kernel
theorem dX5_partBy_53 : decode cX5_partBy 53 = .ok (.imul, 1) := by decide +kernel
theorem dX5_partBy_54 : decode cX5_partBy 54 = .ok (.aload_n 0, 1) := by decide +kernel
theorem dX5_partBy_55 : decode cX5_partBy 55 = .ok (.getfield 19, 3) := by decide +kernel
theorem dX5_partBy_58 : decode cX5_partBy 58 = .ok (.bipush 9, 2) := by decide +kernel
theorem dX5_partBy_60 : decode cX5_partBy 60 = .ok (.iaload, 1) := by decide +kernel
theorem dX5_partBy_61 : decode cX5_partBy 61 = .ok (.iadd, 1) := by decide +kernel
theorem dX5_partBy_62 : decode cX5_partBy 62 = .ok (.goto 5, 3) := by decide +kernel
theorem dX5_partBy_65 : decode cX5_partBy 65 = .ok (.bipush (-4), 2) := by decide +kernel
theorem dX5_partBy_67 : decode cX5_partBy 67 = .ok (.iastore, 1) := by decide +kernel
theorem dX5_partBy_68 : decode cX5_partBy 68 = .ok (.aload_n 0, 1) := by decide +kernel
theorem dX5_partBy_69 : decode cX5_partBy 69 = .ok (.invokevirtual 147, 3) := by decide +kernel
theorem dX5_partBy_72 : decode cX5_partBy 72 = .ok (.iinc 5 1, 3) := by decide +kernel
theorem dX5_partBy_75 : decode cX5_partBy 75 = .ok (.goto (-64), 3) := by decide +kernel
theorem dX5_partBy_78 : decode cX5_partBy 78 = .ok (.aload_n 0, 1) := by decide +kernel
theorem dX5_partBy_79 : decode cX5_partBy 79 = .ok (.getfield 7, 3) := by decide +kernel
theorem dX5_partBy_82 : decode cX5_partBy 82 = .ok (.iload_n 1, 1) := by decide +kernel
theorem dX5_partBy_83 : decode cX5_partBy 83 = .ok (.iload 4, 2) := by decide +kernel
theorem dX5_partBy_85 : decode cX5_partBy 85 = .ok (.iastore, 1) := by decide +kernel
theorem dX5_partBy_86 : decode cX5_partBy 86 = .ok (.iconst 0, 1) := by decide +kernel
theorem dX5_partBy_87 : decode cX5_partBy 87 = .ok (.istore 5, 2) := by decide +kernel
theorem dX5_partBy_89 : decode cX5_partBy 89 = .ok (.iconst 0, 1) := by decide +kernel
theorem dX5_partBy_90 : decode cX5_partBy 90 = .ok (.istore 6, 2) := by decide +kernel
theorem dX5_partBy_92 : decode cX5_partBy 92 = .ok (.iload 6, 2) := by decide +kernel
theorem dX5_partBy_94 : decode cX5_partBy 94 = .ok (.iconst 5, 1) := by decide +kernel
theorem dX5_partBy_95 : decode cX5_partBy 95 = .ok (.if_icmp .gt 85, 3) := by decide +kernel
theorem dX5_partBy_98 : decode cX5_partBy 98 = .ok (.iconst 0, 1) := by decide +kernel
theorem dX5_partBy_99 : decode cX5_partBy 99 = .ok (.istore 7, 2) := by decide +kernel
theorem dX5_partBy_101 : decode cX5_partBy 101 = .ok (.iconst 0, 1) := by decide +kernel
theorem dX5_partBy_102 : decode cX5_partBy 102 = .ok (.istore 8, 2) := by decide +kernel
theorem dX5_partBy_104 : decode cX5_partBy 104 = .ok (.iload 8, 2) := by decide +kernel
theorem dX5_partBy_106 : decode cX5_partBy 106 = .ok (.iconst 5, 1) := by decide +kernel
theorem dX5_partBy_107 : decode cX5_partBy 107 = .ok (.if_icmp .gt 51, 3) := by decide +kernel
theorem dX5_partBy_110 : decode cX5_partBy 110 = .ok (.iload 7, 2) := by decide +kernel
theorem dX5_partBy_112 : decode cX5_partBy 112 = .ok (.iload_n 3, 1) := by decide +kernel
theorem dX5_partBy_113 : decode cX5_partBy 113 = .ok (.iload 6, 2) := by decide +kernel
theorem dX5_partBy_115 : decode cX5_partBy 115 = .ok (.ishr, 1) := by decide +kernel
theorem dX5_partBy_116 : decode cX5_partBy 116 = .ok (.iload_n 3, 1) := by decide +kernel
theorem dX5_partBy_117 : decode cX5_partBy 117 = .ok (.iload 8, 2) := by decide +kernel
theorem dX5_partBy_119 : decode cX5_partBy 119 = .ok (.ishr, 1) := by decide +kernel
theorem dX5_partBy_120 : decode cX5_partBy 120 = .ok (.iand, 1) := by decide +kernel
theorem dX5_partBy_121 : decode cX5_partBy 121 = .ok (.iconst 1, 1) := by decide +kernel
theorem dX5_partBy_122 : decode cX5_partBy 122 = .ok (.iand, 1) := by decide +kernel
theorem dX5_partBy_123 : decode cX5_partBy 123 = .ok (.iconst 1, 1) := by decide +kernel
theorem dX5_partBy_124 : decode cX5_partBy 124 = .ok (.if_icmp .ne 24, 3) := by decide +kernel
theorem dX5_partBy_127 : decode cX5_partBy 127 = .ok (.aload_n 0, 1) := by decide +kernel
theorem dX5_partBy_128 : decode cX5_partBy 128 = .ok (.getfield 46, 3) := by decide +kernel
theorem dX5_partBy_131 : decode cX5_partBy 131 = .ok (.iload 6, 2) := by decide +kernel
theorem dX5_partBy_133 : decode cX5_partBy 133 = .ok (.iaload, 1) := by decide +kernel
theorem dX5_partBy_134 : decode cX5_partBy 134 = .ok (.aload_n 0, 1) := by decide +kernel
theorem dX5_partBy_135 : decode cX5_partBy 135 = .ok (.getfield 46, 3) := by decide +kernel
theorem dX5_partBy_138 : decode cX5_partBy 138 = .ok (.iload 8, 2) := by decide +kernel
theorem dX5_partBy_140 : decode cX5_partBy 140 = .ok (.iaload, 1) := by decide +kernel
theorem dX5_partBy_141 : decode cX5_partBy 141 = .ok (.if_icmp .ne 7, 3) := by decide +kernel
theorem dX5_partBy_144 : decode cX5_partBy 144 = .ok (.iconst 1, 1) := by decide +kernel
theorem dX5_partBy_145 : decode cX5_partBy 145 = .ok (.goto 4, 3) := by decide +kernel
theorem dX5_partBy_148 : decode cX5_partBy 148 = .ok (.iconst 0, 1) := by decide +kernel
theorem dX5_partBy_149 : decode cX5_partBy 149 = .ok (.iadd, 1) := by decide +kernel
theorem dX5_partBy_150 : decode cX5_partBy 150 = .ok (.istore 7, 2) := by decide +kernel
theorem dX5_partBy_152 : decode cX5_partBy 152 = .ok (.iinc 8 1, 3) := by decide +kernel
theorem dX5_partBy_155 : decode cX5_partBy 155 = .ok (.goto (-51), 3) := by decide +kernel
theorem dX5_partBy_158 : decode cX5_partBy 158 = .ok (.iload 7, 2) := by decide +kernel
theorem dX5_partBy_160 : decode cX5_partBy 160 = .ok (.iload 5, 2) := by decide +kernel
theorem dX5_partBy_162 : decode cX5_partBy 162 = .ok (.if_icmp .le 8, 3) := by decide +kernel
theorem dX5_partBy_165 : decode cX5_partBy 165 = .ok (.iload 7, 2) := by decide +kernel
theorem dX5_partBy_167 : decode cX5_partBy 167 = .ok (.goto 5, 3) := by decide +kernel
theorem dX5_partBy_170 : decode cX5_partBy 170 = .ok (.iload 5, 2) := by decide +kernel
theorem dX5_partBy_172 : decode cX5_partBy 172 = .ok (.istore 5, 2) := by decide +kernel
theorem dX5_partBy_174 : decode cX5_partBy 174 = .ok (.iinc 6 1, 3) := by decide +kernel
theorem dX5_partBy_177 : decode cX5_partBy 177 = .ok (.goto (-85), 3) := by decide +kernel
theorem dX5_partBy_180 : decode cX5_partBy 180 = .ok (.iload 5, 2) := by decide +kernel
theorem dX5_partBy_182 : decode cX5_partBy 182 = .ok (.ireturn, 1) := by decide +kernel
theorem dX5_look_0 : decode cX5_look 0 = .ok (.iload_n 1, 1) := by decide +kernel
theorem dX5_look_1 : decode cX5_look 1 = .ok (.invokestatic 105, 3) := by decide +kernel
theorem dX5_look_4 : decode cX5_look 4 = .ok (.ifCond .eq 10, 3) := by decide +kernel
theorem dX5_look_7 : decode cX5_look 7 = .ok (.iload_n 2, 1) := by decide +kernel
theorem dX5_look_8 : decode cX5_look 8 = .ok (.invokestatic 114, 3) := by decide +kernel
theorem dX5_look_11 : decode cX5_look 11 = .ok (.ifCond .ne 5, 3) := by decide +kernel
theorem dX5_look_14 : decode cX5_look 14 = .ok (.iconst (-1), 1) := by decide +kernel
theorem dX5_look_15 : decode cX5_look 15 = .ok (.ireturn, 1) := by decide +kernel
theorem dX5_look_16 : decode cX5_look 16 = .ok (.aload_n 0, 1) := by decide +kernel
theorem dX5_look_17 : decode cX5_look 17 = .ok (.iload_n 1, 1) := by decide +kernel
theorem dX5_look_18 : decode cX5_look 18 = .ok (.invokevirtual 212, 3) := by decide +kernel
theorem dX5_look_21 : decode cX5_look 21 = .ok (.istore_n 3, 1) := by decide +kernel
theorem dX5_look_22 : decode cX5_look 22 = .ok (.iload_n 3, 1) := by decide +kernel
theorem dX5_look_23 : decode cX5_look 23 = .ok (.iload_n 3, 1) := by decide +kernel
theorem dX5_look_24 : decode cX5_look 24 = .ok (.iconst 1, 1) := by decide +kernel
theorem dX5_look_25 : decode cX5_look 25 = .ok (.isub, 1) := by decide +kernel
theorem dX5_look_26 : decode cX5_look 26 = .ok (.iand, 1) := by decide +kernel
theorem dX5_look_27 : decode cX5_look 27 = .ok (.ifCond .ne 6, 3) := by decide +kernel
theorem dX5_look_30 : decode cX5_look 30 = .ok (.bipush (-4), 2) := by decide +kernel
theorem dX5_look_32 : decode cX5_look 32 = .ok (.ireturn, 1) := by decide +kernel
theorem dX5_look_33 : decode cX5_look 33 = .ok (.iconst 0, 1) := by decide +kernel
theorem dX5_look_34 : decode cX5_look 34 = .ok (.istore 4, 2) := by decide +kernel
theorem dX5_look_36 : decode cX5_look 36 = .ok (.bipush 10, 2) := by decide +kernel
theorem dX5_look_38 : decode cX5_look 38 = .ok (.istore 5, 2) := by decide +kernel
theorem dX5_look_40 : decode cX5_look 40 = .ok (.iconst 1, 1) := by decide +kernel
theorem dX5_look_41 : decode cX5_look 41 = .ok (.istore 6, 2) := by decide +kernel
theorem dX5_look_43 : decode cX5_look 43 = .ok (.iload 6, 2) := by decide +kernel
theorem dX5_look_45 : decode cX5_look 45 = .ok (.bipush 12, 2) := by decide +kernel
theorem dX5_look_47 : decode cX5_look 47 = .ok (.if_icmp .gt 51, 3) := by decide +kernel
theorem dX5_look_50 : decode cX5_look 50 = .ok (.aload_n 0, 1) := by decide +kernel
theorem dX5_look_51 : decode cX5_look 51 = .ok (.iload_n 1, 1) := by decide +kernel
theorem dX5_look_52 : decode cX5_look 52 = .ok (.iload 6, 2) := by decide +kernel
theorem dX5_look_54 : decode cX5_look 54 = .ok (.iload_n 3, 1) := by decide +kernel
theorem dX5_look_55 : decode cX5_look 55 = .ok (.invokevirtual 215, 3) := by decide +kernel
theorem dX5_look_58 : decode cX5_look 58 = .ok (.istore 7, 2) := by decide +kernel
theorem dX5_look_60 : decode cX5_look 60 = .ok (.iload 7, 2) := by decide +kernel
theorem dX5_look_62 : decode cX5_look 62 = .ok (.iload 5, 2) := by decide +kernel
theorem dX5_look_64 : decode cX5_look 64 = .ok (.if_icmp .ge 8, 3) := by decide +kernel
theorem dX5_look_67 : decode cX5_look 67 = .ok (.iload 6, 2) := by decide +kernel
theorem dX5_look_69 : decode cX5_look 69 = .ok (.goto 5, 3) := by decide +kernel
theorem dX5_look_72 : decode cX5_look 72 = .ok (.iload 4, 2) := by decide +kernel
theorem dX5_look_74 : decode cX5_look 74 = .ok (.istore 4, 2) := by decide +kernel
theorem dX5_look_76 : decode cX5_look 76 = .ok (.iload 7, 2) := by decide +kernel
theorem dX5_look_78 : decode cX5_look 78 = .ok (.iload 5, 2) := by decide +kernel
theorem dX5_look_80 : decode cX5_look 80 = .ok (.if_icmp .ge 8, 3) := by decide +kernel
theorem dX5_look_83 : decode cX5_look 83 = .ok (.iload 7, 2) := by decide +kernel
theorem dX5_look_85 : decode cX5_look 85 = .ok (.goto 5, 3) := by decide +kernel
theorem dX5_look_88 : decode cX5_look 88 = .ok (.iload 5, 2) := by decide +kernel
theorem dX5_look_90 : decode cX5_look 90 = .ok (.istore 5, 2) := by decide +kernel
theorem dX5_look_92 : decode cX5_look 92 = .ok (.iinc 6 1, 3) := by decide +kernel
theorem dX5_look_95 : decode cX5_look 95 = .ok (.goto (-52), 3) := by decide +kernel
theorem dX5_look_98 : decode cX5_look 98 = .ok (.iload_n 2, 1) := by decide +kernel
theorem dX5_look_99 : decode cX5_look 99 = .ok (.ifCond .ne 8, 3) := by decide +kernel
theorem dX5_look_102 : decode cX5_look 102 = .ok (.iload 4, 2) := by decide +kernel
theorem dX5_look_104 : decode cX5_look 104 = .ok (.goto 5, 3) := by decide +kernel
theorem dX5_look_107 : decode cX5_look 107 = .ok (.iload 5, 2) := by decide +kernel
theorem dX5_look_109 : decode cX5_look 109 = .ok (.ireturn, 1) := by decide +kernel
theorem dX5_danced_0 : decode cX5_danced 0 = .ok (.iload_n 1, 1) := by decide +kernel
theorem dX5_danced_1 : decode cX5_danced 1 = .ok (.i2l, 1) := by decide +kernel
theorem dX5_danced_2 : decode cX5_danced 2 = .ok (.lconst 0, 1) := by decide +kernel
theorem dX5_danced_3 : decode cX5_danced 3 = .ok (.ldc2_w 198, 3) := by decide +kernel
theorem dX5_danced_6 : decode cX5_danced 6 = .ok (.invokestatic 62, 3) := by decide +kernel
theorem dX5_danced_9 : decode cX5_danced 9 = .ok (.ifCond .ne 5, 3) := by decide +kernel
theorem dX5_danced_12 : decode cX5_danced 12 = .ok (.iconst (-1), 1) := by decide +kernel
theorem dX5_danced_13 : decode cX5_danced 13 = .ok (.ireturn, 1) := by decide +kernel
theorem dX5_danced_14 : decode cX5_danced 14 = .ok (.aload_n 0, 1) := by decide +kernel
theorem dX5_danced_15 : decode cX5_danced 15 = .ok (.getfield 19, 3) := by decide +kernel
theorem dX5_danced_18 : decode cX5_danced 18 = .ok (.bipush 8, 2) := by decide +kernel
theorem dX5_danced_20 : decode cX5_danced 20 = .ok (.iaload, 1) := by decide +kernel
theorem dX5_danced_21 : decode cX5_danced 21 = .ok (.istore_n 2, 1) := by decide +kernel
theorem dX5_danced_22 : decode cX5_danced 22 = .ok (.aload_n 0, 1) := by decide +kernel
theorem dX5_danced_23 : decode cX5_danced 23 = .ok (.getfield 19, 3) := by decide +kernel
theorem dX5_danced_26 : decode cX5_danced 26 = .ok (.bipush 9, 2) := by decide +kernel
theorem dX5_danced_28 : decode cX5_danced 28 = .ok (.iaload, 1) := by decide +kernel
theorem dX5_danced_29 : decode cX5_danced 29 = .ok (.istore_n 3, 1) := by decide +kernel
theorem dX5_danced_30 : decode cX5_danced 30 = .ok (.aload_n 0, 1) := by decide +kernel
theorem dX5_danced_31 : decode cX5_danced 31 = .ok (.invokevirtual 141, 3) := by decide +kernel
theorem dX5_danced_34 : decode cX5_danced 34 = .ok (.iconst 0, 1) := by decide +kernel
theorem dX5_danced_35 : decode cX5_danced 35 = .ok (.istore 4, 2) := by decide +kernel
theorem dX5_danced_37 : decode cX5_danced 37 = .ok (.iload 4, 2) := by decide +kernel
theorem dX5_danced_39 : decode cX5_danced 39 = .ok (.iconst 4, 1) := by decide +kernel
theorem dX5_danced_40 : decode cX5_danced 40 = .ok (.if_icmp .ge 31, 3) := by decide +kernel
theorem dX5_danced_43 : decode cX5_danced 43 = .ok (.aload_n 0, 1) := by decide +kernel
theorem dX5_danced_44 : decode cX5_danced 44 = .ok (.getfield 49, 3) := by decide +kernel
theorem dX5_danced_47 : decode cX5_danced 47 = .ok (.iload 4, 2) := by decide +kernel
theorem dX5_danced_49 : decode cX5_danced 49 = .ok (.aload_n 0, 1) := by decide +kernel
theorem dX5_danced_50 : decode cX5_danced 50 = .ok (.getfield 7, 3) := by decide +kernel
theorem dX5_danced_53 : decode cX5_danced 53 = .ok (.iload 4, 2) := by decide +kernel
theorem dX5_danced_55 : decode cX5_danced 55 = .ok (.iaload, 1) := by decide +kernel
theorem dX5_danced_56 : decode cX5_danced 56 = .ok (.iastore, 1) := by decide +kernel
theorem dX5_danced_57 : decode cX5_danced 57 = .ok (.aload_n 0, 1) := by decide +kernel
theorem dX5_danced_58 : decode cX5_danced 58 = .ok (.getfield 7, 3) := by decide +kernel
theorem dX5_danced_61 : decode cX5_danced 61 = .ok (.iload 4, 2) := by decide +kernel
theorem dX5_danced_63 : decode cX5_danced 63 = .ok (.iconst 0, 1) := by decide +kernel
theorem dX5_danced_64 : decode cX5_danced 64 = .ok (.iastore, 1) := by decide +kernel
theorem dX5_danced_65 : decode cX5_danced 65 = .ok (.iinc 4 1, 3) := by decide +kernel
theorem dX5_danced_68 : decode cX5_danced 68 = .ok (.goto (-31), 3) := by decide +kernel
theorem dX5_danced_71 : decode cX5_danced 71 = .ok (.iconst 0, 1) := by decide +kernel
theorem dX5_danced_72 : decode cX5_danced 72 = .ok (.istore 4, 2) := by decide +kernel
theorem dX5_danced_74 : decode cX5_danced 74 = .ok (.iconst 0, 1) := by decide +kernel
theorem dX5_danced_75 : decode cX5_danced 75 = .ok (.istore 5, 2) := by decide +kernel
theorem dX5_danced_77 : decode cX5_danced 77 = .ok (.iload 5, 2) := by decide +kernel
theorem dX5_danced_79 : decode cX5_danced 79 = .ok (.iconst 3, 1) := by decide +kernel
theorem dX5_danced_80 : decode cX5_danced 80 = .ok (.iload_n 1, 1) := by decide +kernel
theorem dX5_danced_81 : decode cX5_danced 81 = .ok (.invokestatic 156, 3) := by decide +kernel
theorem dX5_danced_84 : decode cX5_danced 84 = .ok (.if_icmp .ge 54, 3) := by decide +kernel
theorem dX5_danced_87 : decode cX5_danced 87 = .ok (.aload_n 0, 1) := by decide +kernel
theorem dX5_danced_88 : decode cX5_danced 88 = .ok (.getfield 19, 3) := by decide +kernel
theorem dX5_danced_91 : decode cX5_danced 91 = .ok (.bipush 8, 2) := by decide +kernel
theorem dX5_danced_93 : decode cX5_danced 93 = .ok (.iconst 0, 1) := by decide +kernel
theorem dX5_danced_94 : decode cX5_danced 94 = .ok (.iastore, 1) := by decide +kernel
theorem dX5_danced_95 : decode cX5_danced 95 = .ok (.aload_n 0, 1) := by decide +kernel
theorem dX5_danced_96 : decode cX5_danced 96 = .ok (.getfield 19, 3) := by decide +kernel
theorem dX5_danced_99 : decode cX5_danced 99 = .ok (.bipush 9, 2) := by decide +kernel
theorem dX5_danced_101 : decode cX5_danced 101 = .ok (.iconst 1, 1) := by decide +kernel
theorem dX5_danced_102 : decode cX5_danced 102 = .ok (.iastore, 1) := by decide +kernel
theorem dX5_danced_103 : decode cX5_danced 103 = .ok (.iload 4, 2) := by decide +kernel
theorem dX5_danced_105 : decode cX5_danced 105 = .ok (.aload_n 0, 1) := by decide +kernel
theorem dX5_danced_106 : decode cX5_danced 106 = .ok (.iload 5, 2) := by decide +kernel
theorem dX5_danced_108 : decode cX5_danced 108 = .ok (.iload_n 1, 1) := by decide +kernel
theorem dX5_danced_109 : decode cX5_danced 109 = .ok (.invokevirtual 162, 3) := by decide +kernel
theorem dX5_danced_112 : decode cX5_danced 112 = .ok (.ifCond .eq 16, 3) := by decide +kernel
theorem dX5_danced_115 : decode cX5_danced 115 = .ok (.aload_n 0, 1) := by decide +kernel
theorem dX5_danced_116 : decode cX5_danced 116 = .ok (.iload_n 2, 1) := by decide +kernel
theorem dX5_danced_117 : decode cX5_danced 117 = .ok (.iload_n 3, 1) := by decide +kernel
theorem dX5_danced_118 : decode cX5_danced 118 = .ok (.invokevirtual 165, 3) := by decide +kernel
theorem dX5_danced_121 : decode cX5_danced 121 = .ok (.ifCond .eq 7, 3) := by decide +kernel
theorem dX5_danced_124 : decode cX5_danced 124 = .ok (.iconst 1, 1) := by decide +kernel
theorem dX5_danced_125 : decode cX5_danced 125 = .ok (.goto 4, 3) := by decide +kernel
theorem dX5_danced_128 : decode cX5_danced 128 = .ok (.iconst 0, 1) := by decide +kernel
theorem dX5_danced_129 : decode cX5_danced 129 = .ok (.iadd, 1) := by decide +kernel
theorem dX5_danced_130 : decode cX5_danced 130 = .ok (.istore 4, 2) := by decide +kernel
theorem dX5_danced_132 : decode cX5_danced 132 = .ok (.iinc 5 1, 3) := by decide +kernel
theorem dX5_danced_135 : decode cX5_danced 135 = .ok (.goto (-58), 3) := by decide +kernel
theorem dX5_danced_138 : decode cX5_danced 138 = .ok (.iconst 0, 1) := by decide +kernel
theorem dX5_danced_139 : decode cX5_danced 139 = .ok (.istore 5, 2) := by decide +kernel
theorem dX5_danced_141 : decode cX5_danced 141 = .ok (.iload 5, 2) := by decide +kernel
theorem dX5_danced_143 : decode cX5_danced 143 = .ok (.iconst 4, 1) := by decide +kernel
theorem dX5_danced_144 : decode cX5_danced 144 = .ok (.if_icmp .ge 23, 3) := by decide +kernel
theorem dX5_danced_147 : decode cX5_danced 147 = .ok (.aload_n 0, 1) := by decide +kernel
theorem dX5_danced_148 : decode cX5_danced 148 = .ok (.getfield 7, 3) := by decide +kernel
theorem dX5_danced_151 : decode cX5_danced 151 = .ok (.iload 5, 2) := by decide +kernel
theorem dX5_danced_153 : decode cX5_danced 153 = .ok (.aload_n 0, 1) := by decide +kernel
theorem dX5_danced_154 : decode cX5_danced 154 = .ok (.getfield 49, 3) := by decide +kernel
theorem dX5_danced_157 : decode cX5_danced 157 = .ok (.iload 5, 2) := by decide +kernel
theorem dX5_danced_159 : decode cX5_danced 159 = .ok (.iaload, 1) := by decide +kernel
theorem dX5_danced_160 : decode cX5_danced 160 = .ok (.iastore, 1) := by decide +kernel
theorem dX5_danced_161 : decode cX5_danced 161 = .ok (.iinc 5 1, 3) := by decide +kernel
theorem dX5_danced_164 : decode cX5_danced 164 = .ok (.goto (-23), 3) := by decide +kernel
theorem dX5_danced_167 : decode cX5_danced 167 = .ok (.aload_n 0, 1) := by decide +kernel
theorem dX5_danced_168 : decode cX5_danced 168 = .ok (.invokevirtual 147, 3) := by decide +kernel
theorem dX5_danced_171 : decode cX5_danced 171 = .ok (.iload 4, 2) := by decide +kernel
theorem dX5_danced_173 : decode cX5_danced 173 = .ok (.ireturn, 1) := by decide +kernel
theorem dX5_greater_0 : decode cX5_greater 0 = .ok (.aload_n 0, 1) := by decide +kernel
theorem dX5_greater_1 : decode cX5_greater 1 = .ok (.getfield 19, 3) := by decide +kernel
theorem dX5_greater_4 : decode cX5_greater 4 = .ok (.bipush 8, 2) := by decide +kernel
theorem dX5_greater_6 : decode cX5_greater 6 = .ok (.iaload, 1) := by decide +kernel
theorem dX5_greater_7 : decode cX5_greater 7 = .ok (.ifCond .ge 14, 3) := by decide +kernel
theorem dX5_greater_10 : decode cX5_greater 10 = .ok (.aload_n 0, 1) := by decide +kernel
theorem dX5_greater_11 : decode cX5_greater 11 = .ok (.getfield 19, 3) := by decide +kernel
theorem dX5_greater_14 : decode cX5_greater 14 = .ok (.bipush 8, 2) := by decide +kernel
theorem dX5_greater_16 : decode cX5_greater 16 = .ok (.iaload, 1) := by decide +kernel
theorem dX5_greater_17 : decode cX5_greater 17 = .ok (.ineg, 1) := by decide +kernel
theorem dX5_greater_18 : decode cX5_greater 18 = .ok (.goto 10, 3) := by decide +kernel
theorem dX5_greater_21 : decode cX5_greater 21 = .ok (.aload_n 0, 1) := by decide +kernel
theorem dX5_greater_22 : decode cX5_greater 22 = .ok (.getfield 19, 3) := by decide +kernel
theorem dX5_greater_25 : decode cX5_greater 25 = .ok (.bipush 8, 2) := by decide +kernel
theorem dX5_greater_27 : decode cX5_greater 27 = .ok (.iaload, 1) := by decide +kernel
theorem dX5_greater_28 : decode cX5_greater 28 = .ok (.istore_n 1, 1) := by decide +kernel
theorem dX5_greater_29 : decode cX5_greater 29 = .ok (.iload_n 1, 1) := by decide +kernel
theorem dX5_greater_30 : decode cX5_greater 30 = .ok (.aload_n 0, 1) := by decide +kernel
theorem dX5_greater_31 : decode cX5_greater 31 = .ok (.getfield 19, 3) := by decide +kernel
theorem dX5_greater_34 : decode cX5_greater 34 = .ok (.bipush 9, 2) := by decide +kernel
theorem dX5_greater_36 : decode cX5_greater 36 = .ok (.iaload, 1) := by decide +kernel
theorem dX5_greater_37 : decode cX5_greater 37 = .ok (.if_icmp .le 7, 3) := by decide +kernel
theorem dX5_greater_40 : decode cX5_greater 40 = .ok (.iload_n 1, 1) := by decide +kernel
theorem dX5_greater_41 : decode cX5_greater 41 = .ok (.goto 10, 3) := by decide +kernel
theorem dX5_greater_44 : decode cX5_greater 44 = .ok (.aload_n 0, 1) := by decide +kernel
theorem dX5_greater_45 : decode cX5_greater 45 = .ok (.getfield 19, 3) := by decide +kernel
theorem dX5_greater_48 : decode cX5_greater 48 = .ok (.bipush 9, 2) := by decide +kernel
theorem dX5_greater_50 : decode cX5_greater 50 = .ok (.iaload, 1) := by decide +kernel
theorem dX5_greater_51 : decode cX5_greater 51 = .ok (.ireturn, 1) := by decide +kernel
theorem dX5_better_0 : decode cX5_better 0 = .ok (.iload_n 1, 1) := by decide +kernel
theorem dX5_better_1 : decode cX5_better 1 = .ok (.ifCond .ge 7, 3) := by decide +kernel
theorem dX5_better_4 : decode cX5_better 4 = .ok (.iload_n 2, 1) := by decide +kernel
theorem dX5_better_5 : decode cX5_better 5 = .ok (.goto 30, 3) := by decide +kernel
theorem dX5_better_8 : decode cX5_better 8 = .ok (.iload_n 2, 1) := by decide +kernel
theorem dX5_better_9 : decode cX5_better 9 = .ok (.ifCond .ge 7, 3) := by decide +kernel
theorem dX5_better_12 : decode cX5_better 12 = .ok (.iload_n 1, 1) := by decide +kernel
theorem dX5_better_13 : decode cX5_better 13 = .ok (.goto 22, 3) := by decide +kernel
theorem dX5_better_16 : decode cX5_better 16 = .ok (.iload_n 2, 1) := by decide +kernel
theorem dX5_better_17 : decode cX5_better 17 = .ok (.iload_n 1, 1) := by decide +kernel
theorem dX5_better_18 : decode cX5_better 18 = .ok (.if_icmp .le 7, 3) := by decide +kernel
theorem dX5_better_21 : decode cX5_better 21 = .ok (.iconst 1, 1) := by decide +kernel
theorem dX5_better_22 : decode cX5_better 22 = .ok (.goto 4, 3) := by decide +kernel
theorem dX5_better_25 : decode cX5_better 25 = .ok (.iconst 0, 1) := by decide +kernel
theorem dX5_better_26 : decode cX5_better 26 = .ok (.iload_n 3, 1) := by decide +kernel
theorem dX5_better_27 : decode cX5_better 27 = .ok (.if_icmp .ne 7, 3) := by decide +kernel
theorem dX5_better_30 : decode cX5_better 30 = .ok (.iload_n 2, 1) := by decide +kernel
theorem dX5_better_31 : decode cX5_better 31 = .ok (.goto 4, 3) := by decide +kernel
theorem dX5_better_34 : decode cX5_better 34 = .ok (.iload_n 1, 1) := by decide +kernel
theorem dX5_better_35 : decode cX5_better 35 = .ok (.ireturn, 1) := by decide +kernel
theorem dX5_duel_0 : decode cX5_duel 0 = .ok (.iload_n 1, 1) := by decide +kernel
theorem dX5_duel_1 : decode cX5_duel 1 = .ok (.i2l, 1) := by decide +kernel
theorem dX5_duel_2 : decode cX5_duel 2 = .ok (.lconst 0, 1) := by decide +kernel
theorem dX5_duel_3 : decode cX5_duel 3 = .ok (.ldc2_w 219, 3) := by decide +kernel
theorem dX5_duel_6 : decode cX5_duel 6 = .ok (.invokestatic 62, 3) := by decide +kernel
theorem dX5_duel_9 : decode cX5_duel 9 = .ok (.ifCond .ne 5, 3) := by decide +kernel
theorem dX5_duel_12 : decode cX5_duel 12 = .ok (.iconst (-1), 1) := by decide +kernel
theorem dX5_duel_13 : decode cX5_duel 13 = .ok (.ireturn, 1) := by decide +kernel
theorem dX5_duel_14 : decode cX5_duel 14 = .ok (.aload_n 0, 1) := by decide +kernel
theorem dX5_duel_15 : decode cX5_duel 15 = .ok (.invokevirtual 141, 3) := by decide +kernel
theorem dX5_duel_18 : decode cX5_duel 18 = .ok (.iconst 3, 1) := by decide +kernel
theorem dX5_duel_19 : decode cX5_duel 19 = .ok (.iload_n 1, 1) := by decide +kernel
theorem dX5_duel_20 : decode cX5_duel 20 = .ok (.invokestatic 156, 3) := by decide +kernel
theorem dX5_duel_23 : decode cX5_duel 23 = .ok (.istore_n 2, 1) := by decide +kernel
theorem dX5_duel_24 : decode cX5_duel 24 = .ok (.iconst 0, 1) := by decide +kernel
theorem dX5_duel_25 : decode cX5_duel 25 = .ok (.istore_n 3, 1) := by decide +kernel
theorem dX5_duel_26 : decode cX5_duel 26 = .ok (.iload_n 3, 1) := by decide +kernel
theorem dX5_duel_27 : decode cX5_duel 27 = .ok (.iload_n 2, 1) := by decide +kernel
theorem dX5_duel_28 : decode cX5_duel 28 = .ok (.if_icmp .ge 96, 3) := by decide +kernel
theorem dX5_duel_31 : decode cX5_duel 31 = .ok (.iconst 1, 1) := by decide +kernel
theorem dX5_duel_32 : decode cX5_duel 32 = .ok (.istore 4, 2) := by decide +kernel
theorem dX5_duel_34 : decode cX5_duel 34 = .ok (.iconst 0, 1) := by decide +kernel
theorem dX5_duel_35 : decode cX5_duel 35 = .ok (.istore 5, 2) := by decide +kernel
theorem dX5_duel_37 : decode cX5_duel 37 = .ok (.iload_n 2, 1) := by decide +kernel
theorem dX5_duel_38 : decode cX5_duel 38 = .ok (.iconst 3, 1) := by decide +kernel
theorem dX5_duel_39 : decode cX5_duel 39 = .ok (.idiv, 1) := by decide +kernel
theorem dX5_duel_40 : decode cX5_duel 40 = .ok (.istore 6, 2) := by decide +kernel
theorem dX5_duel_42 : decode cX5_duel 42 = .ok (.iload 6, 2) := by decide +kernel
theorem dX5_duel_44 : decode cX5_duel 44 = .ok (.ifCond .le 50, 3) := by decide +kernel
theorem dX5_duel_47 : decode cX5_duel 47 = .ok (.iload 4, 2) := by decide +kernel
theorem dX5_duel_49 : decode cX5_duel 49 = .ok (.ifCond .eq 45, 3) := by decide +kernel
theorem dX5_duel_52 : decode cX5_duel 52 = .ok (.iload_n 3, 1) := by decide +kernel
theorem dX5_duel_53 : decode cX5_duel 53 = .ok (.iload 6, 2) := by decide +kernel
theorem dX5_duel_55 : decode cX5_duel 55 = .ok (.idiv, 1) := by decide +kernel
theorem dX5_duel_56 : decode cX5_duel 56 = .ok (.iconst 3, 1) := by decide +kernel
theorem dX5_duel_57 : decode cX5_duel 57 = .ok (.irem, 1) := by decide +kernel
theorem dX5_duel_58 : decode cX5_duel 58 = .ok (.istore 7, 2) := by decide +kernel
theorem dX5_duel_60 : decode cX5_duel 60 = .ok (.aload_n 0, 1) := by decide +kernel
theorem dX5_duel_61 : decode cX5_duel 61 = .ok (.iload 7, 2) := by decide +kernel
theorem dX5_duel_63 : decode cX5_duel 63 = .ok (.ifCond .ne 10, 3) := by decide +kernel
theorem dX5_duel_66 : decode cX5_duel 66 = .ok (.iload 5, 2) := by decide +kernel
theorem dX5_duel_68 : decode cX5_duel 68 = .ok (.iconst 2, 1) := by decide +kernel
theorem dX5_duel_69 : decode cX5_duel 69 = .ok (.irem, 1) := by decide +kernel
theorem dX5_duel_70 : decode cX5_duel 70 = .ok (.goto 7, 3) := by decide +kernel
theorem dX5_duel_73 : decode cX5_duel 73 = .ok (.iload 7, 2) := by decide +kernel
theorem dX5_duel_75 : decode cX5_duel 75 = .ok (.iconst 1, 1) := by decide +kernel
theorem dX5_duel_76 : decode cX5_duel 76 = .ok (.iadd, 1) := by decide +kernel
theorem dX5_duel_77 : decode cX5_duel 77 = .ok (.invokevirtual 144, 3) := by decide +kernel
theorem dX5_duel_80 : decode cX5_duel 80 = .ok (.istore 4, 2) := by decide +kernel
theorem dX5_duel_82 : decode cX5_duel 82 = .ok (.iinc 5 1, 3) := by decide +kernel
theorem dX5_duel_85 : decode cX5_duel 85 = .ok (.iload 6, 2) := by decide +kernel
theorem dX5_duel_87 : decode cX5_duel 87 = .ok (.iconst 3, 1) := by decide +kernel
theorem dX5_duel_88 : decode cX5_duel 88 = .ok (.idiv, 1) := by decide +kernel
theorem dX5_duel_89 : decode cX5_duel 89 = .ok (.istore 6, 2) := by decide +kernel
theorem dX5_duel_91 : decode cX5_duel 91 = .ok (.goto (-49), 3) := by decide +kernel
theorem dX5_duel_94 : decode cX5_duel 94 = .ok (.aload_n 0, 1) := by decide +kernel
theorem dX5_duel_95 : decode cX5_duel 95 = .ok (.getfield 52, 3) := by decide +kernel
theorem dX5_duel_98 : decode cX5_duel 98 = .ok (.iload_n 3, 1) := by decide +kernel
theorem dX5_duel_99 : decode cX5_duel 99 = .ok (.iload 4, 2) := by decide +kernel
theorem dX5_duel_101 : decode cX5_duel 101 = .ok (.ifCond .eq 10, 3) := by decide +kernel
theorem dX5_duel_104 : decode cX5_duel 104 = .ok (.aload_n 0, 1) := by decide +kernel
theorem dX5_duel_105 : decode cX5_duel 105 = .ok (.invokevirtual 221, 3) := by decide +kernel
theorem dX5_duel_108 : decode cX5_duel 108 = .ok (.goto 5, 3) := by decide +kernel
theorem dX5_duel_111 : decode cX5_duel 111 = .ok (.bipush (-4), 2) := by decide +kernel
theorem dX5_duel_113 : decode cX5_duel 113 = .ok (.iastore, 1) := by decide +kernel
theorem dX5_duel_114 : decode cX5_duel 114 = .ok (.aload_n 0, 1) := by decide +kernel
theorem dX5_duel_115 : decode cX5_duel 115 = .ok (.invokevirtual 147, 3) := by decide +kernel
theorem dX5_duel_118 : decode cX5_duel 118 = .ok (.iinc 3 1, 3) := by decide +kernel
theorem dX5_duel_121 : decode cX5_duel 121 = .ok (.goto (-95), 3) := by decide +kernel
theorem dX5_duel_124 : decode cX5_duel 124 = .ok (.iload_n 1, 1) := by decide +kernel
theorem dX5_duel_125 : decode cX5_duel 125 = .ok (.iconst 1, 1) := by decide +kernel
theorem dX5_duel_126 : decode cX5_duel 126 = .ok (.isub, 1) := by decide +kernel
theorem dX5_duel_127 : decode cX5_duel 127 = .ok (.istore_n 3, 1) := by decide +kernel
theorem dX5_duel_128 : decode cX5_duel 128 = .ok (.iload_n 3, 1) := by decide +kernel
theorem dX5_duel_129 : decode cX5_duel 129 = .ok (.ifCond .lt 91, 3) := by decide +kernel
theorem dX5_duel_132 : decode cX5_duel 132 = .ok (.iload_n 2, 1) := by decide +kernel
theorem dX5_duel_133 : decode cX5_duel 133 = .ok (.iconst 3, 1) := by decide +kernel
theorem dX5_duel_134 : decode cX5_duel 134 = .ok (.idiv, 1) := by decide +kernel
theorem dX5_duel_135 : decode cX5_duel 135 = .ok (.istore_n 2, 1) := by decide +kernel
theorem dX5_duel_136 : decode cX5_duel 136 = .ok (.iconst 0, 1) := by decide +kernel
theorem dX5_duel_137 : decode cX5_duel 137 = .ok (.istore 4, 2) := by decide +kernel
theorem dX5_duel_139 : decode cX5_duel 139 = .ok (.iload 4, 2) := by decide +kernel
theorem dX5_duel_141 : decode cX5_duel 141 = .ok (.iload_n 2, 1) := by decide +kernel
theorem dX5_duel_142 : decode cX5_duel 142 = .ok (.if_icmp .ge 72, 3) := by decide +kernel
theorem dX5_duel_145 : decode cX5_duel 145 = .ok (.iload_n 3, 1) := by decide +kernel
theorem dX5_duel_146 : decode cX5_duel 146 = .ok (.iconst 2, 1) := by decide +kernel
theorem dX5_duel_147 : decode cX5_duel 147 = .ok (.irem, 1) := by decide +kernel
theorem dX5_duel_148 : decode cX5_duel 148 = .ok (.ifCond .ne 7, 3) := by decide +kernel
theorem dX5_duel_151 : decode cX5_duel 151 = .ok (.iconst 1, 1) := by decide +kernel
theorem dX5_duel_152 : decode cX5_duel 152 = .ok (.goto 4, 3) := by decide +kernel
theorem dX5_duel_155 : decode cX5_duel 155 = .ok (.iconst 0, 1) := by decide +kernel
theorem dX5_duel_156 : decode cX5_duel 156 = .ok (.istore 5, 2) := by decide +kernel
theorem dX5_duel_158 : decode cX5_duel 158 = .ok (.aload_n 0, 1) := by decide +kernel
theorem dX5_duel_159 : decode cX5_duel 159 = .ok (.getfield 52, 3) := by decide +kernel
theorem dX5_duel_162 : decode cX5_duel 162 = .ok (.iload 4, 2) := by decide +kernel
theorem dX5_duel_164 : decode cX5_duel 164 = .ok (.aload_n 0, 1) := by decide +kernel
theorem dX5_duel_165 : decode cX5_duel 165 = .ok (.aload_n 0, 1) := by decide +kernel
theorem dX5_duel_166 : decode cX5_duel 166 = .ok (.aload_n 0, 1) := by decide +kernel
theorem dX5_duel_167 : decode cX5_duel 167 = .ok (.getfield 52, 3) := by decide +kernel
theorem dX5_duel_170 : decode cX5_duel 170 = .ok (.iconst 3, 1) := by decide +kernel
theorem dX5_duel_171 : decode cX5_duel 171 = .ok (.iload 4, 2) := by decide +kernel
theorem dX5_duel_173 : decode cX5_duel 173 = .ok (.imul, 1) := by decide +kernel
theorem dX5_duel_174 : decode cX5_duel 174 = .ok (.iaload, 1) := by decide +kernel
theorem dX5_duel_175 : decode cX5_duel 175 = .ok (.aload_n 0, 1) := by decide +kernel
theorem dX5_duel_176 : decode cX5_duel 176 = .ok (.getfield 52, 3) := by decide +kernel
theorem dX5_duel_179 : decode cX5_duel 179 = .ok (.iconst 3, 1) := by decide +kernel
theorem dX5_duel_180 : decode cX5_duel 180 = .ok (.iload 4, 2) := by decide +kernel
theorem dX5_duel_182 : decode cX5_duel 182 = .ok (.imul, 1) := by decide +kernel
theorem dX5_duel_183 : decode cX5_duel 183 = .ok (.iconst 1, 1) := by decide +kernel
theorem dX5_duel_184 : decode cX5_duel 184 = .ok (.iadd, 1) := by decide +kernel
theorem dX5_duel_185 : decode cX5_duel 185 = .ok (.iaload, 1) := by decide +kernel
theorem dX5_duel_186 : decode cX5_duel 186 = .ok (.iload 5, 2) := by decide +kernel
theorem dX5_duel_188 : decode cX5_duel 188 = .ok (.invokevirtual 224, 3) := by decide +kernel
theorem dX5_duel_191 : decode cX5_duel 191 = .ok (.aload_n 0, 1) := by decide +kernel
theorem dX5_duel_192 : decode cX5_duel 192 = .ok (.getfield 52, 3) := by decide +kernel
theorem dX5_duel_195 : decode cX5_duel 195 = .ok (.iconst 3, 1) := by decide +kernel
theorem dX5_duel_196 : decode cX5_duel 196 = .ok (.iload 4, 2) := by decide +kernel
theorem dX5_duel_198 : decode cX5_duel 198 = .ok (.imul, 1) := by decide +kernel
theorem dX5_duel_199 : decode cX5_duel 199 = .ok (.iconst 2, 1) := by decide +kernel
theorem dX5_duel_200 : decode cX5_duel 200 = .ok (.iadd, 1) := by decide +kernel
theorem dX5_duel_201 : decode cX5_duel 201 = .ok (.iaload, 1) := by decide +kernel
theorem dX5_duel_202 : decode cX5_duel 202 = .ok (.iload 5, 2) := by decide +kernel
theorem dX5_duel_204 : decode cX5_duel 204 = .ok (.invokevirtual 224, 3) := by decide +kernel
theorem dX5_duel_207 : decode cX5_duel 207 = .ok (.iastore, 1) := by decide +kernel
theorem dX5_duel_208 : decode cX5_duel 208 = .ok (.iinc 4 1, 3) := by decide +kernel
theorem dX5_duel_211 : decode cX5_duel 211 = .ok (.goto (-72), 3) := by decide +kernel
theorem dX5_duel_214 : decode cX5_duel 214 = .ok (.iinc 3 (-1), 3) := by decide +kernel
theorem dX5_duel_217 : decode cX5_duel 217 = .ok (.goto (-89), 3) := by decide +kernel
theorem dX5_duel_220 : decode cX5_duel 220 = .ok (.aload_n 0, 1) := by decide +kernel
theorem dX5_duel_221 : decode cX5_duel 221 = .ok (.getfield 52, 3) := by decide +kernel
theorem dX5_duel_224 : decode cX5_duel 224 = .ok (.iconst 0, 1) := by decide +kernel
theorem dX5_duel_225 : decode cX5_duel 225 = .ok (.iaload, 1) := by decide +kernel
theorem dX5_duel_226 : decode cX5_duel 226 = .ok (.ireturn, 1) := by decide +kernel
theorem dX5_odds_0 : decode cX5_odds 0 = .ok (.iload_n 1, 1) := by decide +kernel
theorem dX5_odds_1 : decode cX5_odds 1 = .ok (.i2l, 1) := by decide +kernel
theorem dX5_odds_2 : decode cX5_odds 2 = .ok (.lconst 0, 1) := by decide +kernel
theorem dX5_odds_3 : decode cX5_odds 3 = .ok (.ldc2_w 198, 3) := by decide +kernel
theorem dX5_odds_6 : decode cX5_odds 6 = .ok (.invokestatic 62, 3) := by decide +kernel
theorem dX5_odds_9 : decode cX5_odds 9 = .ok (.ifCond .eq 22, 3) := by decide +kernel
theorem dX5_odds_12 : decode cX5_odds 12 = .ok (.iload_n 2, 1) := by decide +kernel
theorem dX5_odds_13 : decode cX5_odds 13 = .ok (.i2l, 1) := by decide +kernel
theorem dX5_odds_14 : decode cX5_odds 14 = .ok (.lconst 0, 1) := by decide +kernel
theorem dX5_odds_15 : decode cX5_odds 15 = .ok (.ldc2_w 228, 3) := by decide +kernel
theorem dX5_odds_18 : decode cX5_odds 18 = .ok (.invokestatic 62, 3) := by decide +kernel
theorem dX5_odds_21 : decode cX5_odds 21 = .ok (.ifCond .eq 10, 3) := by decide +kernel
theorem dX5_odds_24 : decode cX5_odds 24 = .ok (.iload_n 3, 1) := by decide +kernel
theorem dX5_odds_25 : decode cX5_odds 25 = .ok (.invokestatic 114, 3) := by decide +kernel
theorem dX5_odds_28 : decode cX5_odds 28 = .ok (.ifCond .ne 5, 3) := by decide +kernel
theorem dX5_odds_31 : decode cX5_odds 31 = .ok (.iconst (-1), 1) := by decide +kernel
theorem dX5_odds_32 : decode cX5_odds 32 = .ok (.ireturn, 1) := by decide +kernel
theorem dX5_odds_33 : decode cX5_odds 33 = .ok (.iload_n 1, 1) := by decide +kernel
theorem dX5_odds_34 : decode cX5_odds 34 = .ok (.aload_n 0, 1) := by decide +kernel
theorem dX5_odds_35 : decode cX5_odds 35 = .ok (.getfield 55, 3) := by decide +kernel
theorem dX5_odds_38 : decode cX5_odds 38 = .ok (.if_icmp .ge 7, 3) := by decide +kernel
theorem dX5_odds_41 : decode cX5_odds 41 = .ok (.iload_n 1, 1) := by decide +kernel
theorem dX5_odds_42 : decode cX5_odds 42 = .ok (.goto 7, 3) := by decide +kernel
theorem dX5_odds_45 : decode cX5_odds 45 = .ok (.aload_n 0, 1) := by decide +kernel
theorem dX5_odds_46 : decode cX5_odds 46 = .ok (.getfield 55, 3) := by decide +kernel
theorem dX5_odds_49 : decode cX5_odds 49 = .ok (.istore 4, 2) := by decide +kernel
theorem dX5_odds_51 : decode cX5_odds 51 = .ok (.aload_n 0, 1) := by decide +kernel
theorem dX5_odds_52 : decode cX5_odds 52 = .ok (.invokevirtual 141, 3) := by decide +kernel
theorem dX5_odds_55 : decode cX5_odds 55 = .ok (.iconst 0, 1) := by decide +kernel
theorem dX5_odds_56 : decode cX5_odds 56 = .ok (.istore 5, 2) := by decide +kernel
theorem dX5_odds_58 : decode cX5_odds 58 = .ok (.iconst 0, 1) := by decide +kernel
theorem dX5_odds_59 : decode cX5_odds 59 = .ok (.istore 6, 2) := by decide +kernel
theorem dX5_odds_61 : decode cX5_odds 61 = .ok (.iload 6, 2) := by decide +kernel
theorem dX5_odds_63 : decode cX5_odds 63 = .ok (.iconst 1, 1) := by decide +kernel
theorem dX5_odds_64 : decode cX5_odds 64 = .ok (.iload 4, 2) := by decide +kernel
theorem dX5_odds_66 : decode cX5_odds 66 = .ok (.ishl, 1) := by decide +kernel
theorem dX5_odds_67 : decode cX5_odds 67 = .ok (.if_icmp .ge 114, 3) := by decide +kernel
theorem dX5_odds_70 : decode cX5_odds 70 = .ok (.iconst 1, 1) := by decide +kernel
theorem dX5_odds_71 : decode cX5_odds 71 = .ok (.istore 7, 2) := by decide +kernel
theorem dX5_odds_73 : decode cX5_odds 73 = .ok (.iconst 0, 1) := by decide +kernel
theorem dX5_odds_74 : decode cX5_odds 74 = .ok (.istore 8, 2) := by decide +kernel
theorem dX5_odds_76 : decode cX5_odds 76 = .ok (.iload 8, 2) := by decide +kernel
theorem dX5_odds_78 : decode cX5_odds 78 = .ok (.iload 4, 2) := by decide +kernel
theorem dX5_odds_80 : decode cX5_odds 80 = .ok (.if_icmp .ge 70, 3) := by decide +kernel
theorem dX5_odds_83 : decode cX5_odds 83 = .ok (.iload 6, 2) := by decide +kernel
theorem dX5_odds_85 : decode cX5_odds 85 = .ok (.iload 8, 2) := by decide +kernel
theorem dX5_odds_87 : decode cX5_odds 87 = .ok (.ishr, 1) := by decide +kernel
theorem dX5_odds_88 : decode cX5_odds 88 = .ok (.iconst 1, 1) := by decide +kernel
theorem dX5_odds_89 : decode cX5_odds 89 = .ok (.iand, 1) := by decide +kernel
theorem dX5_odds_90 : decode cX5_odds 90 = .ok (.iconst 1, 1) := by decide +kernel
theorem dX5_odds_91 : decode cX5_odds 91 = .ok (.if_icmp .ne 7, 3) := by decide +kernel
theorem dX5_odds_94 : decode cX5_odds 94 = .ok (.iconst 1, 1) := by decide +kernel
theorem dX5_odds_95 : decode cX5_odds 95 = .ok (.goto 4, 3) := by decide +kernel
theorem dX5_odds_98 : decode cX5_odds 98 = .ok (.iconst 0, 1) := by decide +kernel
theorem dX5_odds_99 : decode cX5_odds 99 = .ok (.istore 9, 2) := by decide +kernel
theorem dX5_odds_101 : decode cX5_odds 101 = .ok (.iload 7, 2) := by decide +kernel
theorem dX5_odds_103 : decode cX5_odds 103 = .ok (.iload 9, 2) := by decide +kernel
theorem dX5_odds_105 : decode cX5_odds 105 = .ok (.ifCond .eq 7, 3) := by decide +kernel
theorem dX5_odds_108 : decode cX5_odds 108 = .ok (.iload_n 2, 1) := by decide +kernel
theorem dX5_odds_109 : decode cX5_odds 109 = .ok (.goto 7, 3) := by decide +kernel
theorem dX5_odds_112 : decode cX5_odds 112 = .ok (.bipush 10, 2) := by decide +kernel
theorem dX5_odds_114 : decode cX5_odds 114 = .ok (.iload_n 2, 1) := by decide +kernel
theorem dX5_odds_115 : decode cX5_odds 115 = .ok (.isub, 1) := by decide +kernel
theorem dX5_odds_116 : decode cX5_odds 116 = .ok (.imul, 1) := by decide +kernel
theorem dX5_odds_117 : decode cX5_odds 117 = .ok (.istore 7, 2) := by decide +kernel
theorem dX5_odds_119 : decode cX5_odds 119 = .ok (.iload 9, 2) := by decide +kernel
theorem dX5_odds_121 : decode cX5_odds 121 = .ok (.ifCond .ne 17, 3) := by decide +kernel
theorem dX5_odds_124 : decode cX5_odds 124 = .ok (.aload_n 0, 1) := by decide +kernel
theorem dX5_odds_125 : decode cX5_odds 125 = .ok (.aload_n 0, 1) := by decide +kernel
theorem dX5_odds_126 : decode cX5_odds 126 = .ok (.getfield 16, 3) := by decide +kernel
theorem dX5_odds_129 : decode cX5_odds 129 = .ok (.iload 8, 2) := by decide +kernel
theorem dX5_odds_131 : decode cX5_odds 131 = .ok (.iaload, 1) := by decide +kernel
theorem dX5_odds_132 : decode cX5_odds 132 = .ok (.invokevirtual 144, 3) := by decide +kernel
theorem dX5_odds_135 : decode cX5_odds 135 = .ok (.ifCond .ne 9, 3) := by decide +kernel
theorem dX5_odds_138 : decode cX5_odds 138 = .ok (.aload_n 0, 1) := by decide +kernel
theorem dX5_odds_139 : decode cX5_odds 139 = .ok (.iconst 3, 1) := by decide +kernel
theorem dX5_odds_140 : decode cX5_odds 140 = .ok (.invokevirtual 144, 3) := by decide +kernel
theorem dX5_odds_143 : decode cX5_odds 143 = .ok (.pop, 1) := by decide +kernel
theorem dX5_odds_144 : decode cX5_odds 144 = .ok (.iinc 8 1, 3) := by decide +kernel
theorem dX5_odds_147 : decode cX5_odds 147 = .ok (.goto (-71), 3) := by decide +kernel
theorem dX5_odds_150 : decode cX5_odds 150 = .ok (.iload 5, 2) := by decide +kernel
theorem dX5_odds_152 : decode cX5_odds 152 = .ok (.aload_n 0, 1) := by decide +kernel
theorem dX5_odds_153 : decode cX5_odds 153 = .ok (.getfield 19, 3) := by decide +kernel
theorem dX5_odds_156 : decode cX5_odds 156 = .ok (.bipush 8, 2) := by decide +kernel
theorem dX5_odds_158 : decode cX5_odds 158 = .ok (.iaload, 1) := by decide +kernel
theorem dX5_odds_159 : decode cX5_odds 159 = .ok (.ifCond .ne 8, 3) := by decide +kernel
theorem dX5_odds_162 : decode cX5_odds 162 = .ok (.iload 7, 2) := by decide +kernel
theorem dX5_odds_164 : decode cX5_odds 164 = .ok (.goto 4, 3) := by decide +kernel
theorem dX5_odds_167 : decode cX5_odds 167 = .ok (.iconst 0, 1) := by decide +kernel
theorem dX5_odds_168 : decode cX5_odds 168 = .ok (.iadd, 1) := by decide +kernel
theorem dX5_odds_169 : decode cX5_odds 169 = .ok (.istore 5, 2) := by decide +kernel
theorem dX5_odds_171 : decode cX5_odds 171 = .ok (.aload_n 0, 1) := by decide +kernel
theorem dX5_odds_172 : decode cX5_odds 172 = .ok (.invokevirtual 147, 3) := by decide +kernel
theorem dX5_odds_175 : decode cX5_odds 175 = .ok (.iinc 6 1, 3) := by decide +kernel
theorem dX5_odds_178 : decode cX5_odds 178 = .ok (.goto (-117), 3) := by decide +kernel
theorem dX5_odds_181 : decode cX5_odds 181 = .ok (.bipush 10, 2) := by decide +kernel
theorem dX5_odds_183 : decode cX5_odds 183 = .ok (.iload 4, 2) := by decide +kernel
theorem dX5_odds_185 : decode cX5_odds 185 = .ok (.invokestatic 156, 3) := by decide +kernel
theorem dX5_odds_188 : decode cX5_odds 188 = .ok (.istore 6, 2) := by decide +kernel
theorem dX5_odds_190 : decode cX5_odds 190 = .ok (.iload 5, 2) := by decide +kernel
theorem dX5_odds_192 : decode cX5_odds 192 = .ok (.iload 6, 2) := by decide +kernel
theorem dX5_odds_194 : decode cX5_odds 194 = .ok (.invokestatic 192, 3) := by decide +kernel
theorem dX5_odds_197 : decode cX5_odds 197 = .ok (.istore 7, 2) := by decide +kernel
theorem dX5_odds_199 : decode cX5_odds 199 = .ok (.iload_n 3, 1) := by decide +kernel
theorem dX5_odds_200 : decode cX5_odds 200 = .ok (.ifCond .ne 11, 3) := by decide +kernel
theorem dX5_odds_203 : decode cX5_odds 203 = .ok (.iload 5, 2) := by decide +kernel
theorem dX5_odds_205 : decode cX5_odds 205 = .ok (.iload 7, 2) := by decide +kernel
theorem dX5_odds_207 : decode cX5_odds 207 = .ok (.idiv, 1) := by decide +kernel
theorem dX5_odds_208 : decode cX5_odds 208 = .ok (.goto 8, 3) := by decide +kernel
theorem dX5_odds_211 : decode cX5_odds 211 = .ok (.iload 6, 2) := by decide +kernel
theorem dX5_odds_213 : decode cX5_odds 213 = .ok (.iload 7, 2) := by decide +kernel
theorem dX5_odds_215 : decode cX5_odds 215 = .ok (.idiv, 1) := by decide +kernel
theorem dX5_odds_216 : decode cX5_odds 216 = .ok (.ireturn, 1) := by decide +kernel
theorem dX5_evening_0 : decode cX5_evening 0 = .ok (.iload_n 1, 1) := by decide +kernel
theorem dX5_evening_1 : decode cX5_evening 1 = .ok (.i2l, 1) := by decide +kernel
theorem dX5_evening_2 : decode cX5_evening 2 = .ok (.lconst 0, 1) := by decide +kernel
theorem dX5_evening_3 : decode cX5_evening 3 = .ok (.ldc2_w 230, 3) := by decide +kernel
theorem dX5_evening_6 : decode cX5_evening 6 = .ok (.invokestatic 62, 3) := by decide +kernel
theorem dX5_evening_9 : decode cX5_evening 9 = .ok (.ifCond .eq 27, 3) := by decide +kernel
theorem dX5_evening_12 : decode cX5_evening 12 = .ok (.iload_n 2, 1) := by decide +kernel
theorem dX5_evening_13 : decode cX5_evening 13 = .ok (.i2l, 1) := by decide +kernel
theorem dX5_evening_14 : decode cX5_evening 14 = .ok (.lconst 1, 1) := by decide +kernel
theorem dX5_evening_15 : decode cX5_evening 15 = .ok (.ldc2_w 232, 3) := by decide +kernel
theorem dX5_evening_18 : decode cX5_evening 18 = .ok (.invokestatic 62, 3) := by decide +kernel
theorem dX5_evening_21 : decode cX5_evening 21 = .ok (.ifCond .eq 15, 3) := by decide +kernel
theorem dX5_evening_24 : decode cX5_evening 24 = .ok (.iload_n 3, 1) := by decide +kernel
theorem dX5_evening_25 : decode cX5_evening 25 = .ok (.i2l, 1) := by decide +kernel
theorem dX5_evening_26 : decode cX5_evening 26 = .ok (.lconst 0, 1) := by decide +kernel
theorem dX5_evening_27 : decode cX5_evening 27 = .ok (.ldc2_w 109, 3) := by decide +kernel
theorem dX5_evening_30 : decode cX5_evening 30 = .ok (.invokestatic 62, 3) := by decide +kernel
theorem dX5_evening_33 : decode cX5_evening 33 = .ok (.ifCond .ne 5, 3) := by decide +kernel
theorem dX5_evening_36 : decode cX5_evening 36 = .ok (.iconst (-1), 1) := by decide +kernel
theorem dX5_evening_37 : decode cX5_evening 37 = .ok (.ireturn, 1) := by decide +kernel
theorem dX5_evening_38 : decode cX5_evening 38 = .ok (.aload_n 0, 1) := by decide +kernel
theorem dX5_evening_39 : decode cX5_evening 39 = .ok (.invokevirtual 141, 3) := by decide +kernel
theorem dX5_evening_42 : decode cX5_evening 42 = .ok (.iconst 0, 1) := by decide +kernel
theorem dX5_evening_43 : decode cX5_evening 43 = .ok (.istore 4, 2) := by decide +kernel
theorem dX5_evening_45 : decode cX5_evening 45 = .ok (.iconst 0, 1) := by decide +kernel
theorem dX5_evening_46 : decode cX5_evening 46 = .ok (.istore 5, 2) := by decide +kernel
theorem dX5_evening_48 : decode cX5_evening 48 = .ok (.iconst 0, 1) := by decide +kernel
theorem dX5_evening_49 : decode cX5_evening 49 = .ok (.istore 6, 2) := by decide +kernel
theorem dX5_evening_51 : decode cX5_evening 51 = .ok (.iload 6, 2) := by decide +kernel
theorem dX5_evening_53 : decode cX5_evening 53 = .ok (.iload_n 2, 1) := by decide +kernel
theorem dX5_evening_54 : decode cX5_evening 54 = .ok (.if_icmp .ge 105, 3) := by decide +kernel
theorem dX5_evening_57 : decode cX5_evening 57 = .ok (.ldc2_w 234, 3) := by decide +kernel
theorem dX5_evening_60 : decode cX5_evening 60 = .ok (.iload_n 1, 1) := by decide +kernel
theorem dX5_evening_61 : decode cX5_evening 61 = .ok (.i2l, 1) := by decide +kernel
theorem dX5_evening_62 : decode cX5_evening 62 = .ok (.lmul, 1) := by decide +kernel
theorem dX5_evening_63 : decode cX5_evening 63 = .ok (.ldc2_w 236, 3) := by decide +kernel
theorem dX5_evening_66 : decode cX5_evening 66 = .ok (.iload 6, 2) := by decide +kernel
theorem dX5_evening_68 : decode cX5_evening 68 = .ok (.i2l, 1) := by decide +kernel
theorem dX5_evening_69 : decode cX5_evening 69 = .ok (.lmul, 1) := by decide +kernel
theorem dX5_evening_70 : decode cX5_evening 70 = .ok (.ladd, 1) := by decide +kernel
theorem dX5_evening_71 : decode cX5_evening 71 = .ok (.lconst 1, 1) := by decide +kernel
theorem dX5_evening_72 : decode cX5_evening 72 = .ok (.ladd, 1) := by decide +kernel
theorem dX5_evening_73 : decode cX5_evening 73 = .ok (.lstore 7, 2) := by decide +kernel
theorem dX5_evening_75 : decode cX5_evening 75 = .ok (.lload 7, 2) := by decide +kernel
theorem dX5_evening_77 : decode cX5_evening 77 = .ok (.lload 7, 2) := by decide +kernel
theorem dX5_evening_79 : decode cX5_evening 79 = .ok (.lmul, 1) := by decide +kernel
theorem dX5_evening_80 : decode cX5_evening 80 = .ok (.ldc2_w 238, 3) := by decide +kernel
theorem dX5_evening_83 : decode cX5_evening 83 = .ok (.lrem, 1) := by decide +kernel
theorem dX5_evening_84 : decode cX5_evening 84 = .ok (.l2i, 1) := by decide +kernel
theorem dX5_evening_85 : decode cX5_evening 85 = .ok (.istore 9, 2) := by decide +kernel
theorem dX5_evening_87 : decode cX5_evening 87 = .ok (.aload_n 0, 1) := by decide +kernel
theorem dX5_evening_88 : decode cX5_evening 88 = .ok (.iload 9, 2) := by decide +kernel
theorem dX5_evening_90 : decode cX5_evening 90 = .ok (.iconst 4, 1) := by decide +kernel
theorem dX5_evening_91 : decode cX5_evening 91 = .ok (.irem, 1) := by decide +kernel
theorem dX5_evening_92 : decode cX5_evening 92 = .ok (.invokevirtual 144, 3) := by decide +kernel
theorem dX5_evening_95 : decode cX5_evening 95 = .ok (.ifCond .ne 12, 3) := by decide +kernel
theorem dX5_evening_98 : decode cX5_evening 98 = .ok (.aload_n 0, 1) := by decide +kernel
theorem dX5_evening_99 : decode cX5_evening 99 = .ok (.iconst 3, 1) := by decide +kernel
theorem dX5_evening_100 : decode cX5_evening 100 = .ok (.invokevirtual 144, 3) := by decide +kernel
theorem dX5_evening_103 : decode cX5_evening 103 = .ok (.pop, 1) := by decide +kernel
theorem dX5_evening_104 : decode cX5_evening 104 = .ok (.iinc 5 1, 3) := by decide +kernel
theorem dX5_evening_107 : decode cX5_evening 107 = .ok (.iload 9, 2) := by decide +kernel
theorem dX5_evening_109 : decode cX5_evening 109 = .ok (.iconst 4, 1) := by decide +kernel
theorem dX5_evening_110 : decode cX5_evening 110 = .ok (.idiv, 1) := by decide +kernel
theorem dX5_evening_111 : decode cX5_evening 111 = .ok (.bipush 8, 2) := by decide +kernel
theorem dX5_evening_113 : decode cX5_evening 113 = .ok (.irem, 1) := by decide +kernel
theorem dX5_evening_114 : decode cX5_evening 114 = .ok (.ifCond .ne 19, 3) := by decide +kernel
theorem dX5_evening_117 : decode cX5_evening 117 = .ok (.aload_n 0, 1) := by decide +kernel
theorem dX5_evening_118 : decode cX5_evening 118 = .ok (.aload_n 0, 1) := by decide +kernel
theorem dX5_evening_119 : decode cX5_evening 119 = .ok (.getfield 19, 3) := by decide +kernel
theorem dX5_evening_122 : decode cX5_evening 122 = .ok (.iconst 0, 1) := by decide +kernel
theorem dX5_evening_123 : decode cX5_evening 123 = .ok (.iaload, 1) := by decide +kernel
theorem dX5_evening_124 : decode cX5_evening 124 = .ok (.aload_n 0, 1) := by decide +kernel
theorem dX5_evening_125 : decode cX5_evening 125 = .ok (.getfield 19, 3) := by decide +kernel
theorem dX5_evening_128 : decode cX5_evening 128 = .ok (.iconst 2, 1) := by decide +kernel
theorem dX5_evening_129 : decode cX5_evening 129 = .ok (.iaload, 1) := by decide +kernel
theorem dX5_evening_130 : decode cX5_evening 130 = .ok (.invokevirtual 153, 3) := by decide +kernel
theorem dX5_evening_133 : decode cX5_evening 133 = .ok (.iload 4, 2) := by decide +kernel
theorem dX5_evening_135 : decode cX5_evening 135 = .ok (.aload_n 0, 1) := by decide +kernel
theorem dX5_evening_136 : decode cX5_evening 136 = .ok (.getfield 19, 3) := by decide +kernel
theorem dX5_evening_139 : decode cX5_evening 139 = .ok (.bipush 8, 2) := by decide +kernel
theorem dX5_evening_141 : decode cX5_evening 141 = .ok (.iaload, 1) := by decide +kernel
theorem dX5_evening_142 : decode cX5_evening 142 = .ok (.ifCond .ne 7, 3) := by decide +kernel
theorem dX5_evening_145 : decode cX5_evening 145 = .ok (.iconst 1, 1) := by decide +kernel
theorem dX5_evening_146 : decode cX5_evening 146 = .ok (.goto 4, 3) := by decide +kernel
theorem dX5_evening_149 : decode cX5_evening 149 = .ok (.iconst 0, 1) := by decide +kernel
theorem dX5_evening_150 : decode cX5_evening 150 = .ok (.iadd, 1) := by decide +kernel
theorem dX5_evening_151 : decode cX5_evening 151 = .ok (.istore 4, 2) := by decide +kernel
theorem dX5_evening_153 : decode cX5_evening 153 = .ok (.iinc 6 1, 3) := by decide +kernel
theorem dX5_evening_156 : decode cX5_evening 156 = .ok (.goto (-105), 3) := by decide +kernel
theorem dX5_evening_159 : decode cX5_evening 159 = .ok (.aload_n 0, 1) := by decide +kernel
theorem dX5_evening_160 : decode cX5_evening 160 = .ok (.getfield 19, 3) := by decide +kernel
theorem dX5_evening_163 : decode cX5_evening 163 = .ok (.iconst 0, 1) := by decide +kernel
theorem dX5_evening_164 : decode cX5_evening 164 = .ok (.iaload, 1) := by decide +kernel
theorem dX5_evening_165 : decode cX5_evening 165 = .ok (.istore 6, 2) := by decide +kernel
theorem dX5_evening_167 : decode cX5_evening 167 = .ok (.aload_n 0, 1) := by decide +kernel
theorem dX5_evening_168 : decode cX5_evening 168 = .ok (.invokevirtual 147, 3) := by decide +kernel
theorem dX5_evening_171 : decode cX5_evening 171 = .ok (.iload_n 3, 1) := by decide +kernel
theorem dX5_evening_172 : decode cX5_evening 172 = .ok (.ifCond .ne 8, 3) := by decide +kernel
theorem dX5_evening_175 : decode cX5_evening 175 = .ok (.iload 4, 2) := by decide +kernel
theorem dX5_evening_177 : decode cX5_evening 177 = .ok (.goto 15, 3) := by decide +kernel
theorem dX5_evening_180 : decode cX5_evening 180 = .ok (.iload_n 3, 1) := by decide +kernel
theorem dX5_evening_181 : decode cX5_evening 181 = .ok (.iconst 1, 1) := by decide +kernel
theorem dX5_evening_182 : decode cX5_evening 182 = .ok (.if_icmp .ne 8, 3) := by decide +kernel
theorem dX5_evening_185 : decode cX5_evening 185 = .ok (.iload 5, 2) := by decide +kernel
theorem dX5_evening_187 : decode cX5_evening 187 = .ok (.goto 5, 3) := by decide +kernel
theorem dX5_evening_190 : decode cX5_evening 190 = .ok (.iload 6, 2) := by decide +kernel
theorem dX5_evening_192 : decode cX5_evening 192 = .ok (.ireturn, 1) := by decide +kernel
theorem dX5_keep_0 : decode cX5_keep 0 = .ok (.aload_n 0, 1) := by decide +kernel
theorem dX5_keep_1 : decode cX5_keep 1 = .ok (.getfield 71, 3) := by decide +kernel
theorem dX5_keep_4 : decode cX5_keep 4 = .ok (.iconst 2, 1) := by decide +kernel
theorem dX5_keep_5 : decode cX5_keep 5 = .ok (.if_icmp .ne 6, 3) := by decide +kernel
theorem dX5_keep_8 : decode cX5_keep 8 = .ok (.bipush (-3), 2) := by decide +kernel
theorem dX5_keep_10 : decode cX5_keep 10 = .ok (.ireturn, 1) := by decide +kernel
theorem dX5_keep_11 : decode cX5_keep 11 = .ok (.iconst 0, 1) := by decide +kernel
theorem dX5_keep_12 : decode cX5_keep 12 = .ok (.istore_n 1, 1) := by decide +kernel
theorem dX5_keep_13 : decode cX5_keep 13 = .ok (.iload_n 1, 1) := by decide +kernel
theorem dX5_keep_14 : decode cX5_keep 14 = .ok (.bipush 12, 2) := by decide +kernel
theorem dX5_keep_16 : decode cX5_keep 16 = .ok (.if_icmp .ge 29, 3) := by decide +kernel
theorem dX5_keep_19 : decode cX5_keep 19 = .ok (.aload_n 0, 1) := by decide +kernel
theorem dX5_keep_20 : decode cX5_keep 20 = .ok (.getfield 25, 3) := by decide +kernel
theorem dX5_keep_23 : decode cX5_keep 23 = .ok (.bipush 12, 2) := by decide +kernel
theorem dX5_keep_25 : decode cX5_keep 25 = .ok (.aload_n 0, 1) := by decide +kernel
theorem dX5_keep_26 : decode cX5_keep 26 = .ok (.getfield 71, 3) := by decide +kernel
theorem dX5_keep_29 : decode cX5_keep 29 = .ok (.imul, 1) := by decide +kernel
theorem dX5_keep_30 : decode cX5_keep 30 = .ok (.iload_n 1, 1) := by decide +kernel
theorem dX5_keep_31 : decode cX5_keep 31 = .ok (.iadd, 1) := by decide +kernel
theorem dX5_keep_32 : decode cX5_keep 32 = .ok (.aload_n 0, 1) := by decide +kernel
theorem dX5_keep_33 : decode cX5_keep 33 = .ok (.getfield 19, 3) := by decide +kernel
theorem dX5_keep_36 : decode cX5_keep 36 = .ok (.iload_n 1, 1) := by decide +kernel
theorem dX5_keep_37 : decode cX5_keep 37 = .ok (.iaload, 1) := by decide +kernel
theorem dX5_keep_38 : decode cX5_keep 38 = .ok (.iastore, 1) := by decide +kernel
theorem dX5_keep_39 : decode cX5_keep 39 = .ok (.iinc 1 1, 3) := by decide +kernel
theorem dX5_keep_42 : decode cX5_keep 42 = .ok (.goto (-29), 3) := by decide +kernel
theorem dX5_keep_45 : decode cX5_keep 45 = .ok (.aload_n 0, 1) := by decide +kernel
theorem dX5_keep_46 : decode cX5_keep 46 = .ok (.dup, 1) := by decide +kernel
theorem dX5_keep_47 : decode cX5_keep 47 = .ok (.getfield 71, 3) := by decide +kernel
theorem dX5_keep_50 : decode cX5_keep 50 = .ok (.iconst 1, 1) := by decide +kernel
theorem dX5_keep_51 : decode cX5_keep 51 = .ok (.iadd, 1) := by decide +kernel
theorem dX5_keep_52 : decode cX5_keep 52 = .ok (.putfield 71, 3) := by decide +kernel
theorem dX5_keep_55 : decode cX5_keep 55 = .ok (.aload_n 0, 1) := by decide +kernel
theorem dX5_keep_56 : decode cX5_keep 56 = .ok (.getfield 71, 3) := by decide +kernel
theorem dX5_keep_59 : decode cX5_keep 59 = .ok (.ireturn, 1) := by decide +kernel
theorem dX5_back_0 : decode cX5_back 0 = .ok (.aload_n 0, 1) := by decide +kernel
theorem dX5_back_1 : decode cX5_back 1 = .ok (.getfield 71, 3) := by decide +kernel
theorem dX5_back_4 : decode cX5_back 4 = .ok (.ifCond .ne 6, 3) := by decide +kernel
theorem dX5_back_7 : decode cX5_back 7 = .ok (.bipush (-2), 2) := by decide +kernel
theorem dX5_back_9 : decode cX5_back 9 = .ok (.ireturn, 1) := by decide +kernel
theorem dX5_back_10 : decode cX5_back 10 = .ok (.aload_n 0, 1) := by decide +kernel
theorem dX5_back_11 : decode cX5_back 11 = .ok (.dup, 1) := by decide +kernel
theorem dX5_back_12 : decode cX5_back 12 = .ok (.getfield 71, 3) := by decide +kernel
theorem dX5_back_15 : decode cX5_back 15 = .ok (.iconst 1, 1) := by decide +kernel
theorem dX5_back_16 : decode cX5_back 16 = .ok (.isub, 1) := by decide +kernel
theorem dX5_back_17 : decode cX5_back 17 = .ok (.putfield 71, 3) := by decide +kernel
theorem dX5_back_20 : decode cX5_back 20 = .ok (.iconst 0, 1) := by decide +kernel
theorem dX5_back_21 : decode cX5_back 21 = .ok (.istore_n 1, 1) := by decide +kernel
theorem dX5_back_22 : decode cX5_back 22 = .ok (.iload_n 1, 1) := by decide +kernel
theorem dX5_back_23 : decode cX5_back 23 = .ok (.bipush 12, 2) := by decide +kernel
theorem dX5_back_25 : decode cX5_back 25 = .ok (.if_icmp .ge 29, 3) := by decide +kernel
theorem dX5_back_28 : decode cX5_back 28 = .ok (.aload_n 0, 1) := by decide +kernel
theorem dX5_back_29 : decode cX5_back 29 = .ok (.getfield 19, 3) := by decide +kernel
theorem dX5_back_32 : decode cX5_back 32 = .ok (.iload_n 1, 1) := by decide +kernel
theorem dX5_back_33 : decode cX5_back 33 = .ok (.aload_n 0, 1) := by decide +kernel
theorem dX5_back_34 : decode cX5_back 34 = .ok (.getfield 25, 3) := by decide +kernel
theorem dX5_back_37 : decode cX5_back 37 = .ok (.bipush 12, 2) := by decide +kernel
theorem dX5_back_39 : decode cX5_back 39 = .ok (.aload_n 0, 1) := by decide +kernel
theorem dX5_back_40 : decode cX5_back 40 = .ok (.getfield 71, 3) := by decide +kernel
theorem dX5_back_43 : decode cX5_back 43 = .ok (.imul, 1) := by decide +kernel
theorem dX5_back_44 : decode cX5_back 44 = .ok (.iload_n 1, 1) := by decide +kernel
theorem dX5_back_45 : decode cX5_back 45 = .ok (.iadd, 1) := by decide +kernel
theorem dX5_back_46 : decode cX5_back 46 = .ok (.iaload, 1) := by decide +kernel
theorem dX5_back_47 : decode cX5_back 47 = .ok (.iastore, 1) := by decide +kernel
theorem dX5_back_48 : decode cX5_back 48 = .ok (.iinc 1 1, 3) := by decide +kernel
theorem dX5_back_51 : decode cX5_back 51 = .ok (.goto (-29), 3) := by decide +kernel
theorem dX5_back_54 : decode cX5_back 54 = .ok (.aload_n 0, 1) := by decide +kernel
theorem dX5_back_55 : decode cX5_back 55 = .ok (.iconst 0, 1) := by decide +kernel
theorem dX5_back_56 : decode cX5_back 56 = .ok (.putfield 68, 3) := by decide +kernel
theorem dX5_back_59 : decode cX5_back 59 = .ok (.aload_n 0, 1) := by decide +kernel
theorem dX5_back_60 : decode cX5_back 60 = .ok (.getfield 71, 3) := by decide +kernel
theorem dX5_back_63 : decode cX5_back 63 = .ok (.ireturn, 1) := by decide +kernel
theorem dX5_count_0 : decode cX5_count 0 = .ok (.iload_n 1, 1) := by decide +kernel
theorem dX5_count_1 : decode cX5_count 1 = .ok (.tableswitch 84 0 6 #[43, 48, 56, 64, 69, 74, 79], 43) := by decide +kernel
theorem dX5_count_44 : decode cX5_count 44 = .ok (.aload_n 0, 1) := by decide +kernel
theorem dX5_count_45 : decode cX5_count 45 = .ok (.getfield 55, 3) := by decide +kernel
theorem dX5_count_48 : decode cX5_count 48 = .ok (.ireturn, 1) := by decide +kernel
theorem dX5_count_49 : decode cX5_count 49 = .ok (.aload_n 0, 1) := by decide +kernel
theorem dX5_count_50 : decode cX5_count 50 = .ok (.getfield 19, 3) := by decide +kernel
theorem dX5_count_53 : decode cX5_count 53 = .ok (.bipush 10, 2) := by decide +kernel
theorem dX5_count_55 : decode cX5_count 55 = .ok (.iaload, 1) := by decide +kernel
theorem dX5_count_56 : decode cX5_count 56 = .ok (.ireturn, 1) := by decide +kernel
theorem dX5_count_57 : decode cX5_count 57 = .ok (.aload_n 0, 1) := by decide +kernel
theorem dX5_count_58 : decode cX5_count 58 = .ok (.getfield 19, 3) := by decide +kernel
theorem dX5_count_61 : decode cX5_count 61 = .ok (.bipush 11, 2) := by decide +kernel
theorem dX5_count_63 : decode cX5_count 63 = .ok (.iaload, 1) := by decide +kernel
theorem dX5_count_64 : decode cX5_count 64 = .ok (.ireturn, 1) := by decide +kernel
theorem dX5_count_65 : decode cX5_count 65 = .ok (.aload_n 0, 1) := by decide +kernel
theorem dX5_count_66 : decode cX5_count 66 = .ok (.getfield 68, 3) := by decide +kernel
theorem dX5_count_69 : decode cX5_count 69 = .ok (.ireturn, 1) := by decide +kernel
theorem dX5_count_70 : decode cX5_count 70 = .ok (.aload_n 0, 1) := by decide +kernel
theorem dX5_count_71 : decode cX5_count 71 = .ok (.getfield 71, 3) := by decide +kernel
theorem dX5_count_74 : decode cX5_count 74 = .ok (.ireturn, 1) := by decide +kernel
theorem dX5_count_75 : decode cX5_count 75 = .ok (.aload_n 0, 1) := by decide +kernel
theorem dX5_count_76 : decode cX5_count 76 = .ok (.getfield 74, 3) := by decide +kernel
theorem dX5_count_79 : decode cX5_count 79 = .ok (.ireturn, 1) := by decide +kernel
theorem dX5_count_80 : decode cX5_count 80 = .ok (.aload_n 0, 1) := by decide +kernel
theorem dX5_count_81 : decode cX5_count 81 = .ok (.getfield 81, 3) := by decide +kernel
theorem dX5_count_84 : decode cX5_count 84 = .ok (.ireturn, 1) := by decide +kernel
theorem dX5_count_85 : decode cX5_count 85 = .ok (.iconst (-1), 1) := by decide +kernel
theorem dX5_count_86 : decode cX5_count 86 = .ok (.ireturn, 1) := by decide +kernel
end
section
/-! ===== the layer: one world of numbered objects, its store, and rows over it ===== -/
def rd_gt : List Cond := lw_tbl.filter goodWord
theorem rd_gt_of {w : Cond} (i : Nat) (h : lw_tbl[i]? = some w) (g : goodWord w = true) : w ∈ rd_gt := List.mem_filter.mpr ⟨List.mem_of_getElem? h, g⟩
theorem rd_gt_good {w : Cond} (h : w ∈ rd_gt) : goodWord w = true := (List.mem_filter.mp h).2
def rd_ws (y : MethodName) (cc : ByteArray) (n : Nat) (ret : Option FieldType) : List Cond := .code y cc n ret :: rd_gt
theorem rd_goodIn {y : MethodName} {cc : ByteArray} {n : Nat} {ret : Option FieldType} (h : Cond.code y cc n ret ∈ rd_gt) : GoodIn rd_gt (rd_ws y cc n ret) := by
  intro w hw
  have hm : w ∈ rd_gt := by
    rcases List.mem_cons.mp hw with rfl | hw
    · exact h
    · exact hw
  exact ⟨hm, good_of_word (rd_gt_good hm)⟩
/-- what kind the object of a number is: 0 to 5 a class of vwCl, 6 bytes, 7 ints, 8 Stands -/
def rd_kd (o : Nat) : Nat := [4, 1, 6, 3, 3, 0, 8, 3, 3, 3, 3, 3, 3, 3, 3, 0, 8, 3, 3, 2, 8, 3, 3, 3, 3, 3, 3, 3, 3, 7, 7, 7, 7, 5].getD o 7
def rd_len (o : Nat) : Nat := [0, 0, 200, 0, 0, 0, 8, 0, 0, 0, 0, 0, 0, 0, 0, 0, 2, 0, 0, 0, 8, 0, 0, 0, 0, 0, 0, 0, 0, 6, 6, 6, 6, 0, 4, 4, 12, 12, 96, 24, 18, 200, 4, 4, 12, 12, 6, 4, 243].getD o 0
/-- whose address a reference's place holds -/
def rd_rf (o k : Nat) : Nat :=
  if o = 0 then [1, 3, 4, 5, 15, 19, 29, 30, 31, 32].getD k 0 else if o = 1 then 2 else if o = 5 then 6 else if o = 15 then 16 else if o = 19 then 20
  else if o = 6 then 7 + k else if o = 16 then 17 + k else if o = 20 then 21 + k
  else [34, 35, 36, 0, 37, 38, 0, 39, 0, 40, 0, 41, 0, 42, 43, 44, 0, 0, 0, 45, 0, 0, 46, 47, 48].getD k 0
def rd_isr (c k : Nat) : Bool := match c with
  | 0 => k == 0
  | 1 => k == 0
  | 2 => k == 0
  | 3 => false
  | 4 => k < 10
  | _ => [true, true, true, false, true, true, false, true, false, true, false, true, false, true, true, true, false, false, false, true, false, false, true, true, true].getD k false
def rd_nf (c : Nat) : Nat := [3, 6, 9, 6, 14, 25].getD c 0
abbrev rd_S : Type := Nat → Nat → Int32
abbrev rd_G : Type := va_G × (Nat → Nat) × ClassId × ClassId × ClassId
def rd_fv (ad : Nat → Nat) (σ : rd_S) (o k : Nat) : Value := if rd_isr (rd_kd o) k = true then .ref (ad (rd_rf o k)) else .int (σ o k)
def rd_cell (g : rd_G) (σ : rd_S) (o : Nat) : va_E :=
  if rd_kd o < 6 then .inr (rd_kd o, (List.range (rd_nf (rd_kd o))).map (rd_fv g.2.1 σ o))
  else if rd_kd o = 6 then .inl (g.2.2.1, rd_len o, .inl (σ o))
  else if rd_kd o = 7 then .inl (g.2.2.2.1, rd_len o, .inl (σ o))
  else .inl (g.2.2.2.2, rd_len o, .inr (.inr (.inr (.inr (fun j => some (g.2.1 (rd_rf o j)))))))
def rd_wd (N : Nat) (g : rd_G) (σ : rd_S) : va_W := (List.range N).map (fun o => (g.2.1 o, rd_cell g σ o))
def rd_tys (g : rd_G) : List (ClassId × FieldType) := [(g.2.2.1, .byte), (g.2.2.2.1, .int), (g.2.2.2.2, .object RX3)]
def rd_A (N : Nat) (g : rd_G) : Nat → Prop := fun q => ∃ o, o < N ∧ q = g.2.1 o
def rd_B (N : Nat) (g : rd_G) (σ : rd_S) (U : State) : Prop := va_P g.1 vwCl (rd_wd N g σ) U.heap ∧ va_K g.1 vwCl (rd_tys g) U ∧ va_D (rd_A N g) (rd_wd N g σ)
def rd_u2 (σ : rd_S) (o k : Nat) (v : Int32) : rd_S := fun a b => if a = o ∧ b = k then v else σ a b
def rd_tr (ad : Nat → Nat) (v : Value) : Value := match v with
  | .ref o => .ref (ad o)
  | w => w
theorem rd_tr_cat (ad : Nat → Nat) (v : Value) : (rd_tr ad v).category = v.category := by cases v <;> rfl
theorem rd_wd_at {N o : Nat} {g : rd_G} {σ : rd_S} (h : o < N) : (rd_wd N g σ)[o]? = some (g.2.1 o, rd_cell g σ o) := by
  simp [rd_wd, h]
theorem rd_wd_set {N o : Nat} {g : rd_G} {σ σ' : rd_S} (h : o < N) {e : va_E} (he : rd_cell g σ' o = e) (hn : ∀ b, b ≠ o → rd_cell g σ' b = rd_cell g σ b) : (rd_wd N g σ).set o (g.2.1 o, e) = rd_wd N g σ' := by
  apply List.ext_getElem?
  intro b
  by_cases hb : b = o
  · subst hb
    rw [List.getElem?_set_self (by simp [rd_wd, h]), rd_wd_at h, he]
  · rw [List.getElem?_set_ne (Ne.symm hb)]
    by_cases hbN : b < N
    · rw [rd_wd_at hbN, rd_wd_at hbN, hn b hb]
    · rw [List.getElem?_eq_none (by simp [rd_wd]; omega), List.getElem?_eq_none (by simp [rd_wd]; omega)]
theorem rd_u2_ne {σ : rd_S} {o k b : Nat} {v : Int32} (h : b ≠ o) : rd_u2 σ o k v b = σ b := by
  funext j
  simp [rd_u2, h]
theorem rd_u2_row {σ : rd_S} {o k : Nat} {v : Int32} : rd_u2 σ o k v o = upd (σ o) k v := by
  funext j
  simp [rd_u2, upd]
theorem rd_cell_ne {g : rd_G} {σ : rd_S} {o k b : Nat} {v : Int32} (h : b ≠ o) : rd_cell g (rd_u2 σ o k v) b = rd_cell g σ b := by
  have e : rd_fv g.2.1 (rd_u2 σ o k v) b = rd_fv g.2.1 σ b := by
    funext j
    simp [rd_fv, rd_u2_ne h]
  simp [rd_cell, e, rd_u2_ne h]
theorem rd_cell_obj {g : rd_G} {σ : rd_S} {o c : Nat} (hk : rd_kd o = c) (hc : c < 6) : rd_cell g σ o = .inr (c, (List.range (rd_nf c)).map (rd_fv g.2.1 σ o)) := by
  subst hk
  simp [rd_cell, hc]
theorem rd_set_fields {g : rd_G} {σ : rd_S} {o c k : Nat} {v : Int32} (hk : rd_kd o = c) (hn : k < rd_nf c) (hr : rd_isr c k = false) : ((List.range (rd_nf c)).map (rd_fv g.2.1 σ o)).set k (.int v) = (List.range (rd_nf c)).map (rd_fv g.2.1 (rd_u2 σ o k v) o) := by
  apply List.ext_getElem?
  intro b
  by_cases hb : b = k
  · subst hb
    rw [List.getElem?_set_self (by simpa using hn)]
    simp [hn, rd_fv, hk, hr, rd_u2]
  · rw [List.getElem?_set_ne (Ne.symm hb)]
    by_cases hbN : b < rd_nf c
    · simp [hbN, rd_fv, rd_u2, hb]
    · simp [hbN]
/-- the locals of a frame: a list by their places; .retAddr 0 where nothing is known -/
def rd_L (ad : Nat → Nat) (nL : Nat) (ls : List Value) (L : Array Slot) : Prop := L.size = nL ∧ lv_wf L ∧ ls.length = nL ∧ ∀ (i : Nat) (v : Value), ls[i]? = some v → v ≠ .retAddr 0 → L[i]? = some (.val (rd_tr ad v))
def rd_lv (ad : Nat → Nat) (ls : List Value) : List (Nat × Value) := (List.range ls.length).filterMap (fun i => if ls.getD i (.retAddr 0) = .retAddr 0 then none else some (i, rd_tr ad (ls.getD i (.retAddr 0))))
theorem rd_lv_mem {ad : Nat → Nat} {ls : List Value} {i : Nat} {v : Value} (h : ls[i]? = some v) (hv : v ≠ .retAddr 0) : (i, rd_tr ad v) ∈ rd_lv ad ls := by
  refine List.mem_filterMap.mpr ⟨i, List.mem_range.mpr (List.getElem?_eq_some_iff.mp h).1, ?_⟩
  have e : ls.getD i (.retAddr 0) = v := by simp [h]
  rw [e, if_neg hv]
theorem rd_L_has {ad : Nat → Nat} {nL : Nat} {ls : List Value} {L : Array Slot} (h : rd_L ad nL ls L) : lv_has L nL (rd_lv ad ls) := by
  refine ⟨h.1, h.2.1, fun q hq => ?_⟩
  obtain ⟨i, hi, he⟩ := List.mem_filterMap.mp hq
  have hi := List.mem_range.mp hi
  have e : ls[i]? = some (ls.getD i (.retAddr 0)) := by simp [hi]
  by_cases hv : ls.getD i (.retAddr 0) = .retAddr 0
  · rw [if_pos hv] at he
    cases he
  · rw [if_neg hv] at he
    cases he
    exact h.2.2.2 i _ e hv
/-- no long lies across the place -/
def rd_ok1 (ls : List Value) (i : Nat) : Bool := match i with
  | 0 => true
  | j + 1 => (ls.getD j (.retAddr 0)).category == 1
theorem rd_L_store {ad : Nat → Nat} {nL i : Nat} {ls : List Value} {v : Value} {L L' : Array Slot} (h : rd_L ad nL ls L) (hi : i < nL) (hok : rd_ok1 ls i = true) (h' : lv_has L' nL ((i, rd_tr ad v) :: (rd_lv ad ls).filter (fun q => !(q.1 == i) && !(q.1 + 1 == i && q.2.category == 2)))) : rd_L ad nL (ls.set i v) L' := by
  refine ⟨h'.1, h'.2.1, by rw [List.length_set]; exact h.2.2.1, fun j w hj hw => ?_⟩
  by_cases hji : j = i
  · subst hji
    rw [List.getElem?_set_self (by rw [h.2.2.1]; exact hi)] at hj
    cases hj
    exact h'.2.2 _ List.mem_cons_self
  · rw [List.getElem?_set_ne (Ne.symm hji)] at hj
    refine h'.2.2 (j, rd_tr ad w) (List.mem_cons_of_mem _ (List.mem_filter.mpr ⟨rd_lv_mem hj hw, ?_⟩))
    have h1 : (j == i) = false := by simp [hji]
    by_cases h2 : j + 1 = i
    · subst h2
      have h3 : w.category = 1 := by
        simp [rd_ok1, hj] at hok
        exact hok
      simp [h1, rd_tr_cat, h3]
    · simp [h1, h2]
theorem rd_L_store2 {ad : Nat → Nat} {nL i : Nat} {ls : List Value} {v : Value} {L L' : Array Slot} (h : rd_L ad nL ls L) (hi : i + 1 < nL) (hok : rd_ok1 ls i = true) (h' : lv_has L' nL ((i, rd_tr ad v) :: (rd_lv ad ls).filter (fun q => !(q.1 == i) && (!(q.1 == i + 1) && !(q.1 + 1 == i && q.2.category == 2))))) : rd_L ad nL ((ls.set i v).set (i + 1) (.retAddr 0)) L' := by
  refine ⟨h'.1, h'.2.1, by rw [List.length_set, List.length_set]; exact h.2.2.1, fun j w hj hw => ?_⟩
  by_cases hj1 : j = i + 1
  · subst hj1
    rw [List.getElem?_set_self (by rw [List.length_set, h.2.2.1]; exact hi)] at hj
    cases hj
    exact absurd rfl hw
  · rw [List.getElem?_set_ne (Ne.symm hj1)] at hj
    by_cases hji : j = i
    · subst hji
      rw [List.getElem?_set_self (by rw [h.2.2.1]; omega)] at hj
      cases hj
      exact h'.2.2 _ List.mem_cons_self
    · rw [List.getElem?_set_ne (Ne.symm hji)] at hj
      refine h'.2.2 (j, rd_tr ad w) (List.mem_cons_of_mem _ (List.mem_filter.mpr ⟨rd_lv_mem hj hw, ?_⟩))
      have h1 : (j == i) = false := by simp [hji]
      have h1' : (j == i + 1) = false := by simp [hj1]
      by_cases h2 : j + 1 = i
      · subst h2
        have h3 : w.category = 1 := by
          simp [rd_ok1, hj] at hok
          exact hok
        simp [h1, hj1, rd_tr_cat, h3]
      · simp [h1, h2, hj1]
def rd_en : List Value → List Value
  | [] => []
  | v :: r => if v.category = 2 then v :: .retAddr 0 :: rd_en r else v :: rd_en r
theorem rd_en_len (ad : Nat → Nat) (as : List Value) : (lg_sl (as.map (rd_tr ad))).length = (rd_en as).length := by
  induction as with
  | nil => rfl
  | cons v r ih =>
    have e : lg_sl ((v :: r).map (rd_tr ad)) = (if v.category = 2 then [.val (rd_tr ad v), .second] else [.val (rd_tr ad v)]) ++ lg_sl (r.map (rd_tr ad)) := by
      simp [lg_sl, rd_tr_cat]
    rw [e, List.length_append, ih]
    by_cases hc : v.category = 2 <;> simp [rd_en, hc] <;> omega
theorem rd_en_at (ad : Nat → Nat) (as : List Value) : ∀ (b i : Nat) (v : Value), (rd_en as)[i]? = some v → v ≠ .retAddr 0 → (b + i, rd_tr ad v) ∈ lv_args b (as.map (rd_tr ad)) := by
  induction as with
  | nil => intro b i v h; simp [rd_en] at h
  | cons a r ih =>
    intro b i v h hv
    by_cases hc : a.category = 2
    · simp only [rd_en, if_pos hc] at h
      simp only [List.map_cons, lv_args, rd_tr_cat, if_pos hc]
      match i, h with
      | 0, h => simp at h; subst h; simp
      | 1, h => simp at h; exact absurd h.symm hv
      | j + 2, h =>
        have h2 : (rd_en r)[j]? = some v := by simpa using h
        have := ih (b + 2) j v h2 hv
        rw [show b + (j + 2) = b + 2 + j by omega]
        exact List.mem_cons_of_mem _ this
    · simp only [rd_en, if_neg hc] at h
      simp only [List.map_cons, lv_args, rd_tr_cat, if_neg hc]
      match i, h with
      | 0, h => simp at h; subst h; simp
      | j + 1, h =>
        have h2 : (rd_en r)[j]? = some v := by simpa using h
        have := ih (b + 1) j v h2 hv
        rw [show b + (j + 1) = b + 1 + j by omega]
        exact List.mem_cons_of_mem _ this
/-- the links to nest mates' private members: these words are carried by the state -/
def rd_isN (w : Cond) : Option (String × Nat × MethodName × String) := match w with
  | .methodLinkNest a i x h => some (a, i, x, h)
  | _ => none
def rd_nw : List (String × Nat × MethodName × String) := lw_tbl.filterMap rd_isN
def rd_NW (U : State) : Prop := ∀ q ∈ rd_nw, va_Nw (.methodLinkNest q.1 q.2.1 q.2.2.1 q.2.2.2) U
theorem rd_nw_of {a : String} {i : Nat} {x : MethodName} {h : String} (k : Nat) (e : lw_tbl[k]? = some (.methodLinkNest a i x h)) : (a, i, x, h) ∈ rd_nw := List.mem_filterMap.mpr ⟨_, List.mem_of_getElem? e, rfl⟩
theorem rd_NW.warm {s U : State} (hW : s.WarmedH U.vm) (h : rd_NW s) : rd_NW U := fun q hq => va_Nw.warmM hW (h q hq)
theorem rd_NW.same {u U : State} (e : u.vm = U.vm) (h : rd_NW u) : rd_NW U := fun q hq => va_Nw.same rfl e (h q hq)
theorem rd_NW.of {args : Array Value} {s : State} (h : ∀ w ∈ lw_tbl, w.before args s = true) : rd_NW s := by
  intro q hq
  obtain ⟨w, hw, he⟩ := List.mem_filterMap.mp hq
  cases w <;> simp only [rd_isN] at he <;> cases he
  exact va_Nw.of rfl (h _ hw)
/-- room for calls d deep -/
def rd_rm (d : Nat) : Room := { frames := d, cells := 0, slots := 0, locals := 64 * d }
def rd_Qc (N : Nat) (g : rd_G) (ret : Option FieldType) (Q : Option Value → rd_S → Prop) : Array Value → State → Outcome → State → Prop := match ret with
  | none => va_Qv (fun u => Q none u) (rd_B N g) (rd_A N g)
  | some _ => va_Qi (fun r u => Q (some (.int r)) u) (rd_B N g) (rd_A N g)
def rd_cx (p : Program) (R : Room) (s : State) (m : MethodId) (args : Array Value) (meth : Method) (c : Code) (d : Nat) (own : String) (cc : ByteArray) (nL : Nat) (ret : Option FieldType) (g : rd_G) : Prop :=
  p.tables.exec = Jvm.exec ∧ c.code = cc ∧ c.maxLocals = nL ∧ meth.sig.returnType = ret ∧ meth.locks = false ∧ s.vm.findClass own = some m.cls ∧ (∀ w ∈ rd_gt, w.before args s = true) ∧ va_K g.1 vwCl (rd_tys g) s ∧ d ≤ R.frames ∧ 64 * d ≤ R.locals ∧ rd_NW s
/-- the machine, at pc of a method's code with these locals, stack and store, comes to its return, and Q holds of what it answers and of the store then -/
def rd_W (N d : Nat) (own : String) (cc : ByteArray) (nL : Nat) (ret : Option FieldType) (pc : Nat) (ls st : List Value) (σ : rd_S) (Q : Option Value → rd_S → Prop) : Prop :=
  ∀ (p : Program) (l : Launch) (e : Env) (R : Room) (s : State) (m : MethodId) (args : Array Value) (below : List Frame) (meth : Method) (c : Code) (g : rd_G) (H : Heap) (locs : List Loc) (L : Array Slot),
    rd_cx p R s m args meth c d own cc nL ret g → va_P g.1 vwCl (rd_wd N g σ) H → va_D (rd_A N g) (rd_wd N g σ) → va_S (rd_A N g) s.heap H locs → rd_L g.2.1 nL ls L →
    W p l e R s m args below meth c H locs 0 0 (MQ below (rd_Qc N g ret Q) args s 0 0 (rd_A N g)) (F0 m pc L (st.map (rd_tr g.2.1)))
/-- a method's contract: from the store σ with these arguments it returns, and Q holds of the answer and the store then -/
def rd_T (N d : Nat) (y : MethodName) (cc : ByteArray) (nL : Nat) (ret : Option FieldType) (as : List Value) (σ : rd_S) (Q : Option Value → rd_S → Prop) : Prop :=
  ∀ (l : Launch) (g : rd_G), Met l y (rd_ws y cc nL ret) (rd_rm d) (va_Pc (as.map (rd_tr g.2.1)) (fun U => rd_B N g σ U ∧ rd_NW U)) (rd_Qc N g ret Q) 0 0 (rd_A N g)
set_option maxHeartbeats 4000000 in
theorem rd_intro {N d : Nat} {y : MethodName} {cc : ByteArray} {nL : Nat} {ret : Option FieldType} {as : List Value} {σ : rd_S} {Q : Option Value → rd_S → Prop} (ls : List Value) (hy : plainName y.cls = true) (hls : rd_en as ++ List.replicate (nL - (rd_en as).length) (.retAddr 0) = ls) (hlen : (rd_en as).length ≤ nL)
    (h : rd_W N d y.cls cc nL ret 0 ls [] σ Q) : rd_T N d y cc nL ret as σ Q := by
  intro l g
  refine Met.ofW (cc := cc) (maxL := nL) (ret := ret) hy rfl ?_
  intro p e s m args below meth c s₁ B hml hv
  obtain ⟨rfl, ⟨hP, hK, hD⟩, hN⟩ := hv
  have hts := atoms_spec (ws := rd_ws y cc nL ret) B.pre
  have hown : s.vm.findClass y.cls = some m.cls := findClass_of_methodNamed B.named
  have hl := lv_entry (as.map (rd_tr g.2.1)) (n := nL) (by rw [rd_en_len]; exact hlen)
  rw [lg_entry_eq]
  refine h p l e _ s m _ below meth c g s.heap [] _ ⟨B.exec, B.bytes, hml, B.returns, B.notSynchronized, hown, fun w hw => hts w (List.mem_cons_of_mem _ hw), hK, Nat.le_refl _, Nat.le_refl _, hN⟩ hP hD va_S.rf ⟨hl.1, hl.2.1, ?_, fun i v hi hv => ?_⟩
  · rw [← hls]; simp; omega
  · rw [← hls] at hi
    by_cases hil : i < (rd_en as).length
    · rw [List.getElem?_append_left hil] at hi
      have := rd_en_at g.2.1 as 0 i v hi hv
      rw [Nat.zero_add] at this
      exact hl.2.2 _ this
    · rw [List.getElem?_append_right (by omega)] at hi
      have := List.eq_of_mem_replicate (List.mem_of_getElem? hi)
      exact absurd this hv
end
section
section
variable {N d : Nat} {own : String} {cc : ByteArray} {nL : Nat} {ret : Option FieldType} {pc : Nat} {ls st : List Value} {σ : rd_S} {Q : Option Value → rd_S → Prop}
theorem rr_iconst {n : Int} {v : Int32} (hd : decode cc pc = .ok (.iconst n, 1)) (hv : Int32.ofInt n = v) (k : rd_W N d own cc nL ret (pc + 1) ls (.int v :: st) σ Q) : rd_W N d own cc nL ret pc ls (st) σ Q := by
  intro p l e R s m args below meth c g H locs L C hP hD hS hL
  exact lv_iconst C.1 C.2.1 hd hv (k p l e R s m args below meth c g H locs L C hP hD hS hL)
theorem rr_bipush {n : Int} {v : Int32} (hd : decode cc pc = .ok (.bipush n, 2)) (hv : (Int8.ofInt n).toInt32 = v) (k : rd_W N d own cc nL ret (pc + 2) ls (.int v :: st) σ Q) : rd_W N d own cc nL ret pc ls (st) σ Q := by
  intro p l e R s m args below meth c g H locs L C hP hD hS hL
  exact lv_bipush C.1 C.2.1 hd hv (k p l e R s m args below meth c g H locs L C hP hD hS hL)
theorem rr_sipush {n : Int} {v : Int32} (hd : decode cc pc = .ok (.sipush n, 3)) (hv : (Int16.ofInt n).toInt32 = v) (k : rd_W N d own cc nL ret (pc + 3) ls (.int v :: st) σ Q) : rd_W N d own cc nL ret pc ls (st) σ Q := by
  intro p l e R s m args below meth c g H locs L C hP hD hS hL
  exact lv_sipush C.1 C.2.1 hd hv (k p l e R s m args below meth c g H locs L C hP hD hS hL)
theorem rr_lconst {n : Fin 2} {v : Int64} (hd : decode cc pc = .ok (.lconst n, 1)) (hv : Int64.ofNat (n : Nat) = v) (k : rd_W N d own cc nL ret (pc + 1) ls (.long v :: st) σ Q) : rd_W N d own cc nL ret pc ls (st) σ Q := by
  intro p l e R s m args below meth c g H locs L C hP hD hS hL
  exact lv_lconst C.1 C.2.1 hd hv (k p l e R s m args below meth c g H locs L C hP hD hS hL)
theorem rr_ldc {index : Nat} {v : Int32} (hd : decode cc pc = .ok (.ldc index, 2)) (hc : Cond.constant own index v ∈ rd_gt) (k : rd_W N d own cc nL ret (pc + 2) ls (.int v :: st) σ Q) : rd_W N d own cc nL ret pc ls st σ Q := by
  intro p l e R s m args below meth c g H locs L C hP hD hS hL
  exact lv_ldc C.1 C.2.1 C.2.2.2.2.2.1 (C.2.2.2.2.2.2.1 _ hc) hd (k p l e R s m args below meth c g H locs L C hP hD hS hL)
theorem rr_ldcw {index : Nat} {v : Int32} (hd : decode cc pc = .ok (.ldc_w index, 3)) (hc : Cond.constant own index v ∈ rd_gt) (k : rd_W N d own cc nL ret (pc + 3) ls (.int v :: st) σ Q) : rd_W N d own cc nL ret pc ls st σ Q := by
  intro p l e R s m args below meth c g H locs L C hP hD hS hL
  exact lv_ldcw C.1 C.2.1 C.2.2.2.2.2.1 (C.2.2.2.2.2.2.1 _ hc) hd (k p l e R s m args below meth c g H locs L C hP hD hS hL)
theorem rr_ldc2 {index : Nat} {v : Int64} (hd : decode cc pc = .ok (.ldc2_w index, 3)) (hc : Cond.constantLong own index v ∈ rd_gt) (k : rd_W N d own cc nL ret (pc + 3) ls (.long v :: st) σ Q) : rd_W N d own cc nL ret pc ls st σ Q := by
  intro p l e R s m args below meth c g H locs L C hP hD hS hL
  exact lv_ldc2 C.1 C.2.1 C.2.2.2.2.2.1 (C.2.2.2.2.2.2.1 _ hc) hd (k p l e R s m args below meth c g H locs L C hP hD hS hL)
theorem rr_iload_0 {x : Int32} {r : List Value} (hd : decode cc pc = .ok (.iload 0, 2)) (k : rd_W N d own cc nL ret (pc + 2) (.int x :: r) (.int x :: st) σ Q) : rd_W N d own cc nL ret pc (.int x :: r) st σ Q := by
  intro p l e R s m args below meth c g H locs L C hP hD hS hL
  exact lv_iload C.1 C.2.1 hd  (hL.2.2.2 0 (.int x) rfl (fun h => by cases h)) (k p l e R s m args below meth c g H locs L C hP hD hS hL)
theorem rr_iloadn_0 {x : Int32} {r : List Value} (hd : decode cc pc = .ok (.iload_n 0, 1)) (k : rd_W N d own cc nL ret (pc + 1) (.int x :: r) (.int x :: st) σ Q) : rd_W N d own cc nL ret pc (.int x :: r) st σ Q := by
  intro p l e R s m args below meth c g H locs L C hP hD hS hL
  exact lv_iload_n C.1 C.2.1 hd rfl (hL.2.2.2 0 (.int x) rfl (fun h => by cases h)) (k p l e R s m args below meth c g H locs L C hP hD hS hL)
theorem rr_istore_0 {w : Value} {x : Int32} {r : List Value} (hd : decode cc pc = .ok (.istore 0, 2)) (hok : rd_ok1 (w :: r) 0 = true) (k : rd_W N d own cc nL ret (pc + 2) (.int x :: r) st σ Q) : rd_W N d own cc nL ret pc (w :: r) (.int x :: st) σ Q := by
  intro p l e R s m args below meth c g H locs L C hP hD hS hL
  have hi : 0 < nL := by rw [← hL.2.2.1]; simp <;> omega
  exact lv_istore C.1 C.2.1 hd  (rd_L_has hL) hi rfl (fun L' h' => k p l e R s m args below meth c g H locs L' C hP hD hS (rd_L_store (v := .int x) hL hi hok h'))
theorem rr_istoren_0 {w : Value} {x : Int32} {r : List Value} (hd : decode cc pc = .ok (.istore_n 0, 1)) (hok : rd_ok1 (w :: r) 0 = true) (k : rd_W N d own cc nL ret (pc + 1) (.int x :: r) st σ Q) : rd_W N d own cc nL ret pc (w :: r) (.int x :: st) σ Q := by
  intro p l e R s m args below meth c g H locs L C hP hD hS hL
  have hi : 0 < nL := by rw [← hL.2.2.1]; simp <;> omega
  exact lv_istore_n C.1 C.2.1 hd rfl (rd_L_has hL) hi rfl (fun L' h' => k p l e R s m args below meth c g H locs L' C hP hD hS (rd_L_store (v := .int x) hL hi hok h'))
theorem rr_lload_0 {x : Int64} {r : List Value} (hd : decode cc pc = .ok (.lload 0, 2)) (k : rd_W N d own cc nL ret (pc + 2) (.long x :: r) (.long x :: st) σ Q) : rd_W N d own cc nL ret pc (.long x :: r) st σ Q := by
  intro p l e R s m args below meth c g H locs L C hP hD hS hL
  exact lv_lload C.1 C.2.1 hd  (hL.2.2.2 0 (.long x) rfl (fun h => by cases h)) (k p l e R s m args below meth c g H locs L C hP hD hS hL)
theorem rr_lloadn_0 {x : Int64} {r : List Value} (hd : decode cc pc = .ok (.lload_n 0, 1)) (k : rd_W N d own cc nL ret (pc + 1) (.long x :: r) (.long x :: st) σ Q) : rd_W N d own cc nL ret pc (.long x :: r) st σ Q := by
  intro p l e R s m args below meth c g H locs L C hP hD hS hL
  exact lv_lload_n C.1 C.2.1 hd rfl (hL.2.2.2 0 (.long x) rfl (fun h => by cases h)) (k p l e R s m args below meth c g H locs L C hP hD hS hL)
theorem rr_aload_0 {x : Nat} {r : List Value} (hd : decode cc pc = .ok (.aload 0, 2)) (k : rd_W N d own cc nL ret (pc + 2) (.ref x :: r) (.ref x :: st) σ Q) : rd_W N d own cc nL ret pc (.ref x :: r) st σ Q := by
  intro p l e R s m args below meth c g H locs L C hP hD hS hL
  exact lv_aload C.1 C.2.1 hd  (hL.2.2.2 0 (.ref x) rfl (fun h => by cases h)) (k p l e R s m args below meth c g H locs L C hP hD hS hL)
theorem rr_aloadn_0 {x : Nat} {r : List Value} (hd : decode cc pc = .ok (.aload_n 0, 1)) (k : rd_W N d own cc nL ret (pc + 1) (.ref x :: r) (.ref x :: st) σ Q) : rd_W N d own cc nL ret pc (.ref x :: r) st σ Q := by
  intro p l e R s m args below meth c g H locs L C hP hD hS hL
  exact lv_aload_n C.1 C.2.1 hd rfl (hL.2.2.2 0 (.ref x) rfl (fun h => by cases h)) (k p l e R s m args below meth c g H locs L C hP hD hS hL)
theorem rr_astore_0 {w : Value} {x : Nat} {r : List Value} (hd : decode cc pc = .ok (.astore 0, 2)) (hok : rd_ok1 (w :: r) 0 = true) (k : rd_W N d own cc nL ret (pc + 2) (.ref x :: r) st σ Q) : rd_W N d own cc nL ret pc (w :: r) (.ref x :: st) σ Q := by
  intro p l e R s m args below meth c g H locs L C hP hD hS hL
  have hi : 0 < nL := by rw [← hL.2.2.1]; simp <;> omega
  exact lv_astore C.1 C.2.1 hd  (rd_L_has hL) hi rfl (fun L' h' => k p l e R s m args below meth c g H locs L' C hP hD hS (rd_L_store (v := .ref x) hL hi hok h'))
theorem rr_astoren_0 {w : Value} {x : Nat} {r : List Value} (hd : decode cc pc = .ok (.astore_n 0, 1)) (hok : rd_ok1 (w :: r) 0 = true) (k : rd_W N d own cc nL ret (pc + 1) (.ref x :: r) st σ Q) : rd_W N d own cc nL ret pc (w :: r) (.ref x :: st) σ Q := by
  intro p l e R s m args below meth c g H locs L C hP hD hS hL
  have hi : 0 < nL := by rw [← hL.2.2.1]; simp <;> omega
  exact lv_astore_n C.1 C.2.1 hd rfl (rd_L_has hL) hi rfl (fun L' h' => k p l e R s m args below meth c g H locs L' C hP hD hS (rd_L_store (v := .ref x) hL hi hok h'))
theorem rr_iinc_0 {x : Int32} {n : Int} (v : Int32) {r : List Value} (hd : decode cc pc = .ok (.iinc 0 n, 3)) (hv : Int32.ofInt n = v) (hok : rd_ok1 (.int x :: r) 0 = true) (k : rd_W N d own cc nL ret (pc + 3) (.int (x + v) :: r) st σ Q) : rd_W N d own cc nL ret pc (.int x :: r) st σ Q := by
  intro p l e R s m args below meth c g H locs L C hP hD hS hL
  have hi : 0 < nL := by rw [← hL.2.2.1]; simp <;> omega
  subst hv
  obtain ⟨q, hq⟩ := List.getElem?_of_mem (rd_lv_mem (ad := g.2.1) (ls := .int x :: r) (i := 0) (v := .int x) rfl (fun h => by cases h))
  exact lv_iinc C.1 C.2.1 hd (rd_L_has hL) hq rfl hi rfl (fun L' h' => k p l e R s m args below meth c g H locs L' C hP hD hS (rd_L_store (v := .int (x + Int32.ofInt n)) hL hi hok h'))
theorem rr_lstore_0 {w w2 : Value} {x : Int64} {r : List Value} (hd : decode cc pc = .ok (.lstore 0, 2)) (hok : rd_ok1 (w :: w2 :: r) 0 = true) (k : rd_W N d own cc nL ret (pc + 2) (.long x :: .retAddr 0 :: r) st σ Q) : rd_W N d own cc nL ret pc (w :: w2 :: r) (.long x :: st) σ Q := by
  intro p l e R s m args below meth c g H locs L C hP hD hS hL
  have hi : 0 + 1 < nL := by rw [← hL.2.2.1]; simp <;> omega
  exact lv_lstore C.1 C.2.1 hd  (rd_L_has hL) hi rfl (fun L' h' => k p l e R s m args below meth c g H locs L' C hP hD hS (rd_L_store2 (v := .long x) hL hi hok h'))
theorem rr_lstoren_0 {w w2 : Value} {x : Int64} {r : List Value} (hd : decode cc pc = .ok (.lstore_n 0, 1)) (hok : rd_ok1 (w :: w2 :: r) 0 = true) (k : rd_W N d own cc nL ret (pc + 1) (.long x :: .retAddr 0 :: r) st σ Q) : rd_W N d own cc nL ret pc (w :: w2 :: r) (.long x :: st) σ Q := by
  intro p l e R s m args below meth c g H locs L C hP hD hS hL
  have hi : 0 + 1 < nL := by rw [← hL.2.2.1]; simp <;> omega
  exact lv_lstore_n C.1 C.2.1 hd rfl (rd_L_has hL) hi rfl (fun L' h' => k p l e R s m args below meth c g H locs L' C hP hD hS (rd_L_store2 (v := .long x) hL hi hok h'))
theorem rr_iload_1 {a0 : Value} {x : Int32} {r : List Value} (hd : decode cc pc = .ok (.iload 1, 2)) (k : rd_W N d own cc nL ret (pc + 2) (a0 :: .int x :: r) (.int x :: st) σ Q) : rd_W N d own cc nL ret pc (a0 :: .int x :: r) st σ Q := by
  intro p l e R s m args below meth c g H locs L C hP hD hS hL
  exact lv_iload C.1 C.2.1 hd  (hL.2.2.2 1 (.int x) rfl (fun h => by cases h)) (k p l e R s m args below meth c g H locs L C hP hD hS hL)
theorem rr_iloadn_1 {a0 : Value} {x : Int32} {r : List Value} (hd : decode cc pc = .ok (.iload_n 1, 1)) (k : rd_W N d own cc nL ret (pc + 1) (a0 :: .int x :: r) (.int x :: st) σ Q) : rd_W N d own cc nL ret pc (a0 :: .int x :: r) st σ Q := by
  intro p l e R s m args below meth c g H locs L C hP hD hS hL
  exact lv_iload_n C.1 C.2.1 hd rfl (hL.2.2.2 1 (.int x) rfl (fun h => by cases h)) (k p l e R s m args below meth c g H locs L C hP hD hS hL)
theorem rr_istore_1 {a0 : Value} {w : Value} {x : Int32} {r : List Value} (hd : decode cc pc = .ok (.istore 1, 2)) (hok : rd_ok1 (a0 :: w :: r) 1 = true) (k : rd_W N d own cc nL ret (pc + 2) (a0 :: .int x :: r) st σ Q) : rd_W N d own cc nL ret pc (a0 :: w :: r) (.int x :: st) σ Q := by
  intro p l e R s m args below meth c g H locs L C hP hD hS hL
  have hi : 1 < nL := by rw [← hL.2.2.1]; simp <;> omega
  exact lv_istore C.1 C.2.1 hd  (rd_L_has hL) hi rfl (fun L' h' => k p l e R s m args below meth c g H locs L' C hP hD hS (rd_L_store (v := .int x) hL hi hok h'))
theorem rr_istoren_1 {a0 : Value} {w : Value} {x : Int32} {r : List Value} (hd : decode cc pc = .ok (.istore_n 1, 1)) (hok : rd_ok1 (a0 :: w :: r) 1 = true) (k : rd_W N d own cc nL ret (pc + 1) (a0 :: .int x :: r) st σ Q) : rd_W N d own cc nL ret pc (a0 :: w :: r) (.int x :: st) σ Q := by
  intro p l e R s m args below meth c g H locs L C hP hD hS hL
  have hi : 1 < nL := by rw [← hL.2.2.1]; simp <;> omega
  exact lv_istore_n C.1 C.2.1 hd rfl (rd_L_has hL) hi rfl (fun L' h' => k p l e R s m args below meth c g H locs L' C hP hD hS (rd_L_store (v := .int x) hL hi hok h'))
theorem rr_lload_1 {a0 : Value} {x : Int64} {r : List Value} (hd : decode cc pc = .ok (.lload 1, 2)) (k : rd_W N d own cc nL ret (pc + 2) (a0 :: .long x :: r) (.long x :: st) σ Q) : rd_W N d own cc nL ret pc (a0 :: .long x :: r) st σ Q := by
  intro p l e R s m args below meth c g H locs L C hP hD hS hL
  exact lv_lload C.1 C.2.1 hd  (hL.2.2.2 1 (.long x) rfl (fun h => by cases h)) (k p l e R s m args below meth c g H locs L C hP hD hS hL)
theorem rr_lloadn_1 {a0 : Value} {x : Int64} {r : List Value} (hd : decode cc pc = .ok (.lload_n 1, 1)) (k : rd_W N d own cc nL ret (pc + 1) (a0 :: .long x :: r) (.long x :: st) σ Q) : rd_W N d own cc nL ret pc (a0 :: .long x :: r) st σ Q := by
  intro p l e R s m args below meth c g H locs L C hP hD hS hL
  exact lv_lload_n C.1 C.2.1 hd rfl (hL.2.2.2 1 (.long x) rfl (fun h => by cases h)) (k p l e R s m args below meth c g H locs L C hP hD hS hL)
theorem rr_aload_1 {a0 : Value} {x : Nat} {r : List Value} (hd : decode cc pc = .ok (.aload 1, 2)) (k : rd_W N d own cc nL ret (pc + 2) (a0 :: .ref x :: r) (.ref x :: st) σ Q) : rd_W N d own cc nL ret pc (a0 :: .ref x :: r) st σ Q := by
  intro p l e R s m args below meth c g H locs L C hP hD hS hL
  exact lv_aload C.1 C.2.1 hd  (hL.2.2.2 1 (.ref x) rfl (fun h => by cases h)) (k p l e R s m args below meth c g H locs L C hP hD hS hL)
theorem rr_aloadn_1 {a0 : Value} {x : Nat} {r : List Value} (hd : decode cc pc = .ok (.aload_n 1, 1)) (k : rd_W N d own cc nL ret (pc + 1) (a0 :: .ref x :: r) (.ref x :: st) σ Q) : rd_W N d own cc nL ret pc (a0 :: .ref x :: r) st σ Q := by
  intro p l e R s m args below meth c g H locs L C hP hD hS hL
  exact lv_aload_n C.1 C.2.1 hd rfl (hL.2.2.2 1 (.ref x) rfl (fun h => by cases h)) (k p l e R s m args below meth c g H locs L C hP hD hS hL)
theorem rr_astore_1 {a0 : Value} {w : Value} {x : Nat} {r : List Value} (hd : decode cc pc = .ok (.astore 1, 2)) (hok : rd_ok1 (a0 :: w :: r) 1 = true) (k : rd_W N d own cc nL ret (pc + 2) (a0 :: .ref x :: r) st σ Q) : rd_W N d own cc nL ret pc (a0 :: w :: r) (.ref x :: st) σ Q := by
  intro p l e R s m args below meth c g H locs L C hP hD hS hL
  have hi : 1 < nL := by rw [← hL.2.2.1]; simp <;> omega
  exact lv_astore C.1 C.2.1 hd  (rd_L_has hL) hi rfl (fun L' h' => k p l e R s m args below meth c g H locs L' C hP hD hS (rd_L_store (v := .ref x) hL hi hok h'))
theorem rr_astoren_1 {a0 : Value} {w : Value} {x : Nat} {r : List Value} (hd : decode cc pc = .ok (.astore_n 1, 1)) (hok : rd_ok1 (a0 :: w :: r) 1 = true) (k : rd_W N d own cc nL ret (pc + 1) (a0 :: .ref x :: r) st σ Q) : rd_W N d own cc nL ret pc (a0 :: w :: r) (.ref x :: st) σ Q := by
  intro p l e R s m args below meth c g H locs L C hP hD hS hL
  have hi : 1 < nL := by rw [← hL.2.2.1]; simp <;> omega
  exact lv_astore_n C.1 C.2.1 hd rfl (rd_L_has hL) hi rfl (fun L' h' => k p l e R s m args below meth c g H locs L' C hP hD hS (rd_L_store (v := .ref x) hL hi hok h'))
theorem rr_iinc_1 {a0 : Value} {x : Int32} {n : Int} (v : Int32) {r : List Value} (hd : decode cc pc = .ok (.iinc 1 n, 3)) (hv : Int32.ofInt n = v) (hok : rd_ok1 (a0 :: .int x :: r) 1 = true) (k : rd_W N d own cc nL ret (pc + 3) (a0 :: .int (x + v) :: r) st σ Q) : rd_W N d own cc nL ret pc (a0 :: .int x :: r) st σ Q := by
  intro p l e R s m args below meth c g H locs L C hP hD hS hL
  have hi : 1 < nL := by rw [← hL.2.2.1]; simp <;> omega
  subst hv
  obtain ⟨q, hq⟩ := List.getElem?_of_mem (rd_lv_mem (ad := g.2.1) (ls := a0 :: .int x :: r) (i := 1) (v := .int x) rfl (fun h => by cases h))
  exact lv_iinc C.1 C.2.1 hd (rd_L_has hL) hq rfl hi rfl (fun L' h' => k p l e R s m args below meth c g H locs L' C hP hD hS (rd_L_store (v := .int (x + Int32.ofInt n)) hL hi hok h'))
theorem rr_lstore_1 {a0 : Value} {w w2 : Value} {x : Int64} {r : List Value} (hd : decode cc pc = .ok (.lstore 1, 2)) (hok : rd_ok1 (a0 :: w :: w2 :: r) 1 = true) (k : rd_W N d own cc nL ret (pc + 2) (a0 :: .long x :: .retAddr 0 :: r) st σ Q) : rd_W N d own cc nL ret pc (a0 :: w :: w2 :: r) (.long x :: st) σ Q := by
  intro p l e R s m args below meth c g H locs L C hP hD hS hL
  have hi : 1 + 1 < nL := by rw [← hL.2.2.1]; simp <;> omega
  exact lv_lstore C.1 C.2.1 hd  (rd_L_has hL) hi rfl (fun L' h' => k p l e R s m args below meth c g H locs L' C hP hD hS (rd_L_store2 (v := .long x) hL hi hok h'))
theorem rr_lstoren_1 {a0 : Value} {w w2 : Value} {x : Int64} {r : List Value} (hd : decode cc pc = .ok (.lstore_n 1, 1)) (hok : rd_ok1 (a0 :: w :: w2 :: r) 1 = true) (k : rd_W N d own cc nL ret (pc + 1) (a0 :: .long x :: .retAddr 0 :: r) st σ Q) : rd_W N d own cc nL ret pc (a0 :: w :: w2 :: r) (.long x :: st) σ Q := by
  intro p l e R s m args below meth c g H locs L C hP hD hS hL
  have hi : 1 + 1 < nL := by rw [← hL.2.2.1]; simp <;> omega
  exact lv_lstore_n C.1 C.2.1 hd rfl (rd_L_has hL) hi rfl (fun L' h' => k p l e R s m args below meth c g H locs L' C hP hD hS (rd_L_store2 (v := .long x) hL hi hok h'))
theorem rr_iload_2 {a0 a1 : Value} {x : Int32} {r : List Value} (hd : decode cc pc = .ok (.iload 2, 2)) (k : rd_W N d own cc nL ret (pc + 2) (a0 :: a1 :: .int x :: r) (.int x :: st) σ Q) : rd_W N d own cc nL ret pc (a0 :: a1 :: .int x :: r) st σ Q := by
  intro p l e R s m args below meth c g H locs L C hP hD hS hL
  exact lv_iload C.1 C.2.1 hd  (hL.2.2.2 2 (.int x) rfl (fun h => by cases h)) (k p l e R s m args below meth c g H locs L C hP hD hS hL)
theorem rr_iloadn_2 {a0 a1 : Value} {x : Int32} {r : List Value} (hd : decode cc pc = .ok (.iload_n 2, 1)) (k : rd_W N d own cc nL ret (pc + 1) (a0 :: a1 :: .int x :: r) (.int x :: st) σ Q) : rd_W N d own cc nL ret pc (a0 :: a1 :: .int x :: r) st σ Q := by
  intro p l e R s m args below meth c g H locs L C hP hD hS hL
  exact lv_iload_n C.1 C.2.1 hd rfl (hL.2.2.2 2 (.int x) rfl (fun h => by cases h)) (k p l e R s m args below meth c g H locs L C hP hD hS hL)
theorem rr_istore_2 {a0 a1 : Value} {w : Value} {x : Int32} {r : List Value} (hd : decode cc pc = .ok (.istore 2, 2)) (hok : rd_ok1 (a0 :: a1 :: w :: r) 2 = true) (k : rd_W N d own cc nL ret (pc + 2) (a0 :: a1 :: .int x :: r) st σ Q) : rd_W N d own cc nL ret pc (a0 :: a1 :: w :: r) (.int x :: st) σ Q := by
  intro p l e R s m args below meth c g H locs L C hP hD hS hL
  have hi : 2 < nL := by rw [← hL.2.2.1]; simp <;> omega
  exact lv_istore C.1 C.2.1 hd  (rd_L_has hL) hi rfl (fun L' h' => k p l e R s m args below meth c g H locs L' C hP hD hS (rd_L_store (v := .int x) hL hi hok h'))
theorem rr_istoren_2 {a0 a1 : Value} {w : Value} {x : Int32} {r : List Value} (hd : decode cc pc = .ok (.istore_n 2, 1)) (hok : rd_ok1 (a0 :: a1 :: w :: r) 2 = true) (k : rd_W N d own cc nL ret (pc + 1) (a0 :: a1 :: .int x :: r) st σ Q) : rd_W N d own cc nL ret pc (a0 :: a1 :: w :: r) (.int x :: st) σ Q := by
  intro p l e R s m args below meth c g H locs L C hP hD hS hL
  have hi : 2 < nL := by rw [← hL.2.2.1]; simp <;> omega
  exact lv_istore_n C.1 C.2.1 hd rfl (rd_L_has hL) hi rfl (fun L' h' => k p l e R s m args below meth c g H locs L' C hP hD hS (rd_L_store (v := .int x) hL hi hok h'))
theorem rr_lload_2 {a0 a1 : Value} {x : Int64} {r : List Value} (hd : decode cc pc = .ok (.lload 2, 2)) (k : rd_W N d own cc nL ret (pc + 2) (a0 :: a1 :: .long x :: r) (.long x :: st) σ Q) : rd_W N d own cc nL ret pc (a0 :: a1 :: .long x :: r) st σ Q := by
  intro p l e R s m args below meth c g H locs L C hP hD hS hL
  exact lv_lload C.1 C.2.1 hd  (hL.2.2.2 2 (.long x) rfl (fun h => by cases h)) (k p l e R s m args below meth c g H locs L C hP hD hS hL)
theorem rr_lloadn_2 {a0 a1 : Value} {x : Int64} {r : List Value} (hd : decode cc pc = .ok (.lload_n 2, 1)) (k : rd_W N d own cc nL ret (pc + 1) (a0 :: a1 :: .long x :: r) (.long x :: st) σ Q) : rd_W N d own cc nL ret pc (a0 :: a1 :: .long x :: r) st σ Q := by
  intro p l e R s m args below meth c g H locs L C hP hD hS hL
  exact lv_lload_n C.1 C.2.1 hd rfl (hL.2.2.2 2 (.long x) rfl (fun h => by cases h)) (k p l e R s m args below meth c g H locs L C hP hD hS hL)
theorem rr_aload_2 {a0 a1 : Value} {x : Nat} {r : List Value} (hd : decode cc pc = .ok (.aload 2, 2)) (k : rd_W N d own cc nL ret (pc + 2) (a0 :: a1 :: .ref x :: r) (.ref x :: st) σ Q) : rd_W N d own cc nL ret pc (a0 :: a1 :: .ref x :: r) st σ Q := by
  intro p l e R s m args below meth c g H locs L C hP hD hS hL
  exact lv_aload C.1 C.2.1 hd  (hL.2.2.2 2 (.ref x) rfl (fun h => by cases h)) (k p l e R s m args below meth c g H locs L C hP hD hS hL)
theorem rr_aloadn_2 {a0 a1 : Value} {x : Nat} {r : List Value} (hd : decode cc pc = .ok (.aload_n 2, 1)) (k : rd_W N d own cc nL ret (pc + 1) (a0 :: a1 :: .ref x :: r) (.ref x :: st) σ Q) : rd_W N d own cc nL ret pc (a0 :: a1 :: .ref x :: r) st σ Q := by
  intro p l e R s m args below meth c g H locs L C hP hD hS hL
  exact lv_aload_n C.1 C.2.1 hd rfl (hL.2.2.2 2 (.ref x) rfl (fun h => by cases h)) (k p l e R s m args below meth c g H locs L C hP hD hS hL)
theorem rr_astore_2 {a0 a1 : Value} {w : Value} {x : Nat} {r : List Value} (hd : decode cc pc = .ok (.astore 2, 2)) (hok : rd_ok1 (a0 :: a1 :: w :: r) 2 = true) (k : rd_W N d own cc nL ret (pc + 2) (a0 :: a1 :: .ref x :: r) st σ Q) : rd_W N d own cc nL ret pc (a0 :: a1 :: w :: r) (.ref x :: st) σ Q := by
  intro p l e R s m args below meth c g H locs L C hP hD hS hL
  have hi : 2 < nL := by rw [← hL.2.2.1]; simp <;> omega
  exact lv_astore C.1 C.2.1 hd  (rd_L_has hL) hi rfl (fun L' h' => k p l e R s m args below meth c g H locs L' C hP hD hS (rd_L_store (v := .ref x) hL hi hok h'))
theorem rr_astoren_2 {a0 a1 : Value} {w : Value} {x : Nat} {r : List Value} (hd : decode cc pc = .ok (.astore_n 2, 1)) (hok : rd_ok1 (a0 :: a1 :: w :: r) 2 = true) (k : rd_W N d own cc nL ret (pc + 1) (a0 :: a1 :: .ref x :: r) st σ Q) : rd_W N d own cc nL ret pc (a0 :: a1 :: w :: r) (.ref x :: st) σ Q := by
  intro p l e R s m args below meth c g H locs L C hP hD hS hL
  have hi : 2 < nL := by rw [← hL.2.2.1]; simp <;> omega
  exact lv_astore_n C.1 C.2.1 hd rfl (rd_L_has hL) hi rfl (fun L' h' => k p l e R s m args below meth c g H locs L' C hP hD hS (rd_L_store (v := .ref x) hL hi hok h'))
theorem rr_iinc_2 {a0 a1 : Value} {x : Int32} {n : Int} (v : Int32) {r : List Value} (hd : decode cc pc = .ok (.iinc 2 n, 3)) (hv : Int32.ofInt n = v) (hok : rd_ok1 (a0 :: a1 :: .int x :: r) 2 = true) (k : rd_W N d own cc nL ret (pc + 3) (a0 :: a1 :: .int (x + v) :: r) st σ Q) : rd_W N d own cc nL ret pc (a0 :: a1 :: .int x :: r) st σ Q := by
  intro p l e R s m args below meth c g H locs L C hP hD hS hL
  have hi : 2 < nL := by rw [← hL.2.2.1]; simp <;> omega
  subst hv
  obtain ⟨q, hq⟩ := List.getElem?_of_mem (rd_lv_mem (ad := g.2.1) (ls := a0 :: a1 :: .int x :: r) (i := 2) (v := .int x) rfl (fun h => by cases h))
  exact lv_iinc C.1 C.2.1 hd (rd_L_has hL) hq rfl hi rfl (fun L' h' => k p l e R s m args below meth c g H locs L' C hP hD hS (rd_L_store (v := .int (x + Int32.ofInt n)) hL hi hok h'))
theorem rr_lstore_2 {a0 a1 : Value} {w w2 : Value} {x : Int64} {r : List Value} (hd : decode cc pc = .ok (.lstore 2, 2)) (hok : rd_ok1 (a0 :: a1 :: w :: w2 :: r) 2 = true) (k : rd_W N d own cc nL ret (pc + 2) (a0 :: a1 :: .long x :: .retAddr 0 :: r) st σ Q) : rd_W N d own cc nL ret pc (a0 :: a1 :: w :: w2 :: r) (.long x :: st) σ Q := by
  intro p l e R s m args below meth c g H locs L C hP hD hS hL
  have hi : 2 + 1 < nL := by rw [← hL.2.2.1]; simp <;> omega
  exact lv_lstore C.1 C.2.1 hd  (rd_L_has hL) hi rfl (fun L' h' => k p l e R s m args below meth c g H locs L' C hP hD hS (rd_L_store2 (v := .long x) hL hi hok h'))
theorem rr_lstoren_2 {a0 a1 : Value} {w w2 : Value} {x : Int64} {r : List Value} (hd : decode cc pc = .ok (.lstore_n 2, 1)) (hok : rd_ok1 (a0 :: a1 :: w :: w2 :: r) 2 = true) (k : rd_W N d own cc nL ret (pc + 1) (a0 :: a1 :: .long x :: .retAddr 0 :: r) st σ Q) : rd_W N d own cc nL ret pc (a0 :: a1 :: w :: w2 :: r) (.long x :: st) σ Q := by
  intro p l e R s m args below meth c g H locs L C hP hD hS hL
  have hi : 2 + 1 < nL := by rw [← hL.2.2.1]; simp <;> omega
  exact lv_lstore_n C.1 C.2.1 hd rfl (rd_L_has hL) hi rfl (fun L' h' => k p l e R s m args below meth c g H locs L' C hP hD hS (rd_L_store2 (v := .long x) hL hi hok h'))
theorem rr_iload_3 {a0 a1 a2 : Value} {x : Int32} {r : List Value} (hd : decode cc pc = .ok (.iload 3, 2)) (k : rd_W N d own cc nL ret (pc + 2) (a0 :: a1 :: a2 :: .int x :: r) (.int x :: st) σ Q) : rd_W N d own cc nL ret pc (a0 :: a1 :: a2 :: .int x :: r) st σ Q := by
  intro p l e R s m args below meth c g H locs L C hP hD hS hL
  exact lv_iload C.1 C.2.1 hd  (hL.2.2.2 3 (.int x) rfl (fun h => by cases h)) (k p l e R s m args below meth c g H locs L C hP hD hS hL)
theorem rr_iloadn_3 {a0 a1 a2 : Value} {x : Int32} {r : List Value} (hd : decode cc pc = .ok (.iload_n 3, 1)) (k : rd_W N d own cc nL ret (pc + 1) (a0 :: a1 :: a2 :: .int x :: r) (.int x :: st) σ Q) : rd_W N d own cc nL ret pc (a0 :: a1 :: a2 :: .int x :: r) st σ Q := by
  intro p l e R s m args below meth c g H locs L C hP hD hS hL
  exact lv_iload_n C.1 C.2.1 hd rfl (hL.2.2.2 3 (.int x) rfl (fun h => by cases h)) (k p l e R s m args below meth c g H locs L C hP hD hS hL)
theorem rr_istore_3 {a0 a1 a2 : Value} {w : Value} {x : Int32} {r : List Value} (hd : decode cc pc = .ok (.istore 3, 2)) (hok : rd_ok1 (a0 :: a1 :: a2 :: w :: r) 3 = true) (k : rd_W N d own cc nL ret (pc + 2) (a0 :: a1 :: a2 :: .int x :: r) st σ Q) : rd_W N d own cc nL ret pc (a0 :: a1 :: a2 :: w :: r) (.int x :: st) σ Q := by
  intro p l e R s m args below meth c g H locs L C hP hD hS hL
  have hi : 3 < nL := by rw [← hL.2.2.1]; simp <;> omega
  exact lv_istore C.1 C.2.1 hd  (rd_L_has hL) hi rfl (fun L' h' => k p l e R s m args below meth c g H locs L' C hP hD hS (rd_L_store (v := .int x) hL hi hok h'))
theorem rr_istoren_3 {a0 a1 a2 : Value} {w : Value} {x : Int32} {r : List Value} (hd : decode cc pc = .ok (.istore_n 3, 1)) (hok : rd_ok1 (a0 :: a1 :: a2 :: w :: r) 3 = true) (k : rd_W N d own cc nL ret (pc + 1) (a0 :: a1 :: a2 :: .int x :: r) st σ Q) : rd_W N d own cc nL ret pc (a0 :: a1 :: a2 :: w :: r) (.int x :: st) σ Q := by
  intro p l e R s m args below meth c g H locs L C hP hD hS hL
  have hi : 3 < nL := by rw [← hL.2.2.1]; simp <;> omega
  exact lv_istore_n C.1 C.2.1 hd rfl (rd_L_has hL) hi rfl (fun L' h' => k p l e R s m args below meth c g H locs L' C hP hD hS (rd_L_store (v := .int x) hL hi hok h'))
theorem rr_lload_3 {a0 a1 a2 : Value} {x : Int64} {r : List Value} (hd : decode cc pc = .ok (.lload 3, 2)) (k : rd_W N d own cc nL ret (pc + 2) (a0 :: a1 :: a2 :: .long x :: r) (.long x :: st) σ Q) : rd_W N d own cc nL ret pc (a0 :: a1 :: a2 :: .long x :: r) st σ Q := by
  intro p l e R s m args below meth c g H locs L C hP hD hS hL
  exact lv_lload C.1 C.2.1 hd  (hL.2.2.2 3 (.long x) rfl (fun h => by cases h)) (k p l e R s m args below meth c g H locs L C hP hD hS hL)
theorem rr_lloadn_3 {a0 a1 a2 : Value} {x : Int64} {r : List Value} (hd : decode cc pc = .ok (.lload_n 3, 1)) (k : rd_W N d own cc nL ret (pc + 1) (a0 :: a1 :: a2 :: .long x :: r) (.long x :: st) σ Q) : rd_W N d own cc nL ret pc (a0 :: a1 :: a2 :: .long x :: r) st σ Q := by
  intro p l e R s m args below meth c g H locs L C hP hD hS hL
  exact lv_lload_n C.1 C.2.1 hd rfl (hL.2.2.2 3 (.long x) rfl (fun h => by cases h)) (k p l e R s m args below meth c g H locs L C hP hD hS hL)
theorem rr_aload_3 {a0 a1 a2 : Value} {x : Nat} {r : List Value} (hd : decode cc pc = .ok (.aload 3, 2)) (k : rd_W N d own cc nL ret (pc + 2) (a0 :: a1 :: a2 :: .ref x :: r) (.ref x :: st) σ Q) : rd_W N d own cc nL ret pc (a0 :: a1 :: a2 :: .ref x :: r) st σ Q := by
  intro p l e R s m args below meth c g H locs L C hP hD hS hL
  exact lv_aload C.1 C.2.1 hd  (hL.2.2.2 3 (.ref x) rfl (fun h => by cases h)) (k p l e R s m args below meth c g H locs L C hP hD hS hL)
theorem rr_aloadn_3 {a0 a1 a2 : Value} {x : Nat} {r : List Value} (hd : decode cc pc = .ok (.aload_n 3, 1)) (k : rd_W N d own cc nL ret (pc + 1) (a0 :: a1 :: a2 :: .ref x :: r) (.ref x :: st) σ Q) : rd_W N d own cc nL ret pc (a0 :: a1 :: a2 :: .ref x :: r) st σ Q := by
  intro p l e R s m args below meth c g H locs L C hP hD hS hL
  exact lv_aload_n C.1 C.2.1 hd rfl (hL.2.2.2 3 (.ref x) rfl (fun h => by cases h)) (k p l e R s m args below meth c g H locs L C hP hD hS hL)
theorem rr_astore_3 {a0 a1 a2 : Value} {w : Value} {x : Nat} {r : List Value} (hd : decode cc pc = .ok (.astore 3, 2)) (hok : rd_ok1 (a0 :: a1 :: a2 :: w :: r) 3 = true) (k : rd_W N d own cc nL ret (pc + 2) (a0 :: a1 :: a2 :: .ref x :: r) st σ Q) : rd_W N d own cc nL ret pc (a0 :: a1 :: a2 :: w :: r) (.ref x :: st) σ Q := by
  intro p l e R s m args below meth c g H locs L C hP hD hS hL
  have hi : 3 < nL := by rw [← hL.2.2.1]; simp <;> omega
  exact lv_astore C.1 C.2.1 hd  (rd_L_has hL) hi rfl (fun L' h' => k p l e R s m args below meth c g H locs L' C hP hD hS (rd_L_store (v := .ref x) hL hi hok h'))
theorem rr_astoren_3 {a0 a1 a2 : Value} {w : Value} {x : Nat} {r : List Value} (hd : decode cc pc = .ok (.astore_n 3, 1)) (hok : rd_ok1 (a0 :: a1 :: a2 :: w :: r) 3 = true) (k : rd_W N d own cc nL ret (pc + 1) (a0 :: a1 :: a2 :: .ref x :: r) st σ Q) : rd_W N d own cc nL ret pc (a0 :: a1 :: a2 :: w :: r) (.ref x :: st) σ Q := by
  intro p l e R s m args below meth c g H locs L C hP hD hS hL
  have hi : 3 < nL := by rw [← hL.2.2.1]; simp <;> omega
  exact lv_astore_n C.1 C.2.1 hd rfl (rd_L_has hL) hi rfl (fun L' h' => k p l e R s m args below meth c g H locs L' C hP hD hS (rd_L_store (v := .ref x) hL hi hok h'))
theorem rr_iinc_3 {a0 a1 a2 : Value} {x : Int32} {n : Int} (v : Int32) {r : List Value} (hd : decode cc pc = .ok (.iinc 3 n, 3)) (hv : Int32.ofInt n = v) (hok : rd_ok1 (a0 :: a1 :: a2 :: .int x :: r) 3 = true) (k : rd_W N d own cc nL ret (pc + 3) (a0 :: a1 :: a2 :: .int (x + v) :: r) st σ Q) : rd_W N d own cc nL ret pc (a0 :: a1 :: a2 :: .int x :: r) st σ Q := by
  intro p l e R s m args below meth c g H locs L C hP hD hS hL
  have hi : 3 < nL := by rw [← hL.2.2.1]; simp <;> omega
  subst hv
  obtain ⟨q, hq⟩ := List.getElem?_of_mem (rd_lv_mem (ad := g.2.1) (ls := a0 :: a1 :: a2 :: .int x :: r) (i := 3) (v := .int x) rfl (fun h => by cases h))
  exact lv_iinc C.1 C.2.1 hd (rd_L_has hL) hq rfl hi rfl (fun L' h' => k p l e R s m args below meth c g H locs L' C hP hD hS (rd_L_store (v := .int (x + Int32.ofInt n)) hL hi hok h'))
theorem rr_lstore_3 {a0 a1 a2 : Value} {w w2 : Value} {x : Int64} {r : List Value} (hd : decode cc pc = .ok (.lstore 3, 2)) (hok : rd_ok1 (a0 :: a1 :: a2 :: w :: w2 :: r) 3 = true) (k : rd_W N d own cc nL ret (pc + 2) (a0 :: a1 :: a2 :: .long x :: .retAddr 0 :: r) st σ Q) : rd_W N d own cc nL ret pc (a0 :: a1 :: a2 :: w :: w2 :: r) (.long x :: st) σ Q := by
  intro p l e R s m args below meth c g H locs L C hP hD hS hL
  have hi : 3 + 1 < nL := by rw [← hL.2.2.1]; simp <;> omega
  exact lv_lstore C.1 C.2.1 hd  (rd_L_has hL) hi rfl (fun L' h' => k p l e R s m args below meth c g H locs L' C hP hD hS (rd_L_store2 (v := .long x) hL hi hok h'))
theorem rr_lstoren_3 {a0 a1 a2 : Value} {w w2 : Value} {x : Int64} {r : List Value} (hd : decode cc pc = .ok (.lstore_n 3, 1)) (hok : rd_ok1 (a0 :: a1 :: a2 :: w :: w2 :: r) 3 = true) (k : rd_W N d own cc nL ret (pc + 1) (a0 :: a1 :: a2 :: .long x :: .retAddr 0 :: r) st σ Q) : rd_W N d own cc nL ret pc (a0 :: a1 :: a2 :: w :: w2 :: r) (.long x :: st) σ Q := by
  intro p l e R s m args below meth c g H locs L C hP hD hS hL
  have hi : 3 + 1 < nL := by rw [← hL.2.2.1]; simp <;> omega
  exact lv_lstore_n C.1 C.2.1 hd rfl (rd_L_has hL) hi rfl (fun L' h' => k p l e R s m args below meth c g H locs L' C hP hD hS (rd_L_store2 (v := .long x) hL hi hok h'))
theorem rr_iload_4 {a0 a1 a2 a3 : Value} {x : Int32} {r : List Value} (hd : decode cc pc = .ok (.iload 4, 2)) (k : rd_W N d own cc nL ret (pc + 2) (a0 :: a1 :: a2 :: a3 :: .int x :: r) (.int x :: st) σ Q) : rd_W N d own cc nL ret pc (a0 :: a1 :: a2 :: a3 :: .int x :: r) st σ Q := by
  intro p l e R s m args below meth c g H locs L C hP hD hS hL
  exact lv_iload C.1 C.2.1 hd  (hL.2.2.2 4 (.int x) rfl (fun h => by cases h)) (k p l e R s m args below meth c g H locs L C hP hD hS hL)
theorem rr_istore_4 {a0 a1 a2 a3 : Value} {w : Value} {x : Int32} {r : List Value} (hd : decode cc pc = .ok (.istore 4, 2)) (hok : rd_ok1 (a0 :: a1 :: a2 :: a3 :: w :: r) 4 = true) (k : rd_W N d own cc nL ret (pc + 2) (a0 :: a1 :: a2 :: a3 :: .int x :: r) st σ Q) : rd_W N d own cc nL ret pc (a0 :: a1 :: a2 :: a3 :: w :: r) (.int x :: st) σ Q := by
  intro p l e R s m args below meth c g H locs L C hP hD hS hL
  have hi : 4 < nL := by rw [← hL.2.2.1]; simp <;> omega
  exact lv_istore C.1 C.2.1 hd  (rd_L_has hL) hi rfl (fun L' h' => k p l e R s m args below meth c g H locs L' C hP hD hS (rd_L_store (v := .int x) hL hi hok h'))
theorem rr_lload_4 {a0 a1 a2 a3 : Value} {x : Int64} {r : List Value} (hd : decode cc pc = .ok (.lload 4, 2)) (k : rd_W N d own cc nL ret (pc + 2) (a0 :: a1 :: a2 :: a3 :: .long x :: r) (.long x :: st) σ Q) : rd_W N d own cc nL ret pc (a0 :: a1 :: a2 :: a3 :: .long x :: r) st σ Q := by
  intro p l e R s m args below meth c g H locs L C hP hD hS hL
  exact lv_lload C.1 C.2.1 hd  (hL.2.2.2 4 (.long x) rfl (fun h => by cases h)) (k p l e R s m args below meth c g H locs L C hP hD hS hL)
theorem rr_aload_4 {a0 a1 a2 a3 : Value} {x : Nat} {r : List Value} (hd : decode cc pc = .ok (.aload 4, 2)) (k : rd_W N d own cc nL ret (pc + 2) (a0 :: a1 :: a2 :: a3 :: .ref x :: r) (.ref x :: st) σ Q) : rd_W N d own cc nL ret pc (a0 :: a1 :: a2 :: a3 :: .ref x :: r) st σ Q := by
  intro p l e R s m args below meth c g H locs L C hP hD hS hL
  exact lv_aload C.1 C.2.1 hd  (hL.2.2.2 4 (.ref x) rfl (fun h => by cases h)) (k p l e R s m args below meth c g H locs L C hP hD hS hL)
theorem rr_astore_4 {a0 a1 a2 a3 : Value} {w : Value} {x : Nat} {r : List Value} (hd : decode cc pc = .ok (.astore 4, 2)) (hok : rd_ok1 (a0 :: a1 :: a2 :: a3 :: w :: r) 4 = true) (k : rd_W N d own cc nL ret (pc + 2) (a0 :: a1 :: a2 :: a3 :: .ref x :: r) st σ Q) : rd_W N d own cc nL ret pc (a0 :: a1 :: a2 :: a3 :: w :: r) (.ref x :: st) σ Q := by
  intro p l e R s m args below meth c g H locs L C hP hD hS hL
  have hi : 4 < nL := by rw [← hL.2.2.1]; simp <;> omega
  exact lv_astore C.1 C.2.1 hd  (rd_L_has hL) hi rfl (fun L' h' => k p l e R s m args below meth c g H locs L' C hP hD hS (rd_L_store (v := .ref x) hL hi hok h'))
theorem rr_iinc_4 {a0 a1 a2 a3 : Value} {x : Int32} {n : Int} (v : Int32) {r : List Value} (hd : decode cc pc = .ok (.iinc 4 n, 3)) (hv : Int32.ofInt n = v) (hok : rd_ok1 (a0 :: a1 :: a2 :: a3 :: .int x :: r) 4 = true) (k : rd_W N d own cc nL ret (pc + 3) (a0 :: a1 :: a2 :: a3 :: .int (x + v) :: r) st σ Q) : rd_W N d own cc nL ret pc (a0 :: a1 :: a2 :: a3 :: .int x :: r) st σ Q := by
  intro p l e R s m args below meth c g H locs L C hP hD hS hL
  have hi : 4 < nL := by rw [← hL.2.2.1]; simp <;> omega
  subst hv
  obtain ⟨q, hq⟩ := List.getElem?_of_mem (rd_lv_mem (ad := g.2.1) (ls := a0 :: a1 :: a2 :: a3 :: .int x :: r) (i := 4) (v := .int x) rfl (fun h => by cases h))
  exact lv_iinc C.1 C.2.1 hd (rd_L_has hL) hq rfl hi rfl (fun L' h' => k p l e R s m args below meth c g H locs L' C hP hD hS (rd_L_store (v := .int (x + Int32.ofInt n)) hL hi hok h'))
theorem rr_lstore_4 {a0 a1 a2 a3 : Value} {w w2 : Value} {x : Int64} {r : List Value} (hd : decode cc pc = .ok (.lstore 4, 2)) (hok : rd_ok1 (a0 :: a1 :: a2 :: a3 :: w :: w2 :: r) 4 = true) (k : rd_W N d own cc nL ret (pc + 2) (a0 :: a1 :: a2 :: a3 :: .long x :: .retAddr 0 :: r) st σ Q) : rd_W N d own cc nL ret pc (a0 :: a1 :: a2 :: a3 :: w :: w2 :: r) (.long x :: st) σ Q := by
  intro p l e R s m args below meth c g H locs L C hP hD hS hL
  have hi : 4 + 1 < nL := by rw [← hL.2.2.1]; simp <;> omega
  exact lv_lstore C.1 C.2.1 hd  (rd_L_has hL) hi rfl (fun L' h' => k p l e R s m args below meth c g H locs L' C hP hD hS (rd_L_store2 (v := .long x) hL hi hok h'))
theorem rr_iload_5 {a0 a1 a2 a3 a4 : Value} {x : Int32} {r : List Value} (hd : decode cc pc = .ok (.iload 5, 2)) (k : rd_W N d own cc nL ret (pc + 2) (a0 :: a1 :: a2 :: a3 :: a4 :: .int x :: r) (.int x :: st) σ Q) : rd_W N d own cc nL ret pc (a0 :: a1 :: a2 :: a3 :: a4 :: .int x :: r) st σ Q := by
  intro p l e R s m args below meth c g H locs L C hP hD hS hL
  exact lv_iload C.1 C.2.1 hd  (hL.2.2.2 5 (.int x) rfl (fun h => by cases h)) (k p l e R s m args below meth c g H locs L C hP hD hS hL)
theorem rr_istore_5 {a0 a1 a2 a3 a4 : Value} {w : Value} {x : Int32} {r : List Value} (hd : decode cc pc = .ok (.istore 5, 2)) (hok : rd_ok1 (a0 :: a1 :: a2 :: a3 :: a4 :: w :: r) 5 = true) (k : rd_W N d own cc nL ret (pc + 2) (a0 :: a1 :: a2 :: a3 :: a4 :: .int x :: r) st σ Q) : rd_W N d own cc nL ret pc (a0 :: a1 :: a2 :: a3 :: a4 :: w :: r) (.int x :: st) σ Q := by
  intro p l e R s m args below meth c g H locs L C hP hD hS hL
  have hi : 5 < nL := by rw [← hL.2.2.1]; simp <;> omega
  exact lv_istore C.1 C.2.1 hd  (rd_L_has hL) hi rfl (fun L' h' => k p l e R s m args below meth c g H locs L' C hP hD hS (rd_L_store (v := .int x) hL hi hok h'))
theorem rr_lload_5 {a0 a1 a2 a3 a4 : Value} {x : Int64} {r : List Value} (hd : decode cc pc = .ok (.lload 5, 2)) (k : rd_W N d own cc nL ret (pc + 2) (a0 :: a1 :: a2 :: a3 :: a4 :: .long x :: r) (.long x :: st) σ Q) : rd_W N d own cc nL ret pc (a0 :: a1 :: a2 :: a3 :: a4 :: .long x :: r) st σ Q := by
  intro p l e R s m args below meth c g H locs L C hP hD hS hL
  exact lv_lload C.1 C.2.1 hd  (hL.2.2.2 5 (.long x) rfl (fun h => by cases h)) (k p l e R s m args below meth c g H locs L C hP hD hS hL)
theorem rr_aload_5 {a0 a1 a2 a3 a4 : Value} {x : Nat} {r : List Value} (hd : decode cc pc = .ok (.aload 5, 2)) (k : rd_W N d own cc nL ret (pc + 2) (a0 :: a1 :: a2 :: a3 :: a4 :: .ref x :: r) (.ref x :: st) σ Q) : rd_W N d own cc nL ret pc (a0 :: a1 :: a2 :: a3 :: a4 :: .ref x :: r) st σ Q := by
  intro p l e R s m args below meth c g H locs L C hP hD hS hL
  exact lv_aload C.1 C.2.1 hd  (hL.2.2.2 5 (.ref x) rfl (fun h => by cases h)) (k p l e R s m args below meth c g H locs L C hP hD hS hL)
theorem rr_astore_5 {a0 a1 a2 a3 a4 : Value} {w : Value} {x : Nat} {r : List Value} (hd : decode cc pc = .ok (.astore 5, 2)) (hok : rd_ok1 (a0 :: a1 :: a2 :: a3 :: a4 :: w :: r) 5 = true) (k : rd_W N d own cc nL ret (pc + 2) (a0 :: a1 :: a2 :: a3 :: a4 :: .ref x :: r) st σ Q) : rd_W N d own cc nL ret pc (a0 :: a1 :: a2 :: a3 :: a4 :: w :: r) (.ref x :: st) σ Q := by
  intro p l e R s m args below meth c g H locs L C hP hD hS hL
  have hi : 5 < nL := by rw [← hL.2.2.1]; simp <;> omega
  exact lv_astore C.1 C.2.1 hd  (rd_L_has hL) hi rfl (fun L' h' => k p l e R s m args below meth c g H locs L' C hP hD hS (rd_L_store (v := .ref x) hL hi hok h'))
theorem rr_iinc_5 {a0 a1 a2 a3 a4 : Value} {x : Int32} {n : Int} (v : Int32) {r : List Value} (hd : decode cc pc = .ok (.iinc 5 n, 3)) (hv : Int32.ofInt n = v) (hok : rd_ok1 (a0 :: a1 :: a2 :: a3 :: a4 :: .int x :: r) 5 = true) (k : rd_W N d own cc nL ret (pc + 3) (a0 :: a1 :: a2 :: a3 :: a4 :: .int (x + v) :: r) st σ Q) : rd_W N d own cc nL ret pc (a0 :: a1 :: a2 :: a3 :: a4 :: .int x :: r) st σ Q := by
  intro p l e R s m args below meth c g H locs L C hP hD hS hL
  have hi : 5 < nL := by rw [← hL.2.2.1]; simp <;> omega
  subst hv
  obtain ⟨q, hq⟩ := List.getElem?_of_mem (rd_lv_mem (ad := g.2.1) (ls := a0 :: a1 :: a2 :: a3 :: a4 :: .int x :: r) (i := 5) (v := .int x) rfl (fun h => by cases h))
  exact lv_iinc C.1 C.2.1 hd (rd_L_has hL) hq rfl hi rfl (fun L' h' => k p l e R s m args below meth c g H locs L' C hP hD hS (rd_L_store (v := .int (x + Int32.ofInt n)) hL hi hok h'))
theorem rr_lstore_5 {a0 a1 a2 a3 a4 : Value} {w w2 : Value} {x : Int64} {r : List Value} (hd : decode cc pc = .ok (.lstore 5, 2)) (hok : rd_ok1 (a0 :: a1 :: a2 :: a3 :: a4 :: w :: w2 :: r) 5 = true) (k : rd_W N d own cc nL ret (pc + 2) (a0 :: a1 :: a2 :: a3 :: a4 :: .long x :: .retAddr 0 :: r) st σ Q) : rd_W N d own cc nL ret pc (a0 :: a1 :: a2 :: a3 :: a4 :: w :: w2 :: r) (.long x :: st) σ Q := by
  intro p l e R s m args below meth c g H locs L C hP hD hS hL
  have hi : 5 + 1 < nL := by rw [← hL.2.2.1]; simp <;> omega
  exact lv_lstore C.1 C.2.1 hd  (rd_L_has hL) hi rfl (fun L' h' => k p l e R s m args below meth c g H locs L' C hP hD hS (rd_L_store2 (v := .long x) hL hi hok h'))
theorem rr_iload_6 {a0 a1 a2 a3 a4 a5 : Value} {x : Int32} {r : List Value} (hd : decode cc pc = .ok (.iload 6, 2)) (k : rd_W N d own cc nL ret (pc + 2) (a0 :: a1 :: a2 :: a3 :: a4 :: a5 :: .int x :: r) (.int x :: st) σ Q) : rd_W N d own cc nL ret pc (a0 :: a1 :: a2 :: a3 :: a4 :: a5 :: .int x :: r) st σ Q := by
  intro p l e R s m args below meth c g H locs L C hP hD hS hL
  exact lv_iload C.1 C.2.1 hd  (hL.2.2.2 6 (.int x) rfl (fun h => by cases h)) (k p l e R s m args below meth c g H locs L C hP hD hS hL)
theorem rr_istore_6 {a0 a1 a2 a3 a4 a5 : Value} {w : Value} {x : Int32} {r : List Value} (hd : decode cc pc = .ok (.istore 6, 2)) (hok : rd_ok1 (a0 :: a1 :: a2 :: a3 :: a4 :: a5 :: w :: r) 6 = true) (k : rd_W N d own cc nL ret (pc + 2) (a0 :: a1 :: a2 :: a3 :: a4 :: a5 :: .int x :: r) st σ Q) : rd_W N d own cc nL ret pc (a0 :: a1 :: a2 :: a3 :: a4 :: a5 :: w :: r) (.int x :: st) σ Q := by
  intro p l e R s m args below meth c g H locs L C hP hD hS hL
  have hi : 6 < nL := by rw [← hL.2.2.1]; simp <;> omega
  exact lv_istore C.1 C.2.1 hd  (rd_L_has hL) hi rfl (fun L' h' => k p l e R s m args below meth c g H locs L' C hP hD hS (rd_L_store (v := .int x) hL hi hok h'))
theorem rr_lload_6 {a0 a1 a2 a3 a4 a5 : Value} {x : Int64} {r : List Value} (hd : decode cc pc = .ok (.lload 6, 2)) (k : rd_W N d own cc nL ret (pc + 2) (a0 :: a1 :: a2 :: a3 :: a4 :: a5 :: .long x :: r) (.long x :: st) σ Q) : rd_W N d own cc nL ret pc (a0 :: a1 :: a2 :: a3 :: a4 :: a5 :: .long x :: r) st σ Q := by
  intro p l e R s m args below meth c g H locs L C hP hD hS hL
  exact lv_lload C.1 C.2.1 hd  (hL.2.2.2 6 (.long x) rfl (fun h => by cases h)) (k p l e R s m args below meth c g H locs L C hP hD hS hL)
theorem rr_aload_6 {a0 a1 a2 a3 a4 a5 : Value} {x : Nat} {r : List Value} (hd : decode cc pc = .ok (.aload 6, 2)) (k : rd_W N d own cc nL ret (pc + 2) (a0 :: a1 :: a2 :: a3 :: a4 :: a5 :: .ref x :: r) (.ref x :: st) σ Q) : rd_W N d own cc nL ret pc (a0 :: a1 :: a2 :: a3 :: a4 :: a5 :: .ref x :: r) st σ Q := by
  intro p l e R s m args below meth c g H locs L C hP hD hS hL
  exact lv_aload C.1 C.2.1 hd  (hL.2.2.2 6 (.ref x) rfl (fun h => by cases h)) (k p l e R s m args below meth c g H locs L C hP hD hS hL)
theorem rr_astore_6 {a0 a1 a2 a3 a4 a5 : Value} {w : Value} {x : Nat} {r : List Value} (hd : decode cc pc = .ok (.astore 6, 2)) (hok : rd_ok1 (a0 :: a1 :: a2 :: a3 :: a4 :: a5 :: w :: r) 6 = true) (k : rd_W N d own cc nL ret (pc + 2) (a0 :: a1 :: a2 :: a3 :: a4 :: a5 :: .ref x :: r) st σ Q) : rd_W N d own cc nL ret pc (a0 :: a1 :: a2 :: a3 :: a4 :: a5 :: w :: r) (.ref x :: st) σ Q := by
  intro p l e R s m args below meth c g H locs L C hP hD hS hL
  have hi : 6 < nL := by rw [← hL.2.2.1]; simp <;> omega
  exact lv_astore C.1 C.2.1 hd  (rd_L_has hL) hi rfl (fun L' h' => k p l e R s m args below meth c g H locs L' C hP hD hS (rd_L_store (v := .ref x) hL hi hok h'))
theorem rr_iinc_6 {a0 a1 a2 a3 a4 a5 : Value} {x : Int32} {n : Int} (v : Int32) {r : List Value} (hd : decode cc pc = .ok (.iinc 6 n, 3)) (hv : Int32.ofInt n = v) (hok : rd_ok1 (a0 :: a1 :: a2 :: a3 :: a4 :: a5 :: .int x :: r) 6 = true) (k : rd_W N d own cc nL ret (pc + 3) (a0 :: a1 :: a2 :: a3 :: a4 :: a5 :: .int (x + v) :: r) st σ Q) : rd_W N d own cc nL ret pc (a0 :: a1 :: a2 :: a3 :: a4 :: a5 :: .int x :: r) st σ Q := by
  intro p l e R s m args below meth c g H locs L C hP hD hS hL
  have hi : 6 < nL := by rw [← hL.2.2.1]; simp <;> omega
  subst hv
  obtain ⟨q, hq⟩ := List.getElem?_of_mem (rd_lv_mem (ad := g.2.1) (ls := a0 :: a1 :: a2 :: a3 :: a4 :: a5 :: .int x :: r) (i := 6) (v := .int x) rfl (fun h => by cases h))
  exact lv_iinc C.1 C.2.1 hd (rd_L_has hL) hq rfl hi rfl (fun L' h' => k p l e R s m args below meth c g H locs L' C hP hD hS (rd_L_store (v := .int (x + Int32.ofInt n)) hL hi hok h'))
theorem rr_lstore_6 {a0 a1 a2 a3 a4 a5 : Value} {w w2 : Value} {x : Int64} {r : List Value} (hd : decode cc pc = .ok (.lstore 6, 2)) (hok : rd_ok1 (a0 :: a1 :: a2 :: a3 :: a4 :: a5 :: w :: w2 :: r) 6 = true) (k : rd_W N d own cc nL ret (pc + 2) (a0 :: a1 :: a2 :: a3 :: a4 :: a5 :: .long x :: .retAddr 0 :: r) st σ Q) : rd_W N d own cc nL ret pc (a0 :: a1 :: a2 :: a3 :: a4 :: a5 :: w :: w2 :: r) (.long x :: st) σ Q := by
  intro p l e R s m args below meth c g H locs L C hP hD hS hL
  have hi : 6 + 1 < nL := by rw [← hL.2.2.1]; simp <;> omega
  exact lv_lstore C.1 C.2.1 hd  (rd_L_has hL) hi rfl (fun L' h' => k p l e R s m args below meth c g H locs L' C hP hD hS (rd_L_store2 (v := .long x) hL hi hok h'))
theorem rr_iload_7 {a0 a1 a2 a3 a4 a5 a6 : Value} {x : Int32} {r : List Value} (hd : decode cc pc = .ok (.iload 7, 2)) (k : rd_W N d own cc nL ret (pc + 2) (a0 :: a1 :: a2 :: a3 :: a4 :: a5 :: a6 :: .int x :: r) (.int x :: st) σ Q) : rd_W N d own cc nL ret pc (a0 :: a1 :: a2 :: a3 :: a4 :: a5 :: a6 :: .int x :: r) st σ Q := by
  intro p l e R s m args below meth c g H locs L C hP hD hS hL
  exact lv_iload C.1 C.2.1 hd  (hL.2.2.2 7 (.int x) rfl (fun h => by cases h)) (k p l e R s m args below meth c g H locs L C hP hD hS hL)
theorem rr_istore_7 {a0 a1 a2 a3 a4 a5 a6 : Value} {w : Value} {x : Int32} {r : List Value} (hd : decode cc pc = .ok (.istore 7, 2)) (hok : rd_ok1 (a0 :: a1 :: a2 :: a3 :: a4 :: a5 :: a6 :: w :: r) 7 = true) (k : rd_W N d own cc nL ret (pc + 2) (a0 :: a1 :: a2 :: a3 :: a4 :: a5 :: a6 :: .int x :: r) st σ Q) : rd_W N d own cc nL ret pc (a0 :: a1 :: a2 :: a3 :: a4 :: a5 :: a6 :: w :: r) (.int x :: st) σ Q := by
  intro p l e R s m args below meth c g H locs L C hP hD hS hL
  have hi : 7 < nL := by rw [← hL.2.2.1]; simp <;> omega
  exact lv_istore C.1 C.2.1 hd  (rd_L_has hL) hi rfl (fun L' h' => k p l e R s m args below meth c g H locs L' C hP hD hS (rd_L_store (v := .int x) hL hi hok h'))
theorem rr_lload_7 {a0 a1 a2 a3 a4 a5 a6 : Value} {x : Int64} {r : List Value} (hd : decode cc pc = .ok (.lload 7, 2)) (k : rd_W N d own cc nL ret (pc + 2) (a0 :: a1 :: a2 :: a3 :: a4 :: a5 :: a6 :: .long x :: r) (.long x :: st) σ Q) : rd_W N d own cc nL ret pc (a0 :: a1 :: a2 :: a3 :: a4 :: a5 :: a6 :: .long x :: r) st σ Q := by
  intro p l e R s m args below meth c g H locs L C hP hD hS hL
  exact lv_lload C.1 C.2.1 hd  (hL.2.2.2 7 (.long x) rfl (fun h => by cases h)) (k p l e R s m args below meth c g H locs L C hP hD hS hL)
theorem rr_aload_7 {a0 a1 a2 a3 a4 a5 a6 : Value} {x : Nat} {r : List Value} (hd : decode cc pc = .ok (.aload 7, 2)) (k : rd_W N d own cc nL ret (pc + 2) (a0 :: a1 :: a2 :: a3 :: a4 :: a5 :: a6 :: .ref x :: r) (.ref x :: st) σ Q) : rd_W N d own cc nL ret pc (a0 :: a1 :: a2 :: a3 :: a4 :: a5 :: a6 :: .ref x :: r) st σ Q := by
  intro p l e R s m args below meth c g H locs L C hP hD hS hL
  exact lv_aload C.1 C.2.1 hd  (hL.2.2.2 7 (.ref x) rfl (fun h => by cases h)) (k p l e R s m args below meth c g H locs L C hP hD hS hL)
theorem rr_astore_7 {a0 a1 a2 a3 a4 a5 a6 : Value} {w : Value} {x : Nat} {r : List Value} (hd : decode cc pc = .ok (.astore 7, 2)) (hok : rd_ok1 (a0 :: a1 :: a2 :: a3 :: a4 :: a5 :: a6 :: w :: r) 7 = true) (k : rd_W N d own cc nL ret (pc + 2) (a0 :: a1 :: a2 :: a3 :: a4 :: a5 :: a6 :: .ref x :: r) st σ Q) : rd_W N d own cc nL ret pc (a0 :: a1 :: a2 :: a3 :: a4 :: a5 :: a6 :: w :: r) (.ref x :: st) σ Q := by
  intro p l e R s m args below meth c g H locs L C hP hD hS hL
  have hi : 7 < nL := by rw [← hL.2.2.1]; simp <;> omega
  exact lv_astore C.1 C.2.1 hd  (rd_L_has hL) hi rfl (fun L' h' => k p l e R s m args below meth c g H locs L' C hP hD hS (rd_L_store (v := .ref x) hL hi hok h'))
theorem rr_iinc_7 {a0 a1 a2 a3 a4 a5 a6 : Value} {x : Int32} {n : Int} (v : Int32) {r : List Value} (hd : decode cc pc = .ok (.iinc 7 n, 3)) (hv : Int32.ofInt n = v) (hok : rd_ok1 (a0 :: a1 :: a2 :: a3 :: a4 :: a5 :: a6 :: .int x :: r) 7 = true) (k : rd_W N d own cc nL ret (pc + 3) (a0 :: a1 :: a2 :: a3 :: a4 :: a5 :: a6 :: .int (x + v) :: r) st σ Q) : rd_W N d own cc nL ret pc (a0 :: a1 :: a2 :: a3 :: a4 :: a5 :: a6 :: .int x :: r) st σ Q := by
  intro p l e R s m args below meth c g H locs L C hP hD hS hL
  have hi : 7 < nL := by rw [← hL.2.2.1]; simp <;> omega
  subst hv
  obtain ⟨q, hq⟩ := List.getElem?_of_mem (rd_lv_mem (ad := g.2.1) (ls := a0 :: a1 :: a2 :: a3 :: a4 :: a5 :: a6 :: .int x :: r) (i := 7) (v := .int x) rfl (fun h => by cases h))
  exact lv_iinc C.1 C.2.1 hd (rd_L_has hL) hq rfl hi rfl (fun L' h' => k p l e R s m args below meth c g H locs L' C hP hD hS (rd_L_store (v := .int (x + Int32.ofInt n)) hL hi hok h'))
theorem rr_lstore_7 {a0 a1 a2 a3 a4 a5 a6 : Value} {w w2 : Value} {x : Int64} {r : List Value} (hd : decode cc pc = .ok (.lstore 7, 2)) (hok : rd_ok1 (a0 :: a1 :: a2 :: a3 :: a4 :: a5 :: a6 :: w :: w2 :: r) 7 = true) (k : rd_W N d own cc nL ret (pc + 2) (a0 :: a1 :: a2 :: a3 :: a4 :: a5 :: a6 :: .long x :: .retAddr 0 :: r) st σ Q) : rd_W N d own cc nL ret pc (a0 :: a1 :: a2 :: a3 :: a4 :: a5 :: a6 :: w :: w2 :: r) (.long x :: st) σ Q := by
  intro p l e R s m args below meth c g H locs L C hP hD hS hL
  have hi : 7 + 1 < nL := by rw [← hL.2.2.1]; simp <;> omega
  exact lv_lstore C.1 C.2.1 hd  (rd_L_has hL) hi rfl (fun L' h' => k p l e R s m args below meth c g H locs L' C hP hD hS (rd_L_store2 (v := .long x) hL hi hok h'))
theorem rr_iload_8 {a0 a1 a2 a3 a4 a5 a6 a7 : Value} {x : Int32} {r : List Value} (hd : decode cc pc = .ok (.iload 8, 2)) (k : rd_W N d own cc nL ret (pc + 2) (a0 :: a1 :: a2 :: a3 :: a4 :: a5 :: a6 :: a7 :: .int x :: r) (.int x :: st) σ Q) : rd_W N d own cc nL ret pc (a0 :: a1 :: a2 :: a3 :: a4 :: a5 :: a6 :: a7 :: .int x :: r) st σ Q := by
  intro p l e R s m args below meth c g H locs L C hP hD hS hL
  exact lv_iload C.1 C.2.1 hd  (hL.2.2.2 8 (.int x) rfl (fun h => by cases h)) (k p l e R s m args below meth c g H locs L C hP hD hS hL)
theorem rr_istore_8 {a0 a1 a2 a3 a4 a5 a6 a7 : Value} {w : Value} {x : Int32} {r : List Value} (hd : decode cc pc = .ok (.istore 8, 2)) (hok : rd_ok1 (a0 :: a1 :: a2 :: a3 :: a4 :: a5 :: a6 :: a7 :: w :: r) 8 = true) (k : rd_W N d own cc nL ret (pc + 2) (a0 :: a1 :: a2 :: a3 :: a4 :: a5 :: a6 :: a7 :: .int x :: r) st σ Q) : rd_W N d own cc nL ret pc (a0 :: a1 :: a2 :: a3 :: a4 :: a5 :: a6 :: a7 :: w :: r) (.int x :: st) σ Q := by
  intro p l e R s m args below meth c g H locs L C hP hD hS hL
  have hi : 8 < nL := by rw [← hL.2.2.1]; simp <;> omega
  exact lv_istore C.1 C.2.1 hd  (rd_L_has hL) hi rfl (fun L' h' => k p l e R s m args below meth c g H locs L' C hP hD hS (rd_L_store (v := .int x) hL hi hok h'))
theorem rr_lload_8 {a0 a1 a2 a3 a4 a5 a6 a7 : Value} {x : Int64} {r : List Value} (hd : decode cc pc = .ok (.lload 8, 2)) (k : rd_W N d own cc nL ret (pc + 2) (a0 :: a1 :: a2 :: a3 :: a4 :: a5 :: a6 :: a7 :: .long x :: r) (.long x :: st) σ Q) : rd_W N d own cc nL ret pc (a0 :: a1 :: a2 :: a3 :: a4 :: a5 :: a6 :: a7 :: .long x :: r) st σ Q := by
  intro p l e R s m args below meth c g H locs L C hP hD hS hL
  exact lv_lload C.1 C.2.1 hd  (hL.2.2.2 8 (.long x) rfl (fun h => by cases h)) (k p l e R s m args below meth c g H locs L C hP hD hS hL)
theorem rr_aload_8 {a0 a1 a2 a3 a4 a5 a6 a7 : Value} {x : Nat} {r : List Value} (hd : decode cc pc = .ok (.aload 8, 2)) (k : rd_W N d own cc nL ret (pc + 2) (a0 :: a1 :: a2 :: a3 :: a4 :: a5 :: a6 :: a7 :: .ref x :: r) (.ref x :: st) σ Q) : rd_W N d own cc nL ret pc (a0 :: a1 :: a2 :: a3 :: a4 :: a5 :: a6 :: a7 :: .ref x :: r) st σ Q := by
  intro p l e R s m args below meth c g H locs L C hP hD hS hL
  exact lv_aload C.1 C.2.1 hd  (hL.2.2.2 8 (.ref x) rfl (fun h => by cases h)) (k p l e R s m args below meth c g H locs L C hP hD hS hL)
theorem rr_astore_8 {a0 a1 a2 a3 a4 a5 a6 a7 : Value} {w : Value} {x : Nat} {r : List Value} (hd : decode cc pc = .ok (.astore 8, 2)) (hok : rd_ok1 (a0 :: a1 :: a2 :: a3 :: a4 :: a5 :: a6 :: a7 :: w :: r) 8 = true) (k : rd_W N d own cc nL ret (pc + 2) (a0 :: a1 :: a2 :: a3 :: a4 :: a5 :: a6 :: a7 :: .ref x :: r) st σ Q) : rd_W N d own cc nL ret pc (a0 :: a1 :: a2 :: a3 :: a4 :: a5 :: a6 :: a7 :: w :: r) (.ref x :: st) σ Q := by
  intro p l e R s m args below meth c g H locs L C hP hD hS hL
  have hi : 8 < nL := by rw [← hL.2.2.1]; simp <;> omega
  exact lv_astore C.1 C.2.1 hd  (rd_L_has hL) hi rfl (fun L' h' => k p l e R s m args below meth c g H locs L' C hP hD hS (rd_L_store (v := .ref x) hL hi hok h'))
theorem rr_iinc_8 {a0 a1 a2 a3 a4 a5 a6 a7 : Value} {x : Int32} {n : Int} (v : Int32) {r : List Value} (hd : decode cc pc = .ok (.iinc 8 n, 3)) (hv : Int32.ofInt n = v) (hok : rd_ok1 (a0 :: a1 :: a2 :: a3 :: a4 :: a5 :: a6 :: a7 :: .int x :: r) 8 = true) (k : rd_W N d own cc nL ret (pc + 3) (a0 :: a1 :: a2 :: a3 :: a4 :: a5 :: a6 :: a7 :: .int (x + v) :: r) st σ Q) : rd_W N d own cc nL ret pc (a0 :: a1 :: a2 :: a3 :: a4 :: a5 :: a6 :: a7 :: .int x :: r) st σ Q := by
  intro p l e R s m args below meth c g H locs L C hP hD hS hL
  have hi : 8 < nL := by rw [← hL.2.2.1]; simp <;> omega
  subst hv
  obtain ⟨q, hq⟩ := List.getElem?_of_mem (rd_lv_mem (ad := g.2.1) (ls := a0 :: a1 :: a2 :: a3 :: a4 :: a5 :: a6 :: a7 :: .int x :: r) (i := 8) (v := .int x) rfl (fun h => by cases h))
  exact lv_iinc C.1 C.2.1 hd (rd_L_has hL) hq rfl hi rfl (fun L' h' => k p l e R s m args below meth c g H locs L' C hP hD hS (rd_L_store (v := .int (x + Int32.ofInt n)) hL hi hok h'))
theorem rr_lstore_8 {a0 a1 a2 a3 a4 a5 a6 a7 : Value} {w w2 : Value} {x : Int64} {r : List Value} (hd : decode cc pc = .ok (.lstore 8, 2)) (hok : rd_ok1 (a0 :: a1 :: a2 :: a3 :: a4 :: a5 :: a6 :: a7 :: w :: w2 :: r) 8 = true) (k : rd_W N d own cc nL ret (pc + 2) (a0 :: a1 :: a2 :: a3 :: a4 :: a5 :: a6 :: a7 :: .long x :: .retAddr 0 :: r) st σ Q) : rd_W N d own cc nL ret pc (a0 :: a1 :: a2 :: a3 :: a4 :: a5 :: a6 :: a7 :: w :: w2 :: r) (.long x :: st) σ Q := by
  intro p l e R s m args below meth c g H locs L C hP hD hS hL
  have hi : 8 + 1 < nL := by rw [← hL.2.2.1]; simp <;> omega
  exact lv_lstore C.1 C.2.1 hd  (rd_L_has hL) hi rfl (fun L' h' => k p l e R s m args below meth c g H locs L' C hP hD hS (rd_L_store2 (v := .long x) hL hi hok h'))
theorem rr_iload_9 {a0 a1 a2 a3 a4 a5 a6 a7 a8 : Value} {x : Int32} {r : List Value} (hd : decode cc pc = .ok (.iload 9, 2)) (k : rd_W N d own cc nL ret (pc + 2) (a0 :: a1 :: a2 :: a3 :: a4 :: a5 :: a6 :: a7 :: a8 :: .int x :: r) (.int x :: st) σ Q) : rd_W N d own cc nL ret pc (a0 :: a1 :: a2 :: a3 :: a4 :: a5 :: a6 :: a7 :: a8 :: .int x :: r) st σ Q := by
  intro p l e R s m args below meth c g H locs L C hP hD hS hL
  exact lv_iload C.1 C.2.1 hd  (hL.2.2.2 9 (.int x) rfl (fun h => by cases h)) (k p l e R s m args below meth c g H locs L C hP hD hS hL)
theorem rr_istore_9 {a0 a1 a2 a3 a4 a5 a6 a7 a8 : Value} {w : Value} {x : Int32} {r : List Value} (hd : decode cc pc = .ok (.istore 9, 2)) (hok : rd_ok1 (a0 :: a1 :: a2 :: a3 :: a4 :: a5 :: a6 :: a7 :: a8 :: w :: r) 9 = true) (k : rd_W N d own cc nL ret (pc + 2) (a0 :: a1 :: a2 :: a3 :: a4 :: a5 :: a6 :: a7 :: a8 :: .int x :: r) st σ Q) : rd_W N d own cc nL ret pc (a0 :: a1 :: a2 :: a3 :: a4 :: a5 :: a6 :: a7 :: a8 :: w :: r) (.int x :: st) σ Q := by
  intro p l e R s m args below meth c g H locs L C hP hD hS hL
  have hi : 9 < nL := by rw [← hL.2.2.1]; simp <;> omega
  exact lv_istore C.1 C.2.1 hd  (rd_L_has hL) hi rfl (fun L' h' => k p l e R s m args below meth c g H locs L' C hP hD hS (rd_L_store (v := .int x) hL hi hok h'))
theorem rr_lload_9 {a0 a1 a2 a3 a4 a5 a6 a7 a8 : Value} {x : Int64} {r : List Value} (hd : decode cc pc = .ok (.lload 9, 2)) (k : rd_W N d own cc nL ret (pc + 2) (a0 :: a1 :: a2 :: a3 :: a4 :: a5 :: a6 :: a7 :: a8 :: .long x :: r) (.long x :: st) σ Q) : rd_W N d own cc nL ret pc (a0 :: a1 :: a2 :: a3 :: a4 :: a5 :: a6 :: a7 :: a8 :: .long x :: r) st σ Q := by
  intro p l e R s m args below meth c g H locs L C hP hD hS hL
  exact lv_lload C.1 C.2.1 hd  (hL.2.2.2 9 (.long x) rfl (fun h => by cases h)) (k p l e R s m args below meth c g H locs L C hP hD hS hL)
theorem rr_aload_9 {a0 a1 a2 a3 a4 a5 a6 a7 a8 : Value} {x : Nat} {r : List Value} (hd : decode cc pc = .ok (.aload 9, 2)) (k : rd_W N d own cc nL ret (pc + 2) (a0 :: a1 :: a2 :: a3 :: a4 :: a5 :: a6 :: a7 :: a8 :: .ref x :: r) (.ref x :: st) σ Q) : rd_W N d own cc nL ret pc (a0 :: a1 :: a2 :: a3 :: a4 :: a5 :: a6 :: a7 :: a8 :: .ref x :: r) st σ Q := by
  intro p l e R s m args below meth c g H locs L C hP hD hS hL
  exact lv_aload C.1 C.2.1 hd  (hL.2.2.2 9 (.ref x) rfl (fun h => by cases h)) (k p l e R s m args below meth c g H locs L C hP hD hS hL)
theorem rr_astore_9 {a0 a1 a2 a3 a4 a5 a6 a7 a8 : Value} {w : Value} {x : Nat} {r : List Value} (hd : decode cc pc = .ok (.astore 9, 2)) (hok : rd_ok1 (a0 :: a1 :: a2 :: a3 :: a4 :: a5 :: a6 :: a7 :: a8 :: w :: r) 9 = true) (k : rd_W N d own cc nL ret (pc + 2) (a0 :: a1 :: a2 :: a3 :: a4 :: a5 :: a6 :: a7 :: a8 :: .ref x :: r) st σ Q) : rd_W N d own cc nL ret pc (a0 :: a1 :: a2 :: a3 :: a4 :: a5 :: a6 :: a7 :: a8 :: w :: r) (.ref x :: st) σ Q := by
  intro p l e R s m args below meth c g H locs L C hP hD hS hL
  have hi : 9 < nL := by rw [← hL.2.2.1]; simp <;> omega
  exact lv_astore C.1 C.2.1 hd  (rd_L_has hL) hi rfl (fun L' h' => k p l e R s m args below meth c g H locs L' C hP hD hS (rd_L_store (v := .ref x) hL hi hok h'))
theorem rr_iinc_9 {a0 a1 a2 a3 a4 a5 a6 a7 a8 : Value} {x : Int32} {n : Int} (v : Int32) {r : List Value} (hd : decode cc pc = .ok (.iinc 9 n, 3)) (hv : Int32.ofInt n = v) (hok : rd_ok1 (a0 :: a1 :: a2 :: a3 :: a4 :: a5 :: a6 :: a7 :: a8 :: .int x :: r) 9 = true) (k : rd_W N d own cc nL ret (pc + 3) (a0 :: a1 :: a2 :: a3 :: a4 :: a5 :: a6 :: a7 :: a8 :: .int (x + v) :: r) st σ Q) : rd_W N d own cc nL ret pc (a0 :: a1 :: a2 :: a3 :: a4 :: a5 :: a6 :: a7 :: a8 :: .int x :: r) st σ Q := by
  intro p l e R s m args below meth c g H locs L C hP hD hS hL
  have hi : 9 < nL := by rw [← hL.2.2.1]; simp <;> omega
  subst hv
  obtain ⟨q, hq⟩ := List.getElem?_of_mem (rd_lv_mem (ad := g.2.1) (ls := a0 :: a1 :: a2 :: a3 :: a4 :: a5 :: a6 :: a7 :: a8 :: .int x :: r) (i := 9) (v := .int x) rfl (fun h => by cases h))
  exact lv_iinc C.1 C.2.1 hd (rd_L_has hL) hq rfl hi rfl (fun L' h' => k p l e R s m args below meth c g H locs L' C hP hD hS (rd_L_store (v := .int (x + Int32.ofInt n)) hL hi hok h'))
theorem rr_lstore_9 {a0 a1 a2 a3 a4 a5 a6 a7 a8 : Value} {w w2 : Value} {x : Int64} {r : List Value} (hd : decode cc pc = .ok (.lstore 9, 2)) (hok : rd_ok1 (a0 :: a1 :: a2 :: a3 :: a4 :: a5 :: a6 :: a7 :: a8 :: w :: w2 :: r) 9 = true) (k : rd_W N d own cc nL ret (pc + 2) (a0 :: a1 :: a2 :: a3 :: a4 :: a5 :: a6 :: a7 :: a8 :: .long x :: .retAddr 0 :: r) st σ Q) : rd_W N d own cc nL ret pc (a0 :: a1 :: a2 :: a3 :: a4 :: a5 :: a6 :: a7 :: a8 :: w :: w2 :: r) (.long x :: st) σ Q := by
  intro p l e R s m args below meth c g H locs L C hP hD hS hL
  have hi : 9 + 1 < nL := by rw [← hL.2.2.1]; simp <;> omega
  exact lv_lstore C.1 C.2.1 hd  (rd_L_has hL) hi rfl (fun L' h' => k p l e R s m args below meth c g H locs L' C hP hD hS (rd_L_store2 (v := .long x) hL hi hok h'))
theorem rr_iload_10 {a0 a1 a2 a3 a4 a5 a6 a7 a8 a9 : Value} {x : Int32} {r : List Value} (hd : decode cc pc = .ok (.iload 10, 2)) (k : rd_W N d own cc nL ret (pc + 2) (a0 :: a1 :: a2 :: a3 :: a4 :: a5 :: a6 :: a7 :: a8 :: a9 :: .int x :: r) (.int x :: st) σ Q) : rd_W N d own cc nL ret pc (a0 :: a1 :: a2 :: a3 :: a4 :: a5 :: a6 :: a7 :: a8 :: a9 :: .int x :: r) st σ Q := by
  intro p l e R s m args below meth c g H locs L C hP hD hS hL
  exact lv_iload C.1 C.2.1 hd  (hL.2.2.2 10 (.int x) rfl (fun h => by cases h)) (k p l e R s m args below meth c g H locs L C hP hD hS hL)
theorem rr_istore_10 {a0 a1 a2 a3 a4 a5 a6 a7 a8 a9 : Value} {w : Value} {x : Int32} {r : List Value} (hd : decode cc pc = .ok (.istore 10, 2)) (hok : rd_ok1 (a0 :: a1 :: a2 :: a3 :: a4 :: a5 :: a6 :: a7 :: a8 :: a9 :: w :: r) 10 = true) (k : rd_W N d own cc nL ret (pc + 2) (a0 :: a1 :: a2 :: a3 :: a4 :: a5 :: a6 :: a7 :: a8 :: a9 :: .int x :: r) st σ Q) : rd_W N d own cc nL ret pc (a0 :: a1 :: a2 :: a3 :: a4 :: a5 :: a6 :: a7 :: a8 :: a9 :: w :: r) (.int x :: st) σ Q := by
  intro p l e R s m args below meth c g H locs L C hP hD hS hL
  have hi : 10 < nL := by rw [← hL.2.2.1]; simp <;> omega
  exact lv_istore C.1 C.2.1 hd  (rd_L_has hL) hi rfl (fun L' h' => k p l e R s m args below meth c g H locs L' C hP hD hS (rd_L_store (v := .int x) hL hi hok h'))
theorem rr_lload_10 {a0 a1 a2 a3 a4 a5 a6 a7 a8 a9 : Value} {x : Int64} {r : List Value} (hd : decode cc pc = .ok (.lload 10, 2)) (k : rd_W N d own cc nL ret (pc + 2) (a0 :: a1 :: a2 :: a3 :: a4 :: a5 :: a6 :: a7 :: a8 :: a9 :: .long x :: r) (.long x :: st) σ Q) : rd_W N d own cc nL ret pc (a0 :: a1 :: a2 :: a3 :: a4 :: a5 :: a6 :: a7 :: a8 :: a9 :: .long x :: r) st σ Q := by
  intro p l e R s m args below meth c g H locs L C hP hD hS hL
  exact lv_lload C.1 C.2.1 hd  (hL.2.2.2 10 (.long x) rfl (fun h => by cases h)) (k p l e R s m args below meth c g H locs L C hP hD hS hL)
theorem rr_aload_10 {a0 a1 a2 a3 a4 a5 a6 a7 a8 a9 : Value} {x : Nat} {r : List Value} (hd : decode cc pc = .ok (.aload 10, 2)) (k : rd_W N d own cc nL ret (pc + 2) (a0 :: a1 :: a2 :: a3 :: a4 :: a5 :: a6 :: a7 :: a8 :: a9 :: .ref x :: r) (.ref x :: st) σ Q) : rd_W N d own cc nL ret pc (a0 :: a1 :: a2 :: a3 :: a4 :: a5 :: a6 :: a7 :: a8 :: a9 :: .ref x :: r) st σ Q := by
  intro p l e R s m args below meth c g H locs L C hP hD hS hL
  exact lv_aload C.1 C.2.1 hd  (hL.2.2.2 10 (.ref x) rfl (fun h => by cases h)) (k p l e R s m args below meth c g H locs L C hP hD hS hL)
theorem rr_astore_10 {a0 a1 a2 a3 a4 a5 a6 a7 a8 a9 : Value} {w : Value} {x : Nat} {r : List Value} (hd : decode cc pc = .ok (.astore 10, 2)) (hok : rd_ok1 (a0 :: a1 :: a2 :: a3 :: a4 :: a5 :: a6 :: a7 :: a8 :: a9 :: w :: r) 10 = true) (k : rd_W N d own cc nL ret (pc + 2) (a0 :: a1 :: a2 :: a3 :: a4 :: a5 :: a6 :: a7 :: a8 :: a9 :: .ref x :: r) st σ Q) : rd_W N d own cc nL ret pc (a0 :: a1 :: a2 :: a3 :: a4 :: a5 :: a6 :: a7 :: a8 :: a9 :: w :: r) (.ref x :: st) σ Q := by
  intro p l e R s m args below meth c g H locs L C hP hD hS hL
  have hi : 10 < nL := by rw [← hL.2.2.1]; simp <;> omega
  exact lv_astore C.1 C.2.1 hd  (rd_L_has hL) hi rfl (fun L' h' => k p l e R s m args below meth c g H locs L' C hP hD hS (rd_L_store (v := .ref x) hL hi hok h'))
theorem rr_iinc_10 {a0 a1 a2 a3 a4 a5 a6 a7 a8 a9 : Value} {x : Int32} {n : Int} (v : Int32) {r : List Value} (hd : decode cc pc = .ok (.iinc 10 n, 3)) (hv : Int32.ofInt n = v) (hok : rd_ok1 (a0 :: a1 :: a2 :: a3 :: a4 :: a5 :: a6 :: a7 :: a8 :: a9 :: .int x :: r) 10 = true) (k : rd_W N d own cc nL ret (pc + 3) (a0 :: a1 :: a2 :: a3 :: a4 :: a5 :: a6 :: a7 :: a8 :: a9 :: .int (x + v) :: r) st σ Q) : rd_W N d own cc nL ret pc (a0 :: a1 :: a2 :: a3 :: a4 :: a5 :: a6 :: a7 :: a8 :: a9 :: .int x :: r) st σ Q := by
  intro p l e R s m args below meth c g H locs L C hP hD hS hL
  have hi : 10 < nL := by rw [← hL.2.2.1]; simp <;> omega
  subst hv
  obtain ⟨q, hq⟩ := List.getElem?_of_mem (rd_lv_mem (ad := g.2.1) (ls := a0 :: a1 :: a2 :: a3 :: a4 :: a5 :: a6 :: a7 :: a8 :: a9 :: .int x :: r) (i := 10) (v := .int x) rfl (fun h => by cases h))
  exact lv_iinc C.1 C.2.1 hd (rd_L_has hL) hq rfl hi rfl (fun L' h' => k p l e R s m args below meth c g H locs L' C hP hD hS (rd_L_store (v := .int (x + Int32.ofInt n)) hL hi hok h'))
theorem rr_lstore_10 {a0 a1 a2 a3 a4 a5 a6 a7 a8 a9 : Value} {w w2 : Value} {x : Int64} {r : List Value} (hd : decode cc pc = .ok (.lstore 10, 2)) (hok : rd_ok1 (a0 :: a1 :: a2 :: a3 :: a4 :: a5 :: a6 :: a7 :: a8 :: a9 :: w :: w2 :: r) 10 = true) (k : rd_W N d own cc nL ret (pc + 2) (a0 :: a1 :: a2 :: a3 :: a4 :: a5 :: a6 :: a7 :: a8 :: a9 :: .long x :: .retAddr 0 :: r) st σ Q) : rd_W N d own cc nL ret pc (a0 :: a1 :: a2 :: a3 :: a4 :: a5 :: a6 :: a7 :: a8 :: a9 :: w :: w2 :: r) (.long x :: st) σ Q := by
  intro p l e R s m args below meth c g H locs L C hP hD hS hL
  have hi : 10 + 1 < nL := by rw [← hL.2.2.1]; simp <;> omega
  exact lv_lstore C.1 C.2.1 hd  (rd_L_has hL) hi rfl (fun L' h' => k p l e R s m args below meth c g H locs L' C hP hD hS (rd_L_store2 (v := .long x) hL hi hok h'))
theorem rr_iload_11 {a0 a1 a2 a3 a4 a5 a6 a7 a8 a9 a10 : Value} {x : Int32} {r : List Value} (hd : decode cc pc = .ok (.iload 11, 2)) (k : rd_W N d own cc nL ret (pc + 2) (a0 :: a1 :: a2 :: a3 :: a4 :: a5 :: a6 :: a7 :: a8 :: a9 :: a10 :: .int x :: r) (.int x :: st) σ Q) : rd_W N d own cc nL ret pc (a0 :: a1 :: a2 :: a3 :: a4 :: a5 :: a6 :: a7 :: a8 :: a9 :: a10 :: .int x :: r) st σ Q := by
  intro p l e R s m args below meth c g H locs L C hP hD hS hL
  exact lv_iload C.1 C.2.1 hd  (hL.2.2.2 11 (.int x) rfl (fun h => by cases h)) (k p l e R s m args below meth c g H locs L C hP hD hS hL)
theorem rr_istore_11 {a0 a1 a2 a3 a4 a5 a6 a7 a8 a9 a10 : Value} {w : Value} {x : Int32} {r : List Value} (hd : decode cc pc = .ok (.istore 11, 2)) (hok : rd_ok1 (a0 :: a1 :: a2 :: a3 :: a4 :: a5 :: a6 :: a7 :: a8 :: a9 :: a10 :: w :: r) 11 = true) (k : rd_W N d own cc nL ret (pc + 2) (a0 :: a1 :: a2 :: a3 :: a4 :: a5 :: a6 :: a7 :: a8 :: a9 :: a10 :: .int x :: r) st σ Q) : rd_W N d own cc nL ret pc (a0 :: a1 :: a2 :: a3 :: a4 :: a5 :: a6 :: a7 :: a8 :: a9 :: a10 :: w :: r) (.int x :: st) σ Q := by
  intro p l e R s m args below meth c g H locs L C hP hD hS hL
  have hi : 11 < nL := by rw [← hL.2.2.1]; simp <;> omega
  exact lv_istore C.1 C.2.1 hd  (rd_L_has hL) hi rfl (fun L' h' => k p l e R s m args below meth c g H locs L' C hP hD hS (rd_L_store (v := .int x) hL hi hok h'))
theorem rr_lload_11 {a0 a1 a2 a3 a4 a5 a6 a7 a8 a9 a10 : Value} {x : Int64} {r : List Value} (hd : decode cc pc = .ok (.lload 11, 2)) (k : rd_W N d own cc nL ret (pc + 2) (a0 :: a1 :: a2 :: a3 :: a4 :: a5 :: a6 :: a7 :: a8 :: a9 :: a10 :: .long x :: r) (.long x :: st) σ Q) : rd_W N d own cc nL ret pc (a0 :: a1 :: a2 :: a3 :: a4 :: a5 :: a6 :: a7 :: a8 :: a9 :: a10 :: .long x :: r) st σ Q := by
  intro p l e R s m args below meth c g H locs L C hP hD hS hL
  exact lv_lload C.1 C.2.1 hd  (hL.2.2.2 11 (.long x) rfl (fun h => by cases h)) (k p l e R s m args below meth c g H locs L C hP hD hS hL)
theorem rr_aload_11 {a0 a1 a2 a3 a4 a5 a6 a7 a8 a9 a10 : Value} {x : Nat} {r : List Value} (hd : decode cc pc = .ok (.aload 11, 2)) (k : rd_W N d own cc nL ret (pc + 2) (a0 :: a1 :: a2 :: a3 :: a4 :: a5 :: a6 :: a7 :: a8 :: a9 :: a10 :: .ref x :: r) (.ref x :: st) σ Q) : rd_W N d own cc nL ret pc (a0 :: a1 :: a2 :: a3 :: a4 :: a5 :: a6 :: a7 :: a8 :: a9 :: a10 :: .ref x :: r) st σ Q := by
  intro p l e R s m args below meth c g H locs L C hP hD hS hL
  exact lv_aload C.1 C.2.1 hd  (hL.2.2.2 11 (.ref x) rfl (fun h => by cases h)) (k p l e R s m args below meth c g H locs L C hP hD hS hL)
theorem rr_astore_11 {a0 a1 a2 a3 a4 a5 a6 a7 a8 a9 a10 : Value} {w : Value} {x : Nat} {r : List Value} (hd : decode cc pc = .ok (.astore 11, 2)) (hok : rd_ok1 (a0 :: a1 :: a2 :: a3 :: a4 :: a5 :: a6 :: a7 :: a8 :: a9 :: a10 :: w :: r) 11 = true) (k : rd_W N d own cc nL ret (pc + 2) (a0 :: a1 :: a2 :: a3 :: a4 :: a5 :: a6 :: a7 :: a8 :: a9 :: a10 :: .ref x :: r) st σ Q) : rd_W N d own cc nL ret pc (a0 :: a1 :: a2 :: a3 :: a4 :: a5 :: a6 :: a7 :: a8 :: a9 :: a10 :: w :: r) (.ref x :: st) σ Q := by
  intro p l e R s m args below meth c g H locs L C hP hD hS hL
  have hi : 11 < nL := by rw [← hL.2.2.1]; simp <;> omega
  exact lv_astore C.1 C.2.1 hd  (rd_L_has hL) hi rfl (fun L' h' => k p l e R s m args below meth c g H locs L' C hP hD hS (rd_L_store (v := .ref x) hL hi hok h'))
theorem rr_iinc_11 {a0 a1 a2 a3 a4 a5 a6 a7 a8 a9 a10 : Value} {x : Int32} {n : Int} (v : Int32) {r : List Value} (hd : decode cc pc = .ok (.iinc 11 n, 3)) (hv : Int32.ofInt n = v) (hok : rd_ok1 (a0 :: a1 :: a2 :: a3 :: a4 :: a5 :: a6 :: a7 :: a8 :: a9 :: a10 :: .int x :: r) 11 = true) (k : rd_W N d own cc nL ret (pc + 3) (a0 :: a1 :: a2 :: a3 :: a4 :: a5 :: a6 :: a7 :: a8 :: a9 :: a10 :: .int (x + v) :: r) st σ Q) : rd_W N d own cc nL ret pc (a0 :: a1 :: a2 :: a3 :: a4 :: a5 :: a6 :: a7 :: a8 :: a9 :: a10 :: .int x :: r) st σ Q := by
  intro p l e R s m args below meth c g H locs L C hP hD hS hL
  have hi : 11 < nL := by rw [← hL.2.2.1]; simp <;> omega
  subst hv
  obtain ⟨q, hq⟩ := List.getElem?_of_mem (rd_lv_mem (ad := g.2.1) (ls := a0 :: a1 :: a2 :: a3 :: a4 :: a5 :: a6 :: a7 :: a8 :: a9 :: a10 :: .int x :: r) (i := 11) (v := .int x) rfl (fun h => by cases h))
  exact lv_iinc C.1 C.2.1 hd (rd_L_has hL) hq rfl hi rfl (fun L' h' => k p l e R s m args below meth c g H locs L' C hP hD hS (rd_L_store (v := .int (x + Int32.ofInt n)) hL hi hok h'))
theorem rr_lstore_11 {a0 a1 a2 a3 a4 a5 a6 a7 a8 a9 a10 : Value} {w w2 : Value} {x : Int64} {r : List Value} (hd : decode cc pc = .ok (.lstore 11, 2)) (hok : rd_ok1 (a0 :: a1 :: a2 :: a3 :: a4 :: a5 :: a6 :: a7 :: a8 :: a9 :: a10 :: w :: w2 :: r) 11 = true) (k : rd_W N d own cc nL ret (pc + 2) (a0 :: a1 :: a2 :: a3 :: a4 :: a5 :: a6 :: a7 :: a8 :: a9 :: a10 :: .long x :: .retAddr 0 :: r) st σ Q) : rd_W N d own cc nL ret pc (a0 :: a1 :: a2 :: a3 :: a4 :: a5 :: a6 :: a7 :: a8 :: a9 :: a10 :: w :: w2 :: r) (.long x :: st) σ Q := by
  intro p l e R s m args below meth c g H locs L C hP hD hS hL
  have hi : 11 + 1 < nL := by rw [← hL.2.2.1]; simp <;> omega
  exact lv_lstore C.1 C.2.1 hd  (rd_L_has hL) hi rfl (fun L' h' => k p l e R s m args below meth c g H locs L' C hP hD hS (rd_L_store2 (v := .long x) hL hi hok h'))
theorem rr_iload_12 {a0 a1 a2 a3 a4 a5 a6 a7 a8 a9 a10 a11 : Value} {x : Int32} {r : List Value} (hd : decode cc pc = .ok (.iload 12, 2)) (k : rd_W N d own cc nL ret (pc + 2) (a0 :: a1 :: a2 :: a3 :: a4 :: a5 :: a6 :: a7 :: a8 :: a9 :: a10 :: a11 :: .int x :: r) (.int x :: st) σ Q) : rd_W N d own cc nL ret pc (a0 :: a1 :: a2 :: a3 :: a4 :: a5 :: a6 :: a7 :: a8 :: a9 :: a10 :: a11 :: .int x :: r) st σ Q := by
  intro p l e R s m args below meth c g H locs L C hP hD hS hL
  exact lv_iload C.1 C.2.1 hd  (hL.2.2.2 12 (.int x) rfl (fun h => by cases h)) (k p l e R s m args below meth c g H locs L C hP hD hS hL)
theorem rr_istore_12 {a0 a1 a2 a3 a4 a5 a6 a7 a8 a9 a10 a11 : Value} {w : Value} {x : Int32} {r : List Value} (hd : decode cc pc = .ok (.istore 12, 2)) (hok : rd_ok1 (a0 :: a1 :: a2 :: a3 :: a4 :: a5 :: a6 :: a7 :: a8 :: a9 :: a10 :: a11 :: w :: r) 12 = true) (k : rd_W N d own cc nL ret (pc + 2) (a0 :: a1 :: a2 :: a3 :: a4 :: a5 :: a6 :: a7 :: a8 :: a9 :: a10 :: a11 :: .int x :: r) st σ Q) : rd_W N d own cc nL ret pc (a0 :: a1 :: a2 :: a3 :: a4 :: a5 :: a6 :: a7 :: a8 :: a9 :: a10 :: a11 :: w :: r) (.int x :: st) σ Q := by
  intro p l e R s m args below meth c g H locs L C hP hD hS hL
  have hi : 12 < nL := by rw [← hL.2.2.1]; simp <;> omega
  exact lv_istore C.1 C.2.1 hd  (rd_L_has hL) hi rfl (fun L' h' => k p l e R s m args below meth c g H locs L' C hP hD hS (rd_L_store (v := .int x) hL hi hok h'))
theorem rr_lload_12 {a0 a1 a2 a3 a4 a5 a6 a7 a8 a9 a10 a11 : Value} {x : Int64} {r : List Value} (hd : decode cc pc = .ok (.lload 12, 2)) (k : rd_W N d own cc nL ret (pc + 2) (a0 :: a1 :: a2 :: a3 :: a4 :: a5 :: a6 :: a7 :: a8 :: a9 :: a10 :: a11 :: .long x :: r) (.long x :: st) σ Q) : rd_W N d own cc nL ret pc (a0 :: a1 :: a2 :: a3 :: a4 :: a5 :: a6 :: a7 :: a8 :: a9 :: a10 :: a11 :: .long x :: r) st σ Q := by
  intro p l e R s m args below meth c g H locs L C hP hD hS hL
  exact lv_lload C.1 C.2.1 hd  (hL.2.2.2 12 (.long x) rfl (fun h => by cases h)) (k p l e R s m args below meth c g H locs L C hP hD hS hL)
theorem rr_aload_12 {a0 a1 a2 a3 a4 a5 a6 a7 a8 a9 a10 a11 : Value} {x : Nat} {r : List Value} (hd : decode cc pc = .ok (.aload 12, 2)) (k : rd_W N d own cc nL ret (pc + 2) (a0 :: a1 :: a2 :: a3 :: a4 :: a5 :: a6 :: a7 :: a8 :: a9 :: a10 :: a11 :: .ref x :: r) (.ref x :: st) σ Q) : rd_W N d own cc nL ret pc (a0 :: a1 :: a2 :: a3 :: a4 :: a5 :: a6 :: a7 :: a8 :: a9 :: a10 :: a11 :: .ref x :: r) st σ Q := by
  intro p l e R s m args below meth c g H locs L C hP hD hS hL
  exact lv_aload C.1 C.2.1 hd  (hL.2.2.2 12 (.ref x) rfl (fun h => by cases h)) (k p l e R s m args below meth c g H locs L C hP hD hS hL)
theorem rr_astore_12 {a0 a1 a2 a3 a4 a5 a6 a7 a8 a9 a10 a11 : Value} {w : Value} {x : Nat} {r : List Value} (hd : decode cc pc = .ok (.astore 12, 2)) (hok : rd_ok1 (a0 :: a1 :: a2 :: a3 :: a4 :: a5 :: a6 :: a7 :: a8 :: a9 :: a10 :: a11 :: w :: r) 12 = true) (k : rd_W N d own cc nL ret (pc + 2) (a0 :: a1 :: a2 :: a3 :: a4 :: a5 :: a6 :: a7 :: a8 :: a9 :: a10 :: a11 :: .ref x :: r) st σ Q) : rd_W N d own cc nL ret pc (a0 :: a1 :: a2 :: a3 :: a4 :: a5 :: a6 :: a7 :: a8 :: a9 :: a10 :: a11 :: w :: r) (.ref x :: st) σ Q := by
  intro p l e R s m args below meth c g H locs L C hP hD hS hL
  have hi : 12 < nL := by rw [← hL.2.2.1]; simp <;> omega
  exact lv_astore C.1 C.2.1 hd  (rd_L_has hL) hi rfl (fun L' h' => k p l e R s m args below meth c g H locs L' C hP hD hS (rd_L_store (v := .ref x) hL hi hok h'))
theorem rr_iinc_12 {a0 a1 a2 a3 a4 a5 a6 a7 a8 a9 a10 a11 : Value} {x : Int32} {n : Int} (v : Int32) {r : List Value} (hd : decode cc pc = .ok (.iinc 12 n, 3)) (hv : Int32.ofInt n = v) (hok : rd_ok1 (a0 :: a1 :: a2 :: a3 :: a4 :: a5 :: a6 :: a7 :: a8 :: a9 :: a10 :: a11 :: .int x :: r) 12 = true) (k : rd_W N d own cc nL ret (pc + 3) (a0 :: a1 :: a2 :: a3 :: a4 :: a5 :: a6 :: a7 :: a8 :: a9 :: a10 :: a11 :: .int (x + v) :: r) st σ Q) : rd_W N d own cc nL ret pc (a0 :: a1 :: a2 :: a3 :: a4 :: a5 :: a6 :: a7 :: a8 :: a9 :: a10 :: a11 :: .int x :: r) st σ Q := by
  intro p l e R s m args below meth c g H locs L C hP hD hS hL
  have hi : 12 < nL := by rw [← hL.2.2.1]; simp <;> omega
  subst hv
  obtain ⟨q, hq⟩ := List.getElem?_of_mem (rd_lv_mem (ad := g.2.1) (ls := a0 :: a1 :: a2 :: a3 :: a4 :: a5 :: a6 :: a7 :: a8 :: a9 :: a10 :: a11 :: .int x :: r) (i := 12) (v := .int x) rfl (fun h => by cases h))
  exact lv_iinc C.1 C.2.1 hd (rd_L_has hL) hq rfl hi rfl (fun L' h' => k p l e R s m args below meth c g H locs L' C hP hD hS (rd_L_store (v := .int (x + Int32.ofInt n)) hL hi hok h'))
theorem rr_lstore_12 {a0 a1 a2 a3 a4 a5 a6 a7 a8 a9 a10 a11 : Value} {w w2 : Value} {x : Int64} {r : List Value} (hd : decode cc pc = .ok (.lstore 12, 2)) (hok : rd_ok1 (a0 :: a1 :: a2 :: a3 :: a4 :: a5 :: a6 :: a7 :: a8 :: a9 :: a10 :: a11 :: w :: w2 :: r) 12 = true) (k : rd_W N d own cc nL ret (pc + 2) (a0 :: a1 :: a2 :: a3 :: a4 :: a5 :: a6 :: a7 :: a8 :: a9 :: a10 :: a11 :: .long x :: .retAddr 0 :: r) st σ Q) : rd_W N d own cc nL ret pc (a0 :: a1 :: a2 :: a3 :: a4 :: a5 :: a6 :: a7 :: a8 :: a9 :: a10 :: a11 :: w :: w2 :: r) (.long x :: st) σ Q := by
  intro p l e R s m args below meth c g H locs L C hP hD hS hL
  have hi : 12 + 1 < nL := by rw [← hL.2.2.1]; simp <;> omega
  exact lv_lstore C.1 C.2.1 hd  (rd_L_has hL) hi rfl (fun L' h' => k p l e R s m args below meth c g H locs L' C hP hD hS (rd_L_store2 (v := .long x) hL hi hok h'))
theorem rr_iload_13 {a0 a1 a2 a3 a4 a5 a6 a7 a8 a9 a10 a11 a12 : Value} {x : Int32} {r : List Value} (hd : decode cc pc = .ok (.iload 13, 2)) (k : rd_W N d own cc nL ret (pc + 2) (a0 :: a1 :: a2 :: a3 :: a4 :: a5 :: a6 :: a7 :: a8 :: a9 :: a10 :: a11 :: a12 :: .int x :: r) (.int x :: st) σ Q) : rd_W N d own cc nL ret pc (a0 :: a1 :: a2 :: a3 :: a4 :: a5 :: a6 :: a7 :: a8 :: a9 :: a10 :: a11 :: a12 :: .int x :: r) st σ Q := by
  intro p l e R s m args below meth c g H locs L C hP hD hS hL
  exact lv_iload C.1 C.2.1 hd  (hL.2.2.2 13 (.int x) rfl (fun h => by cases h)) (k p l e R s m args below meth c g H locs L C hP hD hS hL)
theorem rr_istore_13 {a0 a1 a2 a3 a4 a5 a6 a7 a8 a9 a10 a11 a12 : Value} {w : Value} {x : Int32} {r : List Value} (hd : decode cc pc = .ok (.istore 13, 2)) (hok : rd_ok1 (a0 :: a1 :: a2 :: a3 :: a4 :: a5 :: a6 :: a7 :: a8 :: a9 :: a10 :: a11 :: a12 :: w :: r) 13 = true) (k : rd_W N d own cc nL ret (pc + 2) (a0 :: a1 :: a2 :: a3 :: a4 :: a5 :: a6 :: a7 :: a8 :: a9 :: a10 :: a11 :: a12 :: .int x :: r) st σ Q) : rd_W N d own cc nL ret pc (a0 :: a1 :: a2 :: a3 :: a4 :: a5 :: a6 :: a7 :: a8 :: a9 :: a10 :: a11 :: a12 :: w :: r) (.int x :: st) σ Q := by
  intro p l e R s m args below meth c g H locs L C hP hD hS hL
  have hi : 13 < nL := by rw [← hL.2.2.1]; simp <;> omega
  exact lv_istore C.1 C.2.1 hd  (rd_L_has hL) hi rfl (fun L' h' => k p l e R s m args below meth c g H locs L' C hP hD hS (rd_L_store (v := .int x) hL hi hok h'))
theorem rr_lload_13 {a0 a1 a2 a3 a4 a5 a6 a7 a8 a9 a10 a11 a12 : Value} {x : Int64} {r : List Value} (hd : decode cc pc = .ok (.lload 13, 2)) (k : rd_W N d own cc nL ret (pc + 2) (a0 :: a1 :: a2 :: a3 :: a4 :: a5 :: a6 :: a7 :: a8 :: a9 :: a10 :: a11 :: a12 :: .long x :: r) (.long x :: st) σ Q) : rd_W N d own cc nL ret pc (a0 :: a1 :: a2 :: a3 :: a4 :: a5 :: a6 :: a7 :: a8 :: a9 :: a10 :: a11 :: a12 :: .long x :: r) st σ Q := by
  intro p l e R s m args below meth c g H locs L C hP hD hS hL
  exact lv_lload C.1 C.2.1 hd  (hL.2.2.2 13 (.long x) rfl (fun h => by cases h)) (k p l e R s m args below meth c g H locs L C hP hD hS hL)
theorem rr_aload_13 {a0 a1 a2 a3 a4 a5 a6 a7 a8 a9 a10 a11 a12 : Value} {x : Nat} {r : List Value} (hd : decode cc pc = .ok (.aload 13, 2)) (k : rd_W N d own cc nL ret (pc + 2) (a0 :: a1 :: a2 :: a3 :: a4 :: a5 :: a6 :: a7 :: a8 :: a9 :: a10 :: a11 :: a12 :: .ref x :: r) (.ref x :: st) σ Q) : rd_W N d own cc nL ret pc (a0 :: a1 :: a2 :: a3 :: a4 :: a5 :: a6 :: a7 :: a8 :: a9 :: a10 :: a11 :: a12 :: .ref x :: r) st σ Q := by
  intro p l e R s m args below meth c g H locs L C hP hD hS hL
  exact lv_aload C.1 C.2.1 hd  (hL.2.2.2 13 (.ref x) rfl (fun h => by cases h)) (k p l e R s m args below meth c g H locs L C hP hD hS hL)
theorem rr_astore_13 {a0 a1 a2 a3 a4 a5 a6 a7 a8 a9 a10 a11 a12 : Value} {w : Value} {x : Nat} {r : List Value} (hd : decode cc pc = .ok (.astore 13, 2)) (hok : rd_ok1 (a0 :: a1 :: a2 :: a3 :: a4 :: a5 :: a6 :: a7 :: a8 :: a9 :: a10 :: a11 :: a12 :: w :: r) 13 = true) (k : rd_W N d own cc nL ret (pc + 2) (a0 :: a1 :: a2 :: a3 :: a4 :: a5 :: a6 :: a7 :: a8 :: a9 :: a10 :: a11 :: a12 :: .ref x :: r) st σ Q) : rd_W N d own cc nL ret pc (a0 :: a1 :: a2 :: a3 :: a4 :: a5 :: a6 :: a7 :: a8 :: a9 :: a10 :: a11 :: a12 :: w :: r) (.ref x :: st) σ Q := by
  intro p l e R s m args below meth c g H locs L C hP hD hS hL
  have hi : 13 < nL := by rw [← hL.2.2.1]; simp <;> omega
  exact lv_astore C.1 C.2.1 hd  (rd_L_has hL) hi rfl (fun L' h' => k p l e R s m args below meth c g H locs L' C hP hD hS (rd_L_store (v := .ref x) hL hi hok h'))
theorem rr_iinc_13 {a0 a1 a2 a3 a4 a5 a6 a7 a8 a9 a10 a11 a12 : Value} {x : Int32} {n : Int} (v : Int32) {r : List Value} (hd : decode cc pc = .ok (.iinc 13 n, 3)) (hv : Int32.ofInt n = v) (hok : rd_ok1 (a0 :: a1 :: a2 :: a3 :: a4 :: a5 :: a6 :: a7 :: a8 :: a9 :: a10 :: a11 :: a12 :: .int x :: r) 13 = true) (k : rd_W N d own cc nL ret (pc + 3) (a0 :: a1 :: a2 :: a3 :: a4 :: a5 :: a6 :: a7 :: a8 :: a9 :: a10 :: a11 :: a12 :: .int (x + v) :: r) st σ Q) : rd_W N d own cc nL ret pc (a0 :: a1 :: a2 :: a3 :: a4 :: a5 :: a6 :: a7 :: a8 :: a9 :: a10 :: a11 :: a12 :: .int x :: r) st σ Q := by
  intro p l e R s m args below meth c g H locs L C hP hD hS hL
  have hi : 13 < nL := by rw [← hL.2.2.1]; simp <;> omega
  subst hv
  obtain ⟨q, hq⟩ := List.getElem?_of_mem (rd_lv_mem (ad := g.2.1) (ls := a0 :: a1 :: a2 :: a3 :: a4 :: a5 :: a6 :: a7 :: a8 :: a9 :: a10 :: a11 :: a12 :: .int x :: r) (i := 13) (v := .int x) rfl (fun h => by cases h))
  exact lv_iinc C.1 C.2.1 hd (rd_L_has hL) hq rfl hi rfl (fun L' h' => k p l e R s m args below meth c g H locs L' C hP hD hS (rd_L_store (v := .int (x + Int32.ofInt n)) hL hi hok h'))
theorem rr_lstore_13 {a0 a1 a2 a3 a4 a5 a6 a7 a8 a9 a10 a11 a12 : Value} {w w2 : Value} {x : Int64} {r : List Value} (hd : decode cc pc = .ok (.lstore 13, 2)) (hok : rd_ok1 (a0 :: a1 :: a2 :: a3 :: a4 :: a5 :: a6 :: a7 :: a8 :: a9 :: a10 :: a11 :: a12 :: w :: w2 :: r) 13 = true) (k : rd_W N d own cc nL ret (pc + 2) (a0 :: a1 :: a2 :: a3 :: a4 :: a5 :: a6 :: a7 :: a8 :: a9 :: a10 :: a11 :: a12 :: .long x :: .retAddr 0 :: r) st σ Q) : rd_W N d own cc nL ret pc (a0 :: a1 :: a2 :: a3 :: a4 :: a5 :: a6 :: a7 :: a8 :: a9 :: a10 :: a11 :: a12 :: w :: w2 :: r) (.long x :: st) σ Q := by
  intro p l e R s m args below meth c g H locs L C hP hD hS hL
  have hi : 13 + 1 < nL := by rw [← hL.2.2.1]; simp <;> omega
  exact lv_lstore C.1 C.2.1 hd  (rd_L_has hL) hi rfl (fun L' h' => k p l e R s m args below meth c g H locs L' C hP hD hS (rd_L_store2 (v := .long x) hL hi hok h'))
theorem rr_iadd {x y : Int32} (hd : decode cc pc = .ok (.iadd, 1))  (k : rd_W N d own cc nL ret (pc + 1) ls (.int (x + y) :: st) σ Q) : rd_W N d own cc nL ret pc ls (.int y :: .int x :: st) σ Q := by
  intro p l e R s m args below meth c g H locs L C hP hD hS hL
  exact lv_iadd C.1 C.2.1 hd  (k p l e R s m args below meth c g H locs L C hP hD hS hL)
theorem rr_isub {x y : Int32} (hd : decode cc pc = .ok (.isub, 1))  (k : rd_W N d own cc nL ret (pc + 1) ls (.int (x - y) :: st) σ Q) : rd_W N d own cc nL ret pc ls (.int y :: .int x :: st) σ Q := by
  intro p l e R s m args below meth c g H locs L C hP hD hS hL
  exact lv_isub C.1 C.2.1 hd  (k p l e R s m args below meth c g H locs L C hP hD hS hL)
theorem rr_imul {x y : Int32} (hd : decode cc pc = .ok (.imul, 1))  (k : rd_W N d own cc nL ret (pc + 1) ls (.int (x * y) :: st) σ Q) : rd_W N d own cc nL ret pc ls (.int y :: .int x :: st) σ Q := by
  intro p l e R s m args below meth c g H locs L C hP hD hS hL
  exact lv_imul C.1 C.2.1 hd  (k p l e R s m args below meth c g H locs L C hP hD hS hL)
theorem rr_iand {x y : Int32} (hd : decode cc pc = .ok (.iand, 1))  (k : rd_W N d own cc nL ret (pc + 1) ls (.int (x &&& y) :: st) σ Q) : rd_W N d own cc nL ret pc ls (.int y :: .int x :: st) σ Q := by
  intro p l e R s m args below meth c g H locs L C hP hD hS hL
  exact lv_iand C.1 C.2.1 hd  (k p l e R s m args below meth c g H locs L C hP hD hS hL)
theorem rr_ior {x y : Int32} (hd : decode cc pc = .ok (.ior, 1))  (k : rd_W N d own cc nL ret (pc + 1) ls (.int (x ||| y) :: st) σ Q) : rd_W N d own cc nL ret pc ls (.int y :: .int x :: st) σ Q := by
  intro p l e R s m args below meth c g H locs L C hP hD hS hL
  exact lv_ior C.1 C.2.1 hd  (k p l e R s m args below meth c g H locs L C hP hD hS hL)
theorem rr_ixor {x y : Int32} (hd : decode cc pc = .ok (.ixor, 1))  (k : rd_W N d own cc nL ret (pc + 1) ls (.int (x ^^^ y) :: st) σ Q) : rd_W N d own cc nL ret pc ls (.int y :: .int x :: st) σ Q := by
  intro p l e R s m args below meth c g H locs L C hP hD hS hL
  exact lv_ixor C.1 C.2.1 hd  (k p l e R s m args below meth c g H locs L C hP hD hS hL)
theorem rr_ishl {x y : Int32} (hd : decode cc pc = .ok (.ishl, 1))  (k : rd_W N d own cc nL ret (pc + 1) ls (.int (x <<< (y &&& 31)) :: st) σ Q) : rd_W N d own cc nL ret pc ls (.int y :: .int x :: st) σ Q := by
  intro p l e R s m args below meth c g H locs L C hP hD hS hL
  exact lv_ishl C.1 C.2.1 hd  (k p l e R s m args below meth c g H locs L C hP hD hS hL)
theorem rr_ishr {x y : Int32} (hd : decode cc pc = .ok (.ishr, 1))  (k : rd_W N d own cc nL ret (pc + 1) ls (.int (x >>> (y &&& 31)) :: st) σ Q) : rd_W N d own cc nL ret pc ls (.int y :: .int x :: st) σ Q := by
  intro p l e R s m args below meth c g H locs L C hP hD hS hL
  exact lv_ishr C.1 C.2.1 hd  (k p l e R s m args below meth c g H locs L C hP hD hS hL)
theorem rr_idiv {x y : Int32} (hd : decode cc pc = .ok (.idiv, 1)) (hne : ¬ y = 0) (k : rd_W N d own cc nL ret (pc + 1) ls (.int (x / y) :: st) σ Q) : rd_W N d own cc nL ret pc ls (.int y :: .int x :: st) σ Q := by
  intro p l e R s m args below meth c g H locs L C hP hD hS hL
  exact lv_idiv C.1 C.2.1 hd hne (k p l e R s m args below meth c g H locs L C hP hD hS hL)
theorem rr_irem {x y : Int32} (hd : decode cc pc = .ok (.irem, 1)) (hne : ¬ y = 0) (k : rd_W N d own cc nL ret (pc + 1) ls (.int (x - x / y * y) :: st) σ Q) : rd_W N d own cc nL ret pc ls (.int y :: .int x :: st) σ Q := by
  intro p l e R s m args below meth c g H locs L C hP hD hS hL
  exact lv_irem C.1 C.2.1 hd hne (k p l e R s m args below meth c g H locs L C hP hD hS hL)
theorem rr_ineg {x : Int32} (hd : decode cc pc = .ok (.ineg, 1))  (k : rd_W N d own cc nL ret (pc + 1) ls (.int (-x) :: st) σ Q) : rd_W N d own cc nL ret pc ls (.int x :: st) σ Q := by
  intro p l e R s m args below meth c g H locs L C hP hD hS hL
  exact lv_ineg C.1 C.2.1 hd  (k p l e R s m args below meth c g H locs L C hP hD hS hL)
theorem rr_iushr {x y : Int32} (hd : decode cc pc = .ok (.iushr, 1))  (k : rd_W N d own cc nL ret (pc + 1) ls (.int (x.toUInt32 >>> (y.toUInt32 &&& Int32.toUInt32 31)).toInt32 :: st) σ Q) : rd_W N d own cc nL ret pc ls (.int y :: .int x :: st) σ Q := by
  intro p l e R s m args below meth c g H locs L C hP hD hS hL
  exact lv_iushr C.1 C.2.1 hd rfl (k p l e R s m args below meth c g H locs L C hP hD hS hL)
theorem rr_ladd {x y : Int64} (hd : decode cc pc = .ok (.ladd, 1))  (k : rd_W N d own cc nL ret (pc + 1) ls (.long (x + y) :: st) σ Q) : rd_W N d own cc nL ret pc ls (.long y :: .long x :: st) σ Q := by
  intro p l e R s m args below meth c g H locs L C hP hD hS hL
  exact lv_ladd C.1 C.2.1 hd  (k p l e R s m args below meth c g H locs L C hP hD hS hL)
theorem rr_lmul {x y : Int64} (hd : decode cc pc = .ok (.lmul, 1))  (k : rd_W N d own cc nL ret (pc + 1) ls (.long (x * y) :: st) σ Q) : rd_W N d own cc nL ret pc ls (.long y :: .long x :: st) σ Q := by
  intro p l e R s m args below meth c g H locs L C hP hD hS hL
  exact lv_lmul C.1 C.2.1 hd  (k p l e R s m args below meth c g H locs L C hP hD hS hL)
theorem rr_lsub {x y : Int64} (hd : decode cc pc = .ok (.lsub, 1))  (k : rd_W N d own cc nL ret (pc + 1) ls (.long (x - y) :: st) σ Q) : rd_W N d own cc nL ret pc ls (.long y :: .long x :: st) σ Q := by
  intro p l e R s m args below meth c g H locs L C hP hD hS hL
  exact lv_lsub C.1 C.2.1 hd  (k p l e R s m args below meth c g H locs L C hP hD hS hL)
theorem rr_lrem {x y : Int64} (hd : decode cc pc = .ok (.lrem, 1)) (hne : ¬ y = 0) (k : rd_W N d own cc nL ret (pc + 1) ls (.long (x - x / y * y) :: st) σ Q) : rd_W N d own cc nL ret pc ls (.long y :: .long x :: st) σ Q := by
  intro p l e R s m args below meth c g H locs L C hP hD hS hL
  exact lv_lrem C.1 C.2.1 hd hne (k p l e R s m args below meth c g H locs L C hP hD hS hL)
theorem rr_i2l {x : Int32} (hd : decode cc pc = .ok (.i2l, 1))  (k : rd_W N d own cc nL ret (pc + 1) ls (.long x.toInt64 :: st) σ Q) : rd_W N d own cc nL ret pc ls (.int x :: st) σ Q := by
  intro p l e R s m args below meth c g H locs L C hP hD hS hL
  exact lv_i2l C.1 C.2.1 hd rfl (k p l e R s m args below meth c g H locs L C hP hD hS hL)
theorem rr_l2i {x : Int64} (hd : decode cc pc = .ok (.l2i, 1))  (k : rd_W N d own cc nL ret (pc + 1) ls (.int x.toInt32 :: st) σ Q) : rd_W N d own cc nL ret pc ls (.long x :: st) σ Q := by
  intro p l e R s m args below meth c g H locs L C hP hD hS hL
  exact lv_l2i C.1 C.2.1 hd rfl (k p l e R s m args below meth c g H locs L C hP hD hS hL)
theorem rr_i2b {x : Int32} (hd : decode cc pc = .ok (.i2b, 1))  (k : rd_W N d own cc nL ret (pc + 1) ls (.int x.toInt8.toInt32 :: st) σ Q) : rd_W N d own cc nL ret pc ls (.int x :: st) σ Q := by
  intro p l e R s m args below meth c g H locs L C hP hD hS hL
  exact lv_i2b C.1 C.2.1 hd rfl (k p l e R s m args below meth c g H locs L C hP hD hS hL)
theorem rr_lcmp {x y : Int64} (hd : decode cc pc = .ok (.lcmp, 1))  (k : rd_W N d own cc nL ret (pc + 1) ls (.int (lg_cmp x y) :: st) σ Q) : rd_W N d own cc nL ret pc ls (.long y :: .long x :: st) σ Q := by
  intro p l e R s m args below meth c g H locs L C hP hD hS hL
  exact W.lcmp C.1 C.2.1 hd  (k p l e R s m args below meth c g H locs L C hP hD hS hL)
theorem rr_dup {v : Value} (hd : decode cc pc = .ok (.dup, 1)) (hc : v.category = 1) (k : rd_W N d own cc nL ret (pc + 1) ls (v :: v :: st) σ Q) : rd_W N d own cc nL ret pc ls (v :: st) σ Q := by
  intro p l e R s m args below meth c g H locs L C hP hD hS hL
  exact lv_dup C.1 C.2.1 hd (by rw [rd_tr_cat]; exact hc) (k p l e R s m args below meth c g H locs L C hP hD hS hL)
theorem rr_pop {v : Value} (hd : decode cc pc = .ok (.pop, 1)) (hc : v.category = 1) (k : rd_W N d own cc nL ret (pc + 1) ls (st) σ Q) : rd_W N d own cc nL ret pc ls (v :: st) σ Q := by
  intro p l e R s m args below meth c g H locs L C hP hD hS hL
  exact lv_pop C.1 C.2.1 hd (by rw [rd_tr_cat]; exact hc) (k p l e R s m args below meth c g H locs L C hP hD hS hL)
theorem rr_dup2 {v u : Value} (hd : decode cc pc = .ok (.dup2, 1)) (hc : v.category = 1) (hu : u.category = 1) (k : rd_W N d own cc nL ret (pc + 1) ls (v :: u :: v :: u :: st) σ Q) : rd_W N d own cc nL ret pc ls (v :: u :: st) σ Q := by
  intro p l e R s m args below meth c g H locs L C hP hD hS hL
  exact lv_dup2_11 C.1 C.2.1 hd (by rw [rd_tr_cat]; exact hc) (by rw [rd_tr_cat]; exact hu) (k p l e R s m args below meth c g H locs L C hP hD hS hL)
theorem rr_if_eq {x : Int32} {off : Int} (tgt : Nat) (hd : decode cc pc = .ok (.ifCond .eq off, 3)) (ht : (pc : Int) + off = (tgt : Int)) (kt : x = 0 → rd_W N d own cc nL ret tgt ls st σ Q) (kf : ¬ x = 0 → rd_W N d own cc nL ret (pc + 3) ls st σ Q) : rd_W N d own cc nL ret pc ls (.int x :: st) σ Q := by
  intro p l e R s m args below meth c g H locs L C hP hD hS hL
  exact lv_if_eq C.1 C.2.1 hd ht (fun h => kt h p l e R s m args below meth c g H locs L C hP hD hS hL) (fun h => kf h p l e R s m args below meth c g H locs L C hP hD hS hL)
theorem rr_icmp_eq {x y : Int32} {off : Int} (tgt : Nat) (hd : decode cc pc = .ok (.if_icmp .eq off, 3)) (ht : (pc : Int) + off = (tgt : Int)) (kt : x = y → rd_W N d own cc nL ret tgt ls st σ Q) (kf : ¬ x = y → rd_W N d own cc nL ret (pc + 3) ls st σ Q) : rd_W N d own cc nL ret pc ls (.int y :: .int x :: st) σ Q := by
  intro p l e R s m args below meth c g H locs L C hP hD hS hL
  exact lv_icmp_eq C.1 C.2.1 hd ht (fun h => kt h p l e R s m args below meth c g H locs L C hP hD hS hL) (fun h => kf h p l e R s m args below meth c g H locs L C hP hD hS hL)
theorem rr_if_ne {x : Int32} {off : Int} (tgt : Nat) (hd : decode cc pc = .ok (.ifCond .ne off, 3)) (ht : (pc : Int) + off = (tgt : Int)) (kt : ¬ x = 0 → rd_W N d own cc nL ret tgt ls st σ Q) (kf : x = 0 → rd_W N d own cc nL ret (pc + 3) ls st σ Q) : rd_W N d own cc nL ret pc ls (.int x :: st) σ Q := by
  intro p l e R s m args below meth c g H locs L C hP hD hS hL
  exact lv_if_ne C.1 C.2.1 hd ht (fun h => kt h p l e R s m args below meth c g H locs L C hP hD hS hL) (fun h => kf h p l e R s m args below meth c g H locs L C hP hD hS hL)
theorem rr_icmp_ne {x y : Int32} {off : Int} (tgt : Nat) (hd : decode cc pc = .ok (.if_icmp .ne off, 3)) (ht : (pc : Int) + off = (tgt : Int)) (kt : ¬ x = y → rd_W N d own cc nL ret tgt ls st σ Q) (kf : x = y → rd_W N d own cc nL ret (pc + 3) ls st σ Q) : rd_W N d own cc nL ret pc ls (.int y :: .int x :: st) σ Q := by
  intro p l e R s m args below meth c g H locs L C hP hD hS hL
  exact lv_icmp_ne C.1 C.2.1 hd ht (fun h => kt h p l e R s m args below meth c g H locs L C hP hD hS hL) (fun h => kf h p l e R s m args below meth c g H locs L C hP hD hS hL)
theorem rr_if_lt {x : Int32} {off : Int} (tgt : Nat) (hd : decode cc pc = .ok (.ifCond .lt off, 3)) (ht : (pc : Int) + off = (tgt : Int)) (kt : x < 0 → rd_W N d own cc nL ret tgt ls st σ Q) (kf : ¬ x < 0 → rd_W N d own cc nL ret (pc + 3) ls st σ Q) : rd_W N d own cc nL ret pc ls (.int x :: st) σ Q := by
  intro p l e R s m args below meth c g H locs L C hP hD hS hL
  exact lv_if_lt C.1 C.2.1 hd ht (fun h => kt h p l e R s m args below meth c g H locs L C hP hD hS hL) (fun h => kf h p l e R s m args below meth c g H locs L C hP hD hS hL)
theorem rr_icmp_lt {x y : Int32} {off : Int} (tgt : Nat) (hd : decode cc pc = .ok (.if_icmp .lt off, 3)) (ht : (pc : Int) + off = (tgt : Int)) (kt : x < y → rd_W N d own cc nL ret tgt ls st σ Q) (kf : ¬ x < y → rd_W N d own cc nL ret (pc + 3) ls st σ Q) : rd_W N d own cc nL ret pc ls (.int y :: .int x :: st) σ Q := by
  intro p l e R s m args below meth c g H locs L C hP hD hS hL
  exact lv_icmp_lt C.1 C.2.1 hd ht (fun h => kt h p l e R s m args below meth c g H locs L C hP hD hS hL) (fun h => kf h p l e R s m args below meth c g H locs L C hP hD hS hL)
theorem rr_if_ge {x : Int32} {off : Int} (tgt : Nat) (hd : decode cc pc = .ok (.ifCond .ge off, 3)) (ht : (pc : Int) + off = (tgt : Int)) (kt : 0 ≤ x → rd_W N d own cc nL ret tgt ls st σ Q) (kf : ¬ 0 ≤ x → rd_W N d own cc nL ret (pc + 3) ls st σ Q) : rd_W N d own cc nL ret pc ls (.int x :: st) σ Q := by
  intro p l e R s m args below meth c g H locs L C hP hD hS hL
  exact lv_if_ge C.1 C.2.1 hd ht (fun h => kt h p l e R s m args below meth c g H locs L C hP hD hS hL) (fun h => kf h p l e R s m args below meth c g H locs L C hP hD hS hL)
theorem rr_icmp_ge {x y : Int32} {off : Int} (tgt : Nat) (hd : decode cc pc = .ok (.if_icmp .ge off, 3)) (ht : (pc : Int) + off = (tgt : Int)) (kt : y ≤ x → rd_W N d own cc nL ret tgt ls st σ Q) (kf : ¬ y ≤ x → rd_W N d own cc nL ret (pc + 3) ls st σ Q) : rd_W N d own cc nL ret pc ls (.int y :: .int x :: st) σ Q := by
  intro p l e R s m args below meth c g H locs L C hP hD hS hL
  exact lv_icmp_ge C.1 C.2.1 hd ht (fun h => kt h p l e R s m args below meth c g H locs L C hP hD hS hL) (fun h => kf h p l e R s m args below meth c g H locs L C hP hD hS hL)
theorem rr_if_gt {x : Int32} {off : Int} (tgt : Nat) (hd : decode cc pc = .ok (.ifCond .gt off, 3)) (ht : (pc : Int) + off = (tgt : Int)) (kt : 0 < x → rd_W N d own cc nL ret tgt ls st σ Q) (kf : ¬ 0 < x → rd_W N d own cc nL ret (pc + 3) ls st σ Q) : rd_W N d own cc nL ret pc ls (.int x :: st) σ Q := by
  intro p l e R s m args below meth c g H locs L C hP hD hS hL
  exact lv_if_gt C.1 C.2.1 hd ht (fun h => kt h p l e R s m args below meth c g H locs L C hP hD hS hL) (fun h => kf h p l e R s m args below meth c g H locs L C hP hD hS hL)
theorem rr_icmp_gt {x y : Int32} {off : Int} (tgt : Nat) (hd : decode cc pc = .ok (.if_icmp .gt off, 3)) (ht : (pc : Int) + off = (tgt : Int)) (kt : y < x → rd_W N d own cc nL ret tgt ls st σ Q) (kf : ¬ y < x → rd_W N d own cc nL ret (pc + 3) ls st σ Q) : rd_W N d own cc nL ret pc ls (.int y :: .int x :: st) σ Q := by
  intro p l e R s m args below meth c g H locs L C hP hD hS hL
  exact lv_icmp_gt C.1 C.2.1 hd ht (fun h => kt h p l e R s m args below meth c g H locs L C hP hD hS hL) (fun h => kf h p l e R s m args below meth c g H locs L C hP hD hS hL)
theorem rr_if_le {x : Int32} {off : Int} (tgt : Nat) (hd : decode cc pc = .ok (.ifCond .le off, 3)) (ht : (pc : Int) + off = (tgt : Int)) (kt : x ≤ 0 → rd_W N d own cc nL ret tgt ls st σ Q) (kf : ¬ x ≤ 0 → rd_W N d own cc nL ret (pc + 3) ls st σ Q) : rd_W N d own cc nL ret pc ls (.int x :: st) σ Q := by
  intro p l e R s m args below meth c g H locs L C hP hD hS hL
  exact lv_if_le C.1 C.2.1 hd ht (fun h => kt h p l e R s m args below meth c g H locs L C hP hD hS hL) (fun h => kf h p l e R s m args below meth c g H locs L C hP hD hS hL)
theorem rr_icmp_le {x y : Int32} {off : Int} (tgt : Nat) (hd : decode cc pc = .ok (.if_icmp .le off, 3)) (ht : (pc : Int) + off = (tgt : Int)) (kt : x ≤ y → rd_W N d own cc nL ret tgt ls st σ Q) (kf : ¬ x ≤ y → rd_W N d own cc nL ret (pc + 3) ls st σ Q) : rd_W N d own cc nL ret pc ls (.int y :: .int x :: st) σ Q := by
  intro p l e R s m args below meth c g H locs L C hP hD hS hL
  exact lv_icmp_le C.1 C.2.1 hd ht (fun h => kt h p l e R s m args below meth c g H locs L C hP hD hS hL) (fun h => kf h p l e R s m args below meth c g H locs L C hP hD hS hL)
theorem rr_goto {off : Int} (tgt : Nat) (hd : decode cc pc = .ok (.goto off, 3)) (ht : (pc : Int) + off = (tgt : Int)) (k : rd_W N d own cc nL ret tgt ls st σ Q) : rd_W N d own cc nL ret pc ls st σ Q := by
  intro p l e R s m args below meth c g H locs L C hP hD hS hL
  exact lv_goto C.1 C.2.1 hd ht (k p l e R s m args below meth c g H locs L C hP hD hS hL)
theorem rr_tableIn {dflt lo hi : Int} {offs : Array Int} {len : Nat} {x : Int32} {off : Int} (tgt : Nat) (hd : decode cc pc = .ok (.tableswitch dflt lo hi offs, len)) (h1 : ¬ x.toInt < lo) (h2 : ¬ hi < x.toInt) (ho : offs[(x.toInt - lo).toNat]? = some off) (ht : (pc : Int) + off = (tgt : Int)) (k : rd_W N d own cc nL ret tgt ls st σ Q) : rd_W N d own cc nL ret pc ls (.int x :: st) σ Q := by
  intro p l e R s m args below meth c g H locs L C hP hD hS hL
  exact lv_tableIn C.1 C.2.1 hd h1 h2 ho ht (k p l e R s m args below meth c g H locs L C hP hD hS hL)
theorem rr_tableOut {dflt lo hi : Int} {offs : Array Int} {len : Nat} {x : Int32} (tgt : Nat) (hd : decode cc pc = .ok (.tableswitch dflt lo hi offs, len)) (h : x.toInt < lo ∨ hi < x.toInt) (ht : (pc : Int) + dflt = (tgt : Int)) (k : rd_W N d own cc nL ret tgt ls st σ Q) : rd_W N d own cc nL ret pc ls (.int x :: st) σ Q := by
  intro p l e R s m args below meth c g H locs L C hP hD hS hL
  exact lv_tableOut C.1 C.2.1 hd h ht (k p l e R s m args below meth c g H locs L C hP hD hS hL)
theorem rr_lookup {dflt : Int} {ps : Array (Int × Int)} {len : Nat} {x : Int32} {off : Int} (tgt : Nat) (hd : decode cc pc = .ok (.lookupswitch dflt ps, len)) (hp : (ps.toList.zip (ps.toList.drop 1)).all (fun (a, next) => a.1 < next.1) = true) (ho : Op.lookupswitch.offset ps.toList dflt x.toInt = off) (ht : (pc : Int) + off = (tgt : Int)) (k : rd_W N d own cc nL ret tgt ls st σ Q) : rd_W N d own cc nL ret pc ls (.int x :: st) σ Q := by
  intro p l e R s m args below meth c g H locs L C hP hD hS hL
  exact lv_lookup C.1 C.2.1 hd hp ho ht (k p l e R s m args below meth c g H locs L C hP hD hS hL)
theorem rr_iret {v : Int32} (hd : decode cc pc = .ok (.ireturn, 1)) (h : Q (some (.int v)) σ) : rd_W N d own cc nL (some .int) pc ls [.int v] σ Q := by
  intro p l e R s m args below meth c g H locs L C hP hD hS hL
  have hlocks : meth.locks = false := C.2.2.2.2.1
  exact W.iret (v := v) C.1 C.2.1 C.2.2.2.1 (fun t ht hW => ⟨⟨v, σ, rfl, h, by rw [ht]; exact hP, va_K.moved hW.alike C.2.2.2.2.2.2.2.1, hD⟩, hS.F ht⟩) hS.2.2 hd
theorem rr_zret {v : Int32} (hd : decode cc pc = .ok (.ireturn, 1)) (hn : narrow .boolean (.int v) = .int v) (h : Q (some (.int v)) σ) : rd_W N d own cc nL (some .boolean) pc ls [.int v] σ Q := by
  intro p l e R s m args below meth c g H locs L C hP hD hS hL
  have hlocks : meth.locks = false := C.2.2.2.2.1
  exact W.zret (v := v) C.1 C.2.1 C.2.2.2.1 hn (fun t ht hW => ⟨⟨v, σ, rfl, h, by rw [ht]; exact hP, va_K.moved hW.alike C.2.2.2.2.2.2.2.1, hD⟩, hS.F ht⟩) hS.2.2 hd
theorem rr_vret (hd : decode cc pc = .ok (.return_, 1)) (h : Q none σ) : rd_W N d own cc nL none pc ls [] σ Q := by
  intro p l e R s m args below meth c g H locs L C hP hD hS hL
  have hlocks : meth.locks = false := C.2.2.2.2.1
  exact W.vret C.1 C.2.1 C.2.2.2.1 (fun t ht hW => ⟨⟨σ, rfl, h, by rw [ht]; exact hP, va_K.moved hW.alike C.2.2.2.2.2.2.2.1, hD⟩, hS.F ht⟩) hS.2.2 hd
/-- a field's static side: own class and pool number; the class's number, the field's place -/
def rd_FL (own : String) (idx ci k : Nat) : Prop := ∃ (C : String) (T : u_T) (Nf : Nat) (ty : Nat → FieldType), vwCl[ci]? = some (C, T, Nf) ∧ (∀ w ∈ u_ws C T Nf, w ∈ rd_gt) ∧ (∀ k, k < Nf → parseFieldDescriptor (T k).2.2.1 = some (ty k)) ∧ (∀ a, a < Nf → ∀ b, b < Nf → a ≠ b → (T a).2.1 ≠ (T b).2.1) ∧ Nf = rd_nf ci ∧ ci < 6 ∧ k < Nf ∧ Cond.fieldLink own idx (T k).1 (T k).2.1 (T k).2.2.1 ∈ rd_gt
theorem rr_getfield {own : String} {idx ci k o : Nat} (hd : decode cc pc = .ok (.getfield idx, 3)) (hf : rd_FL own idx ci k) (ho : o < N) (hkd : rd_kd o = ci) {v : Value} (hv : ∀ ad : Nat → Nat, rd_fv ad σ o k = rd_tr ad v) (kk : rd_W N d own cc nL ret (pc + 3) ls (v :: st) σ Q) : rd_W N d own cc nL ret pc ls (.ref o :: st) σ Q := by
  intro p l e R s m args below meth c g H locs L C hP hD hS hL
  obtain ⟨C0, T, Nf, ty, h1, h2, h3, h4, h5, h6, h7, h8⟩ := hf
  refine va_get (D := g.1) (ci := ci) C.1 C.2.1 C.2.2.2.2.2.2.1 h2 C.2.2.2.2.2.1 C.2.2.2.2.2.2.2.1 hP o (by rw [rd_wd_at ho, rd_cell_obj hkd h6]) h1 k h7 (C.2.2.2.2.2.2.1 _ h8) (fun _ h9 => h9) (v := rd_tr g.2.1 v) ?_ hd (kk p l e R s m args below meth c g H locs L C hP hD hS hL)
  rw [← hv g.2.1]
  simp [← h5, h7]
theorem rr_geti {own : String} {idx ci k o : Nat} (hd : decode cc pc = .ok (.getfield idx, 3)) (hf : rd_FL own idx ci k) (ho : o < N) (hkd : rd_kd o = ci) (hr : rd_isr ci k = false) (kk : rd_W N d own cc nL ret (pc + 3) ls (.int (σ o k) :: st) σ Q) : rd_W N d own cc nL ret pc ls (.ref o :: st) σ Q :=
  rr_getfield hd hf ho hkd (v := .int (σ o k)) (fun ad => by simp [rd_fv, hkd, hr, rd_tr]) kk
theorem rr_getr {own : String} {idx ci k o : Nat} (b : Nat) (hd : decode cc pc = .ok (.getfield idx, 3)) (hf : rd_FL own idx ci k) (ho : o < N) (hkd : rd_kd o = ci) (hr : rd_isr ci k = true) (hb : rd_rf o k = b) (kk : rd_W N d own cc nL ret (pc + 3) ls (.ref b :: st) σ Q) : rd_W N d own cc nL ret pc ls (.ref o :: st) σ Q :=
  rr_getfield hd hf ho hkd (v := .ref b) (fun ad => by simp [rd_fv, hkd, hr, rd_tr, hb]) kk
theorem rr_putz {own : String} {idx ci k o : Nat} {x : Int32} (hd : decode cc pc = .ok (.putfield idx, 3)) (hf : rd_FL own idx ci k) (hfin : ∀ C T Nf, vwCl[ci]? = some (C, T, Nf) → (T k).2.2.2 = false ∧ ∃ ty, parseFieldDescriptor (T k).2.2.1 = some ty ∧ narrow ty (.int x) = .int x ∧ fits ty (.int x) = true) (ho : o < N) (hkd : rd_kd o = ci) (hr : rd_isr ci k = false) (kk : rd_W N d own cc nL ret (pc + 3) ls st (rd_u2 σ o k x) Q) : rd_W N d own cc nL ret pc ls (.int x :: .ref o :: st) σ Q := by
  intro p l e R s m args below meth c g H locs L C hP hD hS hL
  obtain ⟨C0, T, Nf, ty, h1, h2, h3, h4, h5, h6, h7, h8⟩ := hf
  obtain ⟨hfn, ty1, ht1, ht2, ht3⟩ := hfin _ _ _ h1
  refine va_put (D := g.1) (ci := ci) C.1 C.2.1 C.2.2.2.2.2.2.1 h2 ty h3 h4 C.2.2.2.2.2.1 C.2.2.2.2.2.2.2.1 hP hD hS o (by rw [rd_wd_at ho, rd_cell_obj hkd h6]) h1 k h7 (C.2.2.2.2.2.2.1 _ h8) (fun _ h9 => h9) hfn ht1 ht2 ht3 (by simp [← h5, h7]) hd (fun H1 locs1 hP1 hD1 hS1 => ?_)
  have he0 := rd_wd_set (N := N) (g := g) (σ := σ) (σ' := rd_u2 σ o k x) ho (rd_cell_obj hkd h6) (fun b hb => rd_cell_ne hb)
  simp only [rd_tr] at hP1 hD1
  rw [rd_set_fields hkd (by omega) hr, he0] at hP1 hD1
  exact kk p l e R s m args below meth c g H1 locs1 L C hP1 hD1 hS1 hL
/-- an int field that isn't final -/
def rd_IF (ci k : Nat) : Prop := ∀ C T Nf, vwCl[ci]? = some (C, T, Nf) → (T k).2.2.2 = false ∧ parseFieldDescriptor (T k).2.2.1 = some .int
theorem rr_puti {own : String} {idx ci k o : Nat} {x : Int32} (hd : decode cc pc = .ok (.putfield idx, 3)) (hf : rd_FL own idx ci k) (hfin : rd_IF ci k) (ho : o < N) (hkd : rd_kd o = ci) (hr : rd_isr ci k = false) (kk : rd_W N d own cc nL ret (pc + 3) ls st (rd_u2 σ o k x) Q) : rd_W N d own cc nL ret pc ls (.int x :: .ref o :: st) σ Q :=
  rr_putz hd hf (fun C T Nf h => ⟨(hfin C T Nf h).1, .int, (hfin C T Nf h).2, rfl, rfl⟩) ho hkd hr kk
theorem rd_cell_b {g : rd_G} {σ : rd_S} {o : Nat} (hk : rd_kd o = 6) : rd_cell g σ o = .inl (g.2.2.1, rd_len o, .inl (σ o)) := by simp [rd_cell, hk]
theorem rd_cell_i {g : rd_G} {σ : rd_S} {o : Nat} (hk : rd_kd o = 7) : rd_cell g σ o = .inl (g.2.2.2.1, rd_len o, .inl (σ o)) := by simp [rd_cell, hk]
theorem rd_cell_s {g : rd_G} {σ : rd_S} {o : Nat} (hk : rd_kd o = 8) : rd_cell g σ o = .inl (g.2.2.2.2, rd_len o, .inr (.inr (.inr (.inr (fun j => some (g.2.1 (rd_rf o j))))))) := by simp [rd_cell, hk]
theorem rd_len_lt (o : Nat) : rd_len o < 2 ^ 31 := by
  by_cases h : o < 49
  · have : ∀ o, o < 49 → rd_len o < 2 ^ 31 := by decide +kernel
    exact this o h
  · have : rd_len o = 0 := by unfold rd_len; rw [List.getD_eq_getElem?_getD, List.getElem?_eq_none (by simp; omega)]; rfl
    omega
theorem rr_iald {a : Nat} {i : Int32} (j : Nat) (hd : decode cc pc = .ok (.iaload, 1)) (ha : a < N) (hkd : rd_kd a = 7) (hj : i = nI j) (hl : j < rd_len a) (kk : rd_W N d own cc nL ret (pc + 1) ls (.int (σ a j) :: st) σ Q) : rd_W N d own cc nL ret pc ls (.int i :: .ref a :: st) σ Q := by
  intro p l e R s m args below meth c g H locs L C hP hD hS hL
  subst hj
  refine va_iald (D := g.1) C.1 C.2.1 C.2.2.2.2.2.2.2.1 hP a 1 (by rw [rd_wd_at ha, rd_cell_i hkd]) rfl (vp_in_nI hl (rd_len_lt a)) hd ?_
  rw [nI_clamp (Nat.lt_trans hl (rd_len_lt a))]
  exact kk p l e R s m args below meth c g H locs L C hP hD hS hL
theorem rr_bald {a : Nat} {i : Int32} (j : Nat) (hd : decode cc pc = .ok (.baload, 1)) (ha : a < N) (hkd : rd_kd a = 6) (hj : i = nI j) (hl : j < rd_len a) (kk : rd_W N d own cc nL ret (pc + 1) ls (.int (σ a j) :: st) σ Q) : rd_W N d own cc nL ret pc ls (.int i :: .ref a :: st) σ Q := by
  intro p l e R s m args below meth c g H locs L C hP hD hS hL
  subst hj
  refine va_bald (D := g.1) C.1 C.2.1 C.2.2.2.2.2.2.2.1 hP a 0 (by rw [rd_wd_at ha, rd_cell_b hkd]) rfl (vp_in_nI hl (rd_len_lt a)) hd ?_
  rw [nI_clamp (Nat.lt_trans hl (rd_len_lt a))]
  exact kk p l e R s m args below meth c g H locs L C hP hD hS hL
theorem rr_iast {a : Nat} {i x : Int32} (j : Nat) (hd : decode cc pc = .ok (.iastore, 1)) (ha : a < N) (hkd : rd_kd a = 7) (hj : i = nI j) (hl : j < rd_len a) (kk : rd_W N d own cc nL ret (pc + 1) ls st (rd_u2 σ a j x) Q) : rd_W N d own cc nL ret pc ls (.int x :: .int i :: .ref a :: st) σ Q := by
  intro p l e R s m args below meth c g H locs L C hP hD hS hL
  subst hj
  refine va_iast (D := g.1) C.1 C.2.1 C.2.2.2.2.2.2.2.1 hP hD hS a 1 (by rw [rd_wd_at ha, rd_cell_i hkd]) rfl (vp_in_nI hl (rd_len_lt a)) hd (fun H1 locs1 hP1 hD1 hS1 => ?_)
  rw [nI_clamp (Nat.lt_trans hl (rd_len_lt a)), ← rd_u2_row (o := a), rd_wd_set (σ' := rd_u2 σ a j x) ha (rd_cell_i hkd) (fun b hb => rd_cell_ne hb)] at hP1 hD1
  exact kk p l e R s m args below meth c g H1 locs1 L C hP1 hD1 hS1 hL
theorem rr_bast {a : Nat} {i x : Int32} (j : Nat) (hd : decode cc pc = .ok (.bastore, 1)) (ha : a < N) (hkd : rd_kd a = 6) (hj : i = nI j) (hl : j < rd_len a) (kk : rd_W N d own cc nL ret (pc + 1) ls st (rd_u2 σ a j (vp_nar .byte x)) Q) : rd_W N d own cc nL ret pc ls (.int x :: .int i :: .ref a :: st) σ Q := by
  intro p l e R s m args below meth c g H locs L C hP hD hS hL
  subst hj
  refine va_bast (D := g.1) C.1 C.2.1 C.2.2.2.2.2.2.2.1 hP hD hS a 0 (by rw [rd_wd_at ha, rd_cell_b hkd]) rfl (vp_in_nI hl (rd_len_lt a)) hd (fun H1 locs1 hP1 hD1 hS1 => ?_)
  rw [nI_clamp (Nat.lt_trans hl (rd_len_lt a)), ← rd_u2_row (o := a), rd_wd_set (σ' := rd_u2 σ a j (vp_nar .byte x)) ha (rd_cell_b hkd) (fun b hb => rd_cell_ne hb)] at hP1 hD1
  exact kk p l e R s m args below meth c g H1 locs1 L C hP1 hD1 hS1 hL
theorem rr_aald {a : Nat} {i : Int32} (j b : Nat) (hd : decode cc pc = .ok (.aaload, 1)) (ha : a < N) (hkd : rd_kd a = 8) (hj : i = nI j) (hl : j < rd_len a) (hb : rd_rf a j = b) (kk : rd_W N d own cc nL ret (pc + 1) ls (.ref b :: st) σ Q) : rd_W N d own cc nL ret pc ls (.int i :: .ref a :: st) σ Q := by
  intro p l e R s m args below meth c g H locs L C hP hD hS hL
  subst hj
  subst hb
  refine va_aldq (D := g.1) C.1 C.2.1 C.2.2.2.2.2.2.2.1 hP a 2 (C := RX3) (by rw [rd_wd_at ha, rd_cell_s hkd]) rfl (vp_in_nI hl (rd_len_lt a)) hd ?_
  rw [nI_clamp (Nat.lt_trans hl (rd_len_lt a))]
  exact kk p l e R s m args below meth c g H locs L C hP hD hS hL
theorem rr_alen {a : Nat} {v : Int32} (hd : decode cc pc = .ok (.arraylength, 1)) (ha : a < N) (hkd : 6 ≤ rd_kd a) (hv : nI (rd_len a) = v) (kk : rd_W N d own cc nL ret (pc + 1) ls (.int v :: st) σ Q) : rd_W N d own cc nL ret pc ls (.ref a :: st) σ Q := by
  intro p l e R s m args below meth c g H locs L C hP hD hS hL
  by_cases h6 : rd_kd a = 6
  · exact va_alen (D := g.1) C.1 C.2.1 C.2.2.2.2.2.2.2.1 hP a 0 (x := (rd_len a, .inl (σ a))) (by rw [rd_wd_at ha, rd_cell_b h6]) rfl hv hd (kk p l e R s m args below meth c g H locs L C hP hD hS hL)
  · by_cases h7 : rd_kd a = 7
    · exact va_alen (D := g.1) C.1 C.2.1 C.2.2.2.2.2.2.2.1 hP a 1 (x := (rd_len a, .inl (σ a))) (by rw [rd_wd_at ha, rd_cell_i h7]) rfl hv hd (kk p l e R s m args below meth c g H locs L C hP hD hS hL)
    · have he0 : rd_cell g σ a = .inl (g.2.2.2.2, rd_len a, .inr (.inr (.inr (.inr (fun j => some (g.2.1 (rd_rf a j))))))) := by
        simp [rd_cell, h6, h7, show ¬ rd_kd a < 6 by omega]
      exact va_alen (D := g.1) C.1 C.2.1 C.2.2.2.2.2.2.2.1 hP a 2 (x := (rd_len a, .inr (.inr (.inr (.inr (fun j => some (g.2.1 (rd_rf a j)))))))) (by rw [rd_wd_at ha, he0]) rfl hv hd (kk p l e R s m args below meth c g H locs L C hP hD hS hL)
theorem rd_blind {N : Nat} {g : rd_G} {σ : rd_S} {as : List Value} : FrameBlind (va_Pc (as.map (rd_tr g.2.1)) (fun U => rd_B N g σ U ∧ rd_NW U)) := fun a U g' mk q => ⟨q.1, ⟨q.2.1.1, va_K.moved (u := U) (U := U.calling g' mk a) (Vm.Alike.refl U.vm) q.2.1.2.1, q.2.1.2.2⟩, q.2.2.same rfl⟩
/-- a call's static side -/
def rd_CM (own : String) (idx : Nat) (y : MethodName) (cy : ByteArray) (ny : Nat) (ry : Option FieldType) (n : Nat) : Prop :=
  (Cond.methodLink own idx y ∈ rd_gt ∨ ∃ host, (own, idx, y, host) ∈ rd_nw) ∧ Cond.initialized y.cls ∈ rd_gt ∧ Cond.code y cy ny ry ∈ rd_gt ∧ (y.cls ≠ "java/lang/invoke/MethodHandle" ∧ y.cls ≠ "java/lang/invoke/VarHandle") ∧ (parseMethodDescriptor y.desc).map (fun d => d.parameters.length) = some n ∧ ny ≤ 45
def rd_CV (own : String) (idx ci : Nat) (y : MethodName) (cy : ByteArray) (ny : Nat) (ry : Option FieldType) (n : Nat) : Prop :=
  rd_CM own idx y cy ny ry n ∧ Cond.instanceMethod y ∈ rd_gt ∧ Cond.selects y.cls y y ∈ rd_gt ∧ ∃ T Nf, vwCl[ci]? = some (y.cls, T, Nf) ∧ ci < 6
def rd_CS (own : String) (idx : Nat) (y : MethodName) (cy : ByteArray) (ny : Nat) (ry : Option FieldType) (n : Nat) : Prop :=
  rd_CM own idx y cy ny ry n ∧ Cond.static y ∈ rd_gt
theorem rd_runV {p : Program} {l : Launch} {e : Env} {R : Room} {s : State} {m : MethodId} {args : Array Value} {below : List Frame} {meth : Method} {c : Code} {g : rd_G} {H : Heap} {locs : List Loc} {L : Array Slot} {idx ci n d' cells slots : Nat} {y : MethodName} {cy : ByteArray} {ny : Nat} {ry : Option FieldType} {o : Nat} {as rest : List Value} {Qy : Option Value → rd_S → Prop}
    (hx : p.tables.exec = Jvm.exec) (hb : c.code = cc) (hml : c.maxLocals = nL) (hown : s.vm.findClass own = some m.cls) (hts : ∀ w ∈ rd_gt, w.before args s = true) (hK : va_K g.1 vwCl (rd_tys g) s) (hN : rd_NW s) (hfr : d' + 1 ≤ R.frames) (hlo : 64 * (d' + 1) ≤ R.locals) (hP : va_P g.1 vwCl (rd_wd N g σ) H) (hD : va_D (rd_A N g) (rd_wd N g σ)) (hLs : L.size = nL) (hcr : cells ≤ R.cells) (hsr : slots ≤ R.slots)
    (hT : rd_T N d' y cy ny ry (.ref o :: as) σ Qy) (hcv : rd_CV own idx ci y cy ny ry n) (hn : as.length = n) (ho : o < N) (hkd : rd_kd o = ci) (hw : (rest.map Value.category).sum ≤ 8) (hd : decode cc pc = .ok (.invokevirtual idx, 3)) :
    va_Run p l e R s m args below meth c H locs cells slots 0 0 (F0 m pc L ((as.reverse ++ .ref o :: rest).map (rd_tr g.2.1))) (rest.map (rd_tr g.2.1)) (rd_Qc N g ry Qy (Value.ref (g.2.1 o) :: as.map (rd_tr g.2.1)).toArray) (rd_A N g) := by
  obtain ⟨⟨hlk, hin, hco, hyn, hds, hny⟩, hi, hs, T, Nf, hcl, h6⟩ := hcv
  have hpre : PreV s H y.cls (g.2.1 o) (va_Pc ((Value.ref o :: as).map (rd_tr g.2.1)) (fun U => rd_B N g σ U ∧ rd_NW U)) (as.map (rd_tr g.2.1)) := ⟨rd_blind, va_recv hK hP hcl (by rw [rd_wd_at ho, rd_cell_obj hkd h6]), fun U hU hW => ⟨rfl, ⟨by rw [hU]; exact hP, va_K.moved hW.alike hK, hD⟩, hN.warm hW⟩⟩
  have hR : (rd_rm d').frames + 1 ≤ R.frames ∧ 8 + (ny + 11) + (rd_rm d').locals ≤ R.locals := by
    refine ⟨hfr, ?_⟩
    show 8 + (ny + 11) + 64 * d' ≤ R.locals
    omega
  have hst : ((as.reverse ++ .ref o :: rest).map (rd_tr g.2.1)) = (as.map (rd_tr g.2.1)).reverse ++ .ref (g.2.1 o) :: rest.map (rd_tr g.2.1) := by simp [rd_tr]
  have hw2 : 2 * (F0 m pc L ((as.reverse ++ .ref o :: rest).map (rd_tr g.2.1))).monitorRoom + ((rest.map (rd_tr g.2.1)).map fun v => v.category).sum ≤ 8 := by
    refine lv_room ?_
    rw [List.map_map, show ((fun v => Value.category v) ∘ rd_tr g.2.1) = Value.category from funext (fun v => rd_tr_cat _ v)]
    exact hw
  rcases hlk with hlk | ⟨host, hlk⟩
  · exact va_runV (As := as.map (rd_tr g.2.1)) (rest := rest.map (rd_tr g.2.1)) ⟨hx, hb, hml, hown, hts⟩ (hT l g) ⟨callB_of n hts (rd_goodIn hco) rfl rfl rfl (hts _ hin) (hts _ hlk) ⟨hyn.1, hyn.2, hds⟩ hR, hts _ hi, hts _ hs⟩ hpre rfl (by rw [List.length_map]; exact hn) hLs hst hw2 hd ⟨hcr, hsr⟩
  · exact va_runVN (As := as.map (rd_tr g.2.1)) (rest := rest.map (rd_tr g.2.1)) ⟨hx, hb, hml, hown, hts⟩ (hT l g) ⟨va_cnB n hts (rd_goodIn hco) rfl rfl rfl (hN _ hlk) (hts _ hin) ⟨hyn.1, hyn.2, hds⟩ hR, hts _ hi, hts _ hs⟩ hpre rfl (by rw [List.length_map]; exact hn) hLs hst hw2 hd ⟨hcr, hsr⟩
theorem rd_runS {p : Program} {l : Launch} {e : Env} {R : Room} {s : State} {m : MethodId} {args : Array Value} {below : List Frame} {meth : Method} {c : Code} {g : rd_G} {H : Heap} {locs : List Loc} {L : Array Slot} {idx n d' cells slots : Nat} {y : MethodName} {cy : ByteArray} {ny : Nat} {ry : Option FieldType} {as rest : List Value} {Qy : Option Value → rd_S → Prop}
    (hx : p.tables.exec = Jvm.exec) (hb : c.code = cc) (hml : c.maxLocals = nL) (hown : s.vm.findClass own = some m.cls) (hts : ∀ w ∈ rd_gt, w.before args s = true) (hK : va_K g.1 vwCl (rd_tys g) s) (hN : rd_NW s) (hfr : d' + 1 ≤ R.frames) (hlo : 64 * (d' + 1) ≤ R.locals) (hP : va_P g.1 vwCl (rd_wd N g σ) H) (hD : va_D (rd_A N g) (rd_wd N g σ)) (hLs : L.size = nL) (hcr : cells ≤ R.cells) (hsr : slots ≤ R.slots)
    (hT : rd_T N d' y cy ny ry as σ Qy) (hcv : rd_CS own idx y cy ny ry n) (hn : as.length = n) (hw : (rest.map Value.category).sum ≤ 8) (hd : decode cc pc = .ok (.invokestatic idx, 3)) :
    va_Run p l e R s m args below meth c H locs cells slots 0 0 (F0 m pc L ((as.reverse ++ rest).map (rd_tr g.2.1))) (rest.map (rd_tr g.2.1)) (rd_Qc N g ry Qy (as.map (rd_tr g.2.1)).toArray) (rd_A N g) := by
  obtain ⟨⟨hlk, hin, hco, hyn, hds, hny⟩, hi⟩ := hcv
  have hpre : PreS s H (va_Pc (as.map (rd_tr g.2.1)) (fun U => rd_B N g σ U ∧ rd_NW U)) (as.map (rd_tr g.2.1)) := ⟨rd_blind, fun U hU hW => ⟨rfl, ⟨by rw [hU]; exact hP, va_K.moved hW.alike hK, hD⟩, hN.warm hW⟩⟩
  have hR : (rd_rm d').frames + 1 ≤ R.frames ∧ 8 + (ny + 11) + (rd_rm d').locals ≤ R.locals := by
    refine ⟨hfr, ?_⟩
    show 8 + (ny + 11) + 64 * d' ≤ R.locals
    omega
  have hst : ((as.reverse ++ rest).map (rd_tr g.2.1)) = (as.map (rd_tr g.2.1)).reverse ++ rest.map (rd_tr g.2.1) := by simp
  have hw2 : 2 * (F0 m pc L ((as.reverse ++ rest).map (rd_tr g.2.1))).monitorRoom + ((rest.map (rd_tr g.2.1)).map fun v => v.category).sum ≤ 8 := by
    refine lv_room ?_
    rw [List.map_map, show ((fun v => Value.category v) ∘ rd_tr g.2.1) = Value.category from funext (fun v => rd_tr_cat _ v)]
    exact hw
  rcases hlk with hlk | ⟨host, hlk⟩
  · exact va_runS (As := as.map (rd_tr g.2.1)) (rest := rest.map (rd_tr g.2.1)) ⟨hx, hb, hml, hown, hts⟩ (hT l g) ⟨callB_of n hts (rd_goodIn hco) rfl rfl rfl (hts _ hin) (hts _ hlk) ⟨hyn.1, hyn.2, hds⟩ hR, hts _ hi⟩ hpre rfl (by rw [List.length_map]; exact hn) hLs hst hw2 hd ⟨hcr, hsr⟩
  · exact va_runSN (As := as.map (rd_tr g.2.1)) (rest := rest.map (rd_tr g.2.1)) ⟨hx, hb, hml, hown, hts⟩ (hT l g) ⟨va_cnB n hts (rd_goodIn hco) rfl rfl rfl (hN _ hlk) (hts _ hin) ⟨hyn.1, hyn.2, hds⟩ hR, hts _ hi, trivial⟩ hpre rfl (by rw [List.length_map]; exact hn) hLs hst hw2 hd ⟨hcr, hsr⟩
theorem rr_callVi {idx n d' : Nat} {o ci : Nat} {y : MethodName} {cy : ByteArray} {ny : Nat} {ty : FieldType} {as rest : List Value} {Qy : Option Value → rd_S → Prop} (hT : rd_T N d' y cy ny (some ty) (.ref o :: as) σ Qy) (hcv : rd_CV own idx ci y cy ny (some ty) n) (hn : as.length = n) (hst : st = as.reverse ++ .ref o :: rest) (ho : o < N) (hkd : rd_kd o = ci) (hw : (rest.map Value.category).sum ≤ 8) (hd : decode cc pc = .ok (.invokevirtual idx, 3)) (kk : ∀ (r : Int32) (σ1 : rd_S), Qy (some (.int r)) σ1 → rd_W N (d' + 1) own cc nL ret (pc + 3) ls (.int r :: rest) σ1 Q) : rd_W N (d' + 1) own cc nL ret pc ls st σ Q := by
  intro p l e R s m args below meth c g H locs L C hP hD hS hL
  subst hst
  exact va_calli (A1 := rd_A N g) (a := (Value.ref (g.2.1 o) :: as.map (rd_tr g.2.1)).toArray) (rd_runV C.1 C.2.1 C.2.2.1 C.2.2.2.2.2.1 C.2.2.2.2.2.2.1 C.2.2.2.2.2.2.2.1 C.2.2.2.2.2.2.2.2.2.2 C.2.2.2.2.2.2.2.2.1 C.2.2.2.2.2.2.2.2.2.1 hP hD hL.1 (Nat.zero_le _) (Nat.zero_le _) hT hcv hn ho hkd hw hd) hS (fun q _ h => h) (fun q h => h) (fun r u t H1 locs1 ht hvm hq hB hz hk hS1 => kk r u hq p l e R s m args below meth c g H1 locs1 L C (by rw [← ht]; exact hB.1) hB.2.2 hS1 hL)
theorem rr_callVv {idx n d' : Nat} {o ci : Nat} {y : MethodName} {cy : ByteArray} {ny : Nat} {as rest : List Value} {Qy : Option Value → rd_S → Prop} (hT : rd_T N d' y cy ny (none) (.ref o :: as) σ Qy) (hcv : rd_CV own idx ci y cy ny (none) n) (hn : as.length = n) (hst : st = as.reverse ++ .ref o :: rest) (ho : o < N) (hkd : rd_kd o = ci) (hw : (rest.map Value.category).sum ≤ 8) (hd : decode cc pc = .ok (.invokevirtual idx, 3)) (kk : ∀ (σ1 : rd_S), Qy none σ1 → rd_W N (d' + 1) own cc nL ret (pc + 3) ls rest σ1 Q) : rd_W N (d' + 1) own cc nL ret pc ls st σ Q := by
  intro p l e R s m args below meth c g H locs L C hP hD hS hL
  subst hst
  exact va_callv (A1 := rd_A N g) (a := (Value.ref (g.2.1 o) :: as.map (rd_tr g.2.1)).toArray) (rd_runV C.1 C.2.1 C.2.2.1 C.2.2.2.2.2.1 C.2.2.2.2.2.2.1 C.2.2.2.2.2.2.2.1 C.2.2.2.2.2.2.2.2.2.2 C.2.2.2.2.2.2.2.2.1 C.2.2.2.2.2.2.2.2.2.1 hP hD hL.1 (Nat.zero_le _) (Nat.zero_le _) hT hcv hn ho hkd hw hd) hS (fun q _ h => h) (fun q h => h) (fun u t H1 locs1 ht hvm hq hB hz hk hS1 => kk u hq p l e R s m args below meth c g H1 locs1 L C (by rw [← ht]; exact hB.1) hB.2.2 hS1 hL)
theorem rr_callSi {idx n d' : Nat} {y : MethodName} {cy : ByteArray} {ny : Nat} {ty : FieldType} {as rest : List Value} {Qy : Option Value → rd_S → Prop} (hT : rd_T N d' y cy ny (some ty) as σ Qy) (hcv : rd_CS own idx y cy ny (some ty) n) (hn : as.length = n) (hst : st = as.reverse ++ rest)  (hw : (rest.map Value.category).sum ≤ 8) (hd : decode cc pc = .ok (.invokestatic idx, 3)) (kk : ∀ (r : Int32) (σ1 : rd_S), Qy (some (.int r)) σ1 → rd_W N (d' + 1) own cc nL ret (pc + 3) ls (.int r :: rest) σ1 Q) : rd_W N (d' + 1) own cc nL ret pc ls st σ Q := by
  intro p l e R s m args below meth c g H locs L C hP hD hS hL
  subst hst
  exact va_calli (A1 := rd_A N g) (a := (as.map (rd_tr g.2.1)).toArray) (rd_runS C.1 C.2.1 C.2.2.1 C.2.2.2.2.2.1 C.2.2.2.2.2.2.1 C.2.2.2.2.2.2.2.1 C.2.2.2.2.2.2.2.2.2.2 C.2.2.2.2.2.2.2.2.1 C.2.2.2.2.2.2.2.2.2.1 hP hD hL.1 (Nat.zero_le _) (Nat.zero_le _) hT hcv hn  hw hd) hS (fun q _ h => h) (fun q h => h) (fun r u t H1 locs1 ht hvm hq hB hz hk hS1 => kk r u hq p l e R s m args below meth c g H1 locs1 L C (by rw [← ht]; exact hB.1) hB.2.2 hS1 hL)
theorem rr_callSv {idx n d' : Nat} {y : MethodName} {cy : ByteArray} {ny : Nat} {as rest : List Value} {Qy : Option Value → rd_S → Prop} (hT : rd_T N d' y cy ny (none) as σ Qy) (hcv : rd_CS own idx y cy ny (none) n) (hn : as.length = n) (hst : st = as.reverse ++ rest)  (hw : (rest.map Value.category).sum ≤ 8) (hd : decode cc pc = .ok (.invokestatic idx, 3)) (kk : ∀ (σ1 : rd_S), Qy none σ1 → rd_W N (d' + 1) own cc nL ret (pc + 3) ls rest σ1 Q) : rd_W N (d' + 1) own cc nL ret pc ls st σ Q := by
  intro p l e R s m args below meth c g H locs L C hP hD hS hL
  subst hst
  exact va_callv (A1 := rd_A N g) (a := (as.map (rd_tr g.2.1)).toArray) (rd_runS C.1 C.2.1 C.2.2.1 C.2.2.2.2.2.1 C.2.2.2.2.2.2.1 C.2.2.2.2.2.2.2.1 C.2.2.2.2.2.2.2.2.2.2 C.2.2.2.2.2.2.2.2.1 C.2.2.2.2.2.2.2.2.2.1 hP hD hL.1 (Nat.zero_le _) (Nat.zero_le _) hT hcv hn  hw hd) hS (fun q _ h => h) (fun q h => h) (fun u t H1 locs1 ht hvm hq hB hz hk hS1 => kk u hq p l e R s m args below meth c g H1 locs1 L C (by rw [← ht]; exact hB.1) hB.2.2 hS1 hL)
theorem rd_T.deeper {N d d' : Nat} {y : MethodName} {cc : ByteArray} {nL : Nat} {ret : Option FieldType} {as : List Value} {σ : rd_S} {Q : Option Value → rd_S → Prop} (h : rd_W N d y.cls cc nL ret pc ls st σ Q) (hd : d ≤ d') : rd_W N d' y.cls cc nL ret pc ls st σ Q := by
  intro p l e R s m args below meth c g H locs L C hP hD hS hL
  exact h p l e R s m args below meth c g H locs L ⟨C.1, C.2.1, C.2.2.1, C.2.2.2.1, C.2.2.2.2.1, C.2.2.2.2.2.1, C.2.2.2.2.2.2.1, C.2.2.2.2.2.2.2.1, Nat.le_trans hd C.2.2.2.2.2.2.2.2.1, Nat.le_trans (Nat.mul_le_mul_left 64 hd) C.2.2.2.2.2.2.2.2.2.1, C.2.2.2.2.2.2.2.2.2.2⟩ hP hD hS hL
theorem rd_W.post {Q' : Option Value → rd_S → Prop} (h : rd_W N d own cc nL ret pc ls st σ Q') (hq : ∀ r u, Q' r u → Q r u) : rd_W N d own cc nL ret pc ls st σ Q := by
  intro p l e R s m args below meth c g H locs L C hP hD hS hL T hT X
  obtain ⟨t, h1, o, h2, h3, h4, h5⟩ := h p l e R s m args below meth c g H locs L C hP hD hS hL T hT X
  refine ⟨t, h1, o, h2, h3, ?_, h5⟩
  cases ret with
  | none =>
    obtain ⟨⟨u, q1, q2, q3⟩, q4⟩ := h4
    exact ⟨⟨u, q1, hq _ _ q2, q3⟩, q4⟩
  | some ty =>
    obtain ⟨⟨r, u, q1, q2, q3⟩, q4⟩ := h4
    exact ⟨⟨r, u, q1, hq _ _ q2, q3⟩, q4⟩
theorem rr_mmax {index : Nat} {x y : Int32} (hd : decode cc pc = .ok (.invokestatic index, 3)) (hl : Cond.methodLink own index Lib.Math.max.name ∈ rd_gt) (hw : (st.map Value.category).sum ≤ 8) (hm : Cond.static Lib.Math.max.name ∈ rd_gt ∧ Cond.initialized "java/lang/Math" ∈ rd_gt ∧ Cond.code Lib.Math.max.name Lib.Math.max.code 2 (some .int) ∈ rd_gt) (k : rd_W N (d + 1) own cc nL ret (pc + 3) ls (.int (if x < y then y else x) :: st) σ Q) : rd_W N (d + 1) own cc nL ret pc ls (.int y :: .int x :: st) σ Q := by
  intro p l e R s m args below meth c g H locs L C hP hD hS hL
  have h1 := C.2.2.2.2.2.2.2.2.1
  have h2 := C.2.2.2.2.2.2.2.2.2.1
  refine va_mmax C.1 C.2.1 (C.2.2.1.trans hL.1.symm) C.2.2.2.2.2.1 (C.2.2.2.2.2.2.1 _ hl) (C.2.2.2.2.2.2.1 _ hm.1) (C.2.2.2.2.2.2.1 _ hm.2.1) (C.2.2.2.2.2.2.1 _ hm.2.2) (by omega) ?_ (Nat.zero_le _) (Nat.zero_le _) hd (k p l e R s m args below meth c g H locs L C hP hD hS hL)
  rw [List.map_map, show ((fun v => Value.category v) ∘ rd_tr g.2.1) = Value.category from funext (fun v => rd_tr_cat _ v)]
  omega
theorem rr_mmin {index : Nat} {x y : Int32} (hd : decode cc pc = .ok (.invokestatic index, 3)) (hl : Cond.methodLink own index Lib.Math.min.name ∈ rd_gt) (hw : (st.map Value.category).sum ≤ 8) (hm : Cond.static Lib.Math.min.name ∈ rd_gt ∧ Cond.initialized "java/lang/Math" ∈ rd_gt ∧ Cond.code Lib.Math.min.name Lib.Math.min.code 2 (some .int) ∈ rd_gt) (k : rd_W N (d + 1) own cc nL ret (pc + 3) ls (.int (if y < x then y else x) :: st) σ Q) : rd_W N (d + 1) own cc nL ret pc ls (.int y :: .int x :: st) σ Q := by
  intro p l e R s m args below meth c g H locs L C hP hD hS hL
  have h1 := C.2.2.2.2.2.2.2.2.1
  have h2 := C.2.2.2.2.2.2.2.2.2.1
  refine va_mmin C.1 C.2.1 (C.2.2.1.trans hL.1.symm) C.2.2.2.2.2.1 (C.2.2.2.2.2.2.1 _ hl) (C.2.2.2.2.2.2.1 _ hm.1) (C.2.2.2.2.2.2.1 _ hm.2.1) (C.2.2.2.2.2.2.1 _ hm.2.2) (by omega) ?_ (Nat.zero_le _) (Nat.zero_le _) hd (k p l e R s m args below meth c g H locs L C hP hD hS hL)
  rw [List.map_map, show ((fun v => Value.category v) ∘ rd_tr g.2.1) = Value.category from funext (fun v => rd_tr_cat _ v)]
  omega
theorem rr_mabs {index : Nat} {x : Int32} (hd : decode cc pc = .ok (.invokestatic index, 3)) (hl : Cond.methodLink own index Lib.Math.abs.name ∈ rd_gt) (hw : (st.map Value.category).sum ≤ 8) (hm : Cond.static Lib.Math.abs.name ∈ rd_gt ∧ Cond.initialized "java/lang/Math" ∈ rd_gt ∧ Cond.code Lib.Math.abs.name Lib.Math.abs.code 1 (some .int) ∈ rd_gt) (k : rd_W N (d + 1) own cc nL ret (pc + 3) ls (.int (if 0 ≤ x then x else 0 - x) :: st) σ Q) : rd_W N (d + 1) own cc nL ret pc ls (.int x :: st) σ Q := by
  intro p l e R s m args below meth c g H locs L C hP hD hS hL
  have h1 := C.2.2.2.2.2.2.2.2.1
  have h2 := C.2.2.2.2.2.2.2.2.2.1
  refine va_mabs C.1 C.2.1 (C.2.2.1.trans hL.1.symm) C.2.2.2.2.2.1 (C.2.2.2.2.2.2.1 _ hl) (C.2.2.2.2.2.2.1 _ hm.1) (C.2.2.2.2.2.2.1 _ hm.2.1) (C.2.2.2.2.2.2.1 _ hm.2.2) (by omega) ?_ (Nat.zero_le _) (Nat.zero_le _) hd (k p l e R s m args below meth c g H locs L C hP hD hS hL)
  rw [List.map_map, show ((fun v => Value.category v) ∘ rd_tr g.2.1) = Value.category from funext (fun v => rd_tr_cat _ v)]
  omega
end
end
section
set_option maxRecDepth 100000 in
theorem kw_X0 : ∀ w ∈ u_ws RX0 TX0 3, w ∈ rd_gt := by decide +kernel
set_option maxRecDepth 100000 in
theorem kw_X1 : ∀ w ∈ u_ws RX1 TX1 6, w ∈ rd_gt := by decide +kernel
set_option maxRecDepth 100000 in
theorem kw_X2 : ∀ w ∈ u_ws RX2 TX2 9, w ∈ rd_gt := by decide +kernel
set_option maxRecDepth 100000 in
theorem kw_X3 : ∀ w ∈ u_ws RX3 TX3 6, w ∈ rd_gt := by decide +kernel
set_option maxRecDepth 100000 in
theorem kw_X4 : ∀ w ∈ u_ws RX4 TX4 14, w ∈ rd_gt := by decide +kernel
set_option maxRecDepth 100000 in
theorem kw_X5 : ∀ w ∈ u_ws RX5 TX5 25, w ∈ rd_gt := by decide +kernel
set_option maxRecDepth 100000 in
theorem if_0_1 : rd_IF 0 1 := fun C T Nf h => by cases h; exact ⟨rfl, rfl⟩
set_option maxRecDepth 100000 in
theorem if_0_2 : rd_IF 0 2 := fun C T Nf h => by cases h; exact ⟨rfl, rfl⟩
set_option maxRecDepth 100000 in
theorem if_1_1 : rd_IF 1 1 := fun C T Nf h => by cases h; exact ⟨rfl, rfl⟩
set_option maxRecDepth 100000 in
theorem if_1_2 : rd_IF 1 2 := fun C T Nf h => by cases h; exact ⟨rfl, rfl⟩
set_option maxRecDepth 100000 in
theorem if_1_3 : rd_IF 1 3 := fun C T Nf h => by cases h; exact ⟨rfl, rfl⟩
set_option maxRecDepth 100000 in
theorem if_1_4 : rd_IF 1 4 := fun C T Nf h => by cases h; exact ⟨rfl, rfl⟩
set_option maxRecDepth 100000 in
theorem if_1_5 : rd_IF 1 5 := fun C T Nf h => by cases h; exact ⟨rfl, rfl⟩
set_option maxRecDepth 100000 in
theorem if_2_1 : rd_IF 2 1 := fun C T Nf h => by cases h; exact ⟨rfl, rfl⟩
set_option maxRecDepth 100000 in
theorem if_2_3 : rd_IF 2 3 := fun C T Nf h => by cases h; exact ⟨rfl, rfl⟩
set_option maxRecDepth 100000 in
theorem if_2_4 : rd_IF 2 4 := fun C T Nf h => by cases h; exact ⟨rfl, rfl⟩
set_option maxRecDepth 100000 in
theorem if_2_5 : rd_IF 2 5 := fun C T Nf h => by cases h; exact ⟨rfl, rfl⟩
set_option maxRecDepth 100000 in
theorem if_2_6 : rd_IF 2 6 := fun C T Nf h => by cases h; exact ⟨rfl, rfl⟩
set_option maxRecDepth 100000 in
theorem if_2_7 : rd_IF 2 7 := fun C T Nf h => by cases h; exact ⟨rfl, rfl⟩
set_option maxRecDepth 100000 in
theorem if_2_8 : rd_IF 2 8 := fun C T Nf h => by cases h; exact ⟨rfl, rfl⟩
set_option maxRecDepth 100000 in
theorem if_3_0 : rd_IF 3 0 := fun C T Nf h => by cases h; exact ⟨rfl, rfl⟩
set_option maxRecDepth 100000 in
theorem if_3_1 : rd_IF 3 1 := fun C T Nf h => by cases h; exact ⟨rfl, rfl⟩
set_option maxRecDepth 100000 in
theorem if_3_2 : rd_IF 3 2 := fun C T Nf h => by cases h; exact ⟨rfl, rfl⟩
set_option maxRecDepth 100000 in
theorem if_3_3 : rd_IF 3 3 := fun C T Nf h => by cases h; exact ⟨rfl, rfl⟩
set_option maxRecDepth 100000 in
theorem if_3_4 : rd_IF 3 4 := fun C T Nf h => by cases h; exact ⟨rfl, rfl⟩
set_option maxRecDepth 100000 in
theorem if_3_5 : rd_IF 3 5 := fun C T Nf h => by cases h; exact ⟨rfl, rfl⟩
set_option maxRecDepth 100000 in
theorem if_4_10 : rd_IF 4 10 := fun C T Nf h => by cases h; exact ⟨rfl, rfl⟩
set_option maxRecDepth 100000 in
theorem if_4_11 : rd_IF 4 11 := fun C T Nf h => by cases h; exact ⟨rfl, rfl⟩
set_option maxRecDepth 100000 in
theorem if_4_12 : rd_IF 4 12 := fun C T Nf h => by cases h; exact ⟨rfl, rfl⟩
set_option maxRecDepth 100000 in
theorem if_4_13 : rd_IF 4 13 := fun C T Nf h => by cases h; exact ⟨rfl, rfl⟩
set_option maxRecDepth 100000 in
theorem if_5_3 : rd_IF 5 3 := fun C T Nf h => by cases h; exact ⟨rfl, rfl⟩
set_option maxRecDepth 100000 in
theorem if_5_6 : rd_IF 5 6 := fun C T Nf h => by cases h; exact ⟨rfl, rfl⟩
set_option maxRecDepth 100000 in
theorem if_5_8 : rd_IF 5 8 := fun C T Nf h => by cases h; exact ⟨rfl, rfl⟩
set_option maxRecDepth 100000 in
theorem if_5_10 : rd_IF 5 10 := fun C T Nf h => by cases h; exact ⟨rfl, rfl⟩
set_option maxRecDepth 100000 in
theorem if_5_12 : rd_IF 5 12 := fun C T Nf h => by cases h; exact ⟨rfl, rfl⟩
set_option maxRecDepth 100000 in
theorem if_5_16 : rd_IF 5 16 := fun C T Nf h => by cases h; exact ⟨rfl, rfl⟩
set_option maxRecDepth 100000 in
theorem if_5_17 : rd_IF 5 17 := fun C T Nf h => by cases h; exact ⟨rfl, rfl⟩
set_option maxRecDepth 100000 in
theorem if_5_18 : rd_IF 5 18 := fun C T Nf h => by cases h; exact ⟨rfl, rfl⟩
set_option maxRecDepth 100000 in
theorem if_5_20 : rd_IF 5 20 := fun C T Nf h => by cases h; exact ⟨rfl, rfl⟩
set_option maxRecDepth 100000 in
theorem if_5_21 : rd_IF 5 21 := fun C T Nf h => by cases h; exact ⟨rfl, rfl⟩
set_option maxRecDepth 100000 in
theorem kf_X1_9 : rd_FL RX1 9 1 0 := ⟨RX1, TX1, 6, tyX1, rfl, kw_X1, tyX1_ok, nmX1, rfl, by decide, by decide, (rd_gt_of 72 rfl rfl)⟩
set_option maxRecDepth 100000 in
theorem kf_X1_15 : rd_FL RX1 15 1 1 := ⟨RX1, TX1, 6, tyX1, rfl, kw_X1, tyX1_ok, nmX1, rfl, by decide, by decide, (rd_gt_of 73 rfl rfl)⟩
set_option maxRecDepth 100000 in
theorem kf_X4_84 : rd_FL RX4 84 1 1 := ⟨RX1, TX1, 6, tyX1, rfl, kw_X1, tyX1_ok, nmX1, rfl, by decide, by decide, (rd_gt_of 74 rfl rfl)⟩
set_option maxRecDepth 100000 in
theorem kf_X1_49 : rd_FL RX1 49 1 2 := ⟨RX1, TX1, 6, tyX1, rfl, kw_X1, tyX1_ok, nmX1, rfl, by decide, by decide, (rd_gt_of 75 rfl rfl)⟩
set_option maxRecDepth 100000 in
theorem kf_X4_236 : rd_FL RX4 236 1 2 := ⟨RX1, TX1, 6, tyX1, rfl, kw_X1, tyX1_ok, nmX1, rfl, by decide, by decide, (rd_gt_of 76 rfl rfl)⟩
set_option maxRecDepth 100000 in
theorem kf_X1_52 : rd_FL RX1 52 1 3 := ⟨RX1, TX1, 6, tyX1, rfl, kw_X1, tyX1_ok, nmX1, rfl, by decide, by decide, (rd_gt_of 77 rfl rfl)⟩
set_option maxRecDepth 100000 in
theorem kf_X4_239 : rd_FL RX4 239 1 3 := ⟨RX1, TX1, 6, tyX1, rfl, kw_X1, tyX1_ok, nmX1, rfl, by decide, by decide, (rd_gt_of 78 rfl rfl)⟩
set_option maxRecDepth 100000 in
theorem kf_X1_55 : rd_FL RX1 55 1 4 := ⟨RX1, TX1, 6, tyX1, rfl, kw_X1, tyX1_ok, nmX1, rfl, by decide, by decide, (rd_gt_of 79 rfl rfl)⟩
set_option maxRecDepth 100000 in
theorem kf_X4_242 : rd_FL RX4 242 1 4 := ⟨RX1, TX1, 6, tyX1, rfl, kw_X1, tyX1_ok, nmX1, rfl, by decide, by decide, (rd_gt_of 80 rfl rfl)⟩
set_option maxRecDepth 100000 in
theorem kf_X1_37 : rd_FL RX1 37 1 5 := ⟨RX1, TX1, 6, tyX1, rfl, kw_X1, tyX1_ok, nmX1, rfl, by decide, by decide, (rd_gt_of 81 rfl rfl)⟩
set_option maxRecDepth 100000 in
theorem kf_X3_11 : rd_FL RX3 11 3 0 := ⟨RX3, TX3, 6, tyX3, rfl, kw_X3, tyX3_ok, nmX3, rfl, by decide, by decide, (rd_gt_of 102 rfl rfl)⟩
set_option maxRecDepth 100000 in
theorem kf_X4_205 : rd_FL RX4 205 3 0 := ⟨RX3, TX3, 6, tyX3, rfl, kw_X3, tyX3_ok, nmX3, rfl, by decide, by decide, (rd_gt_of 103 rfl rfl)⟩
set_option maxRecDepth 100000 in
theorem kf_X3_22 : rd_FL RX3 22 3 1 := ⟨RX3, TX3, 6, tyX3, rfl, kw_X3, tyX3_ok, nmX3, rfl, by decide, by decide, (rd_gt_of 104 rfl rfl)⟩
set_option maxRecDepth 100000 in
theorem kf_X3_25 : rd_FL RX3 25 3 2 := ⟨RX3, TX3, 6, tyX3, rfl, kw_X3, tyX3_ok, nmX3, rfl, by decide, by decide, (rd_gt_of 105 rfl rfl)⟩
set_option maxRecDepth 100000 in
theorem kf_X4_114 : rd_FL RX4 114 3 2 := ⟨RX3, TX3, 6, tyX3, rfl, kw_X3, tyX3_ok, nmX3, rfl, by decide, by decide, (rd_gt_of 106 rfl rfl)⟩
set_option maxRecDepth 100000 in
theorem kf_X2_59 : rd_FL RX2 59 3 2 := ⟨RX3, TX3, 6, tyX3, rfl, kw_X3, tyX3_ok, nmX3, rfl, by decide, by decide, (rd_gt_of 107 rfl rfl)⟩
set_option maxRecDepth 100000 in
theorem kf_X3_15 : rd_FL RX3 15 3 3 := ⟨RX3, TX3, 6, tyX3, rfl, kw_X3, tyX3_ok, nmX3, rfl, by decide, by decide, (rd_gt_of 108 rfl rfl)⟩
set_option maxRecDepth 100000 in
theorem kf_X4_117 : rd_FL RX4 117 3 3 := ⟨RX3, TX3, 6, tyX3, rfl, kw_X3, tyX3_ok, nmX3, rfl, by decide, by decide, (rd_gt_of 109 rfl rfl)⟩
set_option maxRecDepth 100000 in
theorem kf_X2_67 : rd_FL RX2 67 3 3 := ⟨RX3, TX3, 6, tyX3, rfl, kw_X3, tyX3_ok, nmX3, rfl, by decide, by decide, (rd_gt_of 110 rfl rfl)⟩
set_option maxRecDepth 100000 in
theorem kf_X3_28 : rd_FL RX3 28 3 4 := ⟨RX3, TX3, 6, tyX3, rfl, kw_X3, tyX3_ok, nmX3, rfl, by decide, by decide, (rd_gt_of 111 rfl rfl)⟩
set_option maxRecDepth 100000 in
theorem kf_X4_233 : rd_FL RX4 233 3 4 := ⟨RX3, TX3, 6, tyX3, rfl, kw_X3, tyX3_ok, nmX3, rfl, by decide, by decide, (rd_gt_of 112 rfl rfl)⟩
set_option maxRecDepth 100000 in
theorem kf_X3_31 : rd_FL RX3 31 3 5 := ⟨RX3, TX3, 6, tyX3, rfl, kw_X3, tyX3_ok, nmX3, rfl, by decide, by decide, (rd_gt_of 113 rfl rfl)⟩
set_option maxRecDepth 100000 in
theorem kf_X4_183 : rd_FL RX4 183 3 5 := ⟨RX3, TX3, 6, tyX3, rfl, kw_X3, tyX3_ok, nmX3, rfl, by decide, by decide, (rd_gt_of 114 rfl rfl)⟩
set_option maxRecDepth 100000 in
theorem kl_X0_7 : Cond.methodLink RX0 7 Lib.Math.max.name ∈ rd_gt := (rd_gt_of 134 rfl rfl)
set_option maxRecDepth 100000 in
theorem kf_X0_15 : rd_FL RX0 15 0 0 := ⟨RX0, TX0, 3, tyX0, rfl, kw_X0, tyX0_ok, nmX0, rfl, by decide, by decide, (rd_gt_of 140 rfl rfl)⟩
set_option maxRecDepth 100000 in
theorem kf_X0_26 : rd_FL RX0 26 0 1 := ⟨RX0, TX0, 3, tyX0, rfl, kw_X0, tyX0_ok, nmX0, rfl, by decide, by decide, (rd_gt_of 141 rfl rfl)⟩
set_option maxRecDepth 100000 in
theorem kf_X0_22 : rd_FL RX0 22 0 2 := ⟨RX0, TX0, 3, tyX0, rfl, kw_X0, tyX0_ok, nmX0, rfl, by decide, by decide, (rd_gt_of 142 rfl rfl)⟩
set_option maxRecDepth 100000 in
theorem kf_X4_151 : rd_FL RX4 151 0 2 := ⟨RX0, TX0, 3, tyX0, rfl, kw_X0, tyX0_ok, nmX0, rfl, by decide, by decide, (rd_gt_of 143 rfl rfl)⟩
set_option maxRecDepth 100000 in
theorem kf_X2_11 : rd_FL RX2 11 2 0 := ⟨RX2, TX2, 9, tyX2, rfl, kw_X2, tyX2_ok, nmX2, rfl, by decide, by decide, (rd_gt_of 159 rfl rfl)⟩
set_option maxRecDepth 100000 in
theorem kf_X2_39 : rd_FL RX2 39 2 1 := ⟨RX2, TX2, 9, tyX2, rfl, kw_X2, tyX2_ok, nmX2, rfl, by decide, by decide, (rd_gt_of 160 rfl rfl)⟩
set_option maxRecDepth 100000 in
theorem kf_X2_18 : rd_FL RX2 18 2 2 := ⟨RX2, TX2, 9, tyX2, rfl, kw_X2, tyX2_ok, nmX2, rfl, by decide, by decide, (rd_gt_of 161 rfl rfl)⟩
set_option maxRecDepth 100000 in
theorem kf_X2_22 : rd_FL RX2 22 2 3 := ⟨RX2, TX2, 9, tyX2, rfl, kw_X2, tyX2_ok, nmX2, rfl, by decide, by decide, (rd_gt_of 162 rfl rfl)⟩
set_option maxRecDepth 100000 in
theorem kf_X2_26 : rd_FL RX2 26 2 4 := ⟨RX2, TX2, 9, tyX2, rfl, kw_X2, tyX2_ok, nmX2, rfl, by decide, by decide, (rd_gt_of 163 rfl rfl)⟩
set_option maxRecDepth 100000 in
theorem kf_X2_29 : rd_FL RX2 29 2 5 := ⟨RX2, TX2, 9, tyX2, rfl, kw_X2, tyX2_ok, nmX2, rfl, by decide, by decide, (rd_gt_of 164 rfl rfl)⟩
set_option maxRecDepth 100000 in
theorem kf_X2_32 : rd_FL RX2 32 2 6 := ⟨RX2, TX2, 9, tyX2, rfl, kw_X2, tyX2_ok, nmX2, rfl, by decide, by decide, (rd_gt_of 165 rfl rfl)⟩
set_option maxRecDepth 100000 in
theorem kf_X2_42 : rd_FL RX2 42 2 7 := ⟨RX2, TX2, 9, tyX2, rfl, kw_X2, tyX2_ok, nmX2, rfl, by decide, by decide, (rd_gt_of 166 rfl rfl)⟩
set_option maxRecDepth 100000 in
theorem kf_X4_253 : rd_FL RX4 253 2 7 := ⟨RX2, TX2, 9, tyX2, rfl, kw_X2, tyX2_ok, nmX2, rfl, by decide, by decide, (rd_gt_of 167 rfl rfl)⟩
set_option maxRecDepth 100000 in
theorem kf_X2_45 : rd_FL RX2 45 2 8 := ⟨RX2, TX2, 9, tyX2, rfl, kw_X2, tyX2_ok, nmX2, rfl, by decide, by decide, (rd_gt_of 168 rfl rfl)⟩
set_option maxRecDepth 100000 in
theorem kf_X4_256 : rd_FL RX4 256 2 8 := ⟨RX2, TX2, 9, tyX2, rfl, kw_X2, tyX2_ok, nmX2, rfl, by decide, by decide, (rd_gt_of 169 rfl rfl)⟩
set_option maxRecDepth 100000 in
theorem km_X4_70 : rd_CV RX4 70 1 yX1_add cX1_add 2 (some .boolean) 1 := ⟨⟨(Or.inl (rd_gt_of 238 rfl rfl)), (rd_gt_of 47 rfl rfl), (rd_gt_of 241 rfl rfl), by decide +kernel, by decide +kernel, by decide⟩, (rd_gt_of 239 rfl rfl), (rd_gt_of 240 rfl rfl), TX1, 6, rfl, by decide⟩
set_option maxRecDepth 100000 in
theorem km_X4_74 : rd_CV RX4 74 1 yX1_tellsDance cX1_tellsDance 1 (some .boolean) 0 := ⟨⟨(Or.inl (rd_gt_of 242 rfl rfl)), (rd_gt_of 47 rfl rfl), (rd_gt_of 245 rfl rfl), by decide +kernel, by decide +kernel, by decide⟩, (rd_gt_of 243 rfl rfl), (rd_gt_of 244 rfl rfl), TX1, 6, rfl, by decide⟩
set_option maxRecDepth 100000 in
theorem km_X1_26 : rd_CV RX1 26 1 yX1_firstFault cX1_firstFault 5 (some .int) 0 := ⟨⟨(Or.inl (rd_gt_of 246 rfl rfl)), (rd_gt_of 47 rfl rfl), (rd_gt_of 249 rfl rfl), by decide +kernel, by decide +kernel, by decide⟩, (rd_gt_of 247 rfl rfl), (rd_gt_of 248 rfl rfl), TX1, 6, rfl, by decide⟩
set_option maxRecDepth 100000 in
theorem km_X1_19 : rd_CV RX1 19 1 yX1_endOfItem cX1_endOfItem 2 (some .int) 1 := ⟨⟨(Or.inl (rd_gt_of 250 rfl rfl)), (rd_gt_of 47 rfl rfl), (rd_gt_of 253 rfl rfl), by decide +kernel, by decide +kernel, by decide⟩, (rd_gt_of 252 rfl rfl), (rd_gt_of 0 rfl rfl), TX1, 6, rfl, by decide⟩
set_option maxRecDepth 100000 in
theorem km_X1_23 : rd_CV RX1 23 1 yX1_letterAt cX1_letterAt 2 (some .int) 1 := ⟨⟨(Or.inl (rd_gt_of 254 rfl rfl)), (rd_gt_of 47 rfl rfl), (rd_gt_of 257 rfl rfl), by decide +kernel, by decide +kernel, by decide⟩, (rd_gt_of 256 rfl rfl), (rd_gt_of 1 rfl rfl), TX1, 6, rfl, by decide⟩
set_option maxRecDepth 100000 in
theorem km_X1_68 : rd_CV RX1 68 1 yX1_endOfPair cX1_endOfPair 4 (some .int) 2 := ⟨⟨(Or.inl (rd_gt_of 258 rfl rfl)), (rd_gt_of 47 rfl rfl), (rd_gt_of 261 rfl rfl), by decide +kernel, by decide +kernel, by decide⟩, (rd_gt_of 260 rfl rfl), (rd_gt_of 2 rfl rfl), TX1, 6, rfl, by decide⟩
set_option maxRecDepth 100000 in
theorem km_X1_71 : rd_CV RX1 71 1 yX1_isNumber cX1_isNumber 4 (some .boolean) 2 := ⟨⟨(Or.inl (rd_gt_of 262 rfl rfl)), (rd_gt_of 47 rfl rfl), (rd_gt_of 265 rfl rfl), by decide +kernel, by decide +kernel, by decide⟩, (rd_gt_of 264 rfl rfl), (rd_gt_of 3 rfl rfl), TX1, 6, rfl, by decide⟩
set_option maxRecDepth 100000 in
theorem km_X1_30 : rd_CV RX1 30 1 yX1_readItems cX1_readItems 3 none 0 := ⟨⟨(Or.inl (rd_gt_of 266 rfl rfl)), (rd_gt_of 47 rfl rfl), (rd_gt_of 269 rfl rfl), by decide +kernel, by decide +kernel, by decide⟩, (rd_gt_of 268 rfl rfl), (rd_gt_of 4 rfl rfl), TX1, 6, rfl, by decide⟩
set_option maxRecDepth 100000 in
theorem km_X1_60 : rd_CV RX1 60 1 yX1_readItem cX1_readItem 4 none 1 := ⟨⟨(Or.inl (rd_gt_of 270 rfl rfl)), (rd_gt_of 47 rfl rfl), (rd_gt_of 273 rfl rfl), by decide +kernel, by decide +kernel, by decide⟩, (rd_gt_of 272 rfl rfl), (rd_gt_of 5 rfl rfl), TX1, 6, rfl, by decide⟩
set_option maxRecDepth 100000 in
theorem km_X1_64 : rd_CS RX1 64 yX4_withKind cX4_withKind 3 (some .int) 3 := ⟨⟨(Or.inr ⟨"RopeDance", rd_nw_of 274 rfl⟩), (rd_gt_of 46 rfl rfl), (rd_gt_of 276 rfl rfl), by decide +kernel, by decide +kernel, by decide⟩, (rd_gt_of 275 rfl rfl)⟩
set_option maxRecDepth 100000 in
theorem km_X1_33 : rd_CV RX1 33 1 yX1_areApart cX1_areApart 3 (some .boolean) 0 := ⟨⟨(Or.inl (rd_gt_of 277 rfl rfl)), (rd_gt_of 47 rfl rfl), (rd_gt_of 280 rfl rfl), by decide +kernel, by decide +kernel, by decide⟩, (rd_gt_of 279 rfl rfl), (rd_gt_of 6 rfl rfl), TX1, 6, rfl, by decide⟩
set_option maxRecDepth 100000 in
theorem km_X1_40 : rd_CS RX1 40 yX4_pairAt cX4_pairAt 2 (some .int) 2 := ⟨⟨(Or.inr ⟨"RopeDance", rd_nw_of 281 rfl⟩), (rd_gt_of 46 rfl rfl), (rd_gt_of 283 rfl rfl), by decide +kernel, by decide +kernel, by decide⟩, (rd_gt_of 282 rfl rfl)⟩
set_option maxRecDepth 100000 in
theorem km_X1_44 : rd_CS RX1 44 yJ6_bitCount_0f7a4 cJ6_bitCount_0f7a4 1 (some .int) 1 := ⟨⟨(Or.inl (rd_gt_of 284 rfl rfl)), (rd_gt_of 56 rfl rfl), (rd_gt_of 286 rfl rfl), by decide +kernel, by decide +kernel, by decide⟩, (rd_gt_of 285 rfl rfl)⟩
set_option maxRecDepth 100000 in
theorem kc_J6_265 : Cond.constant RJ6 265 (1431655765) ∈ rd_gt := (rd_gt_of 287 rfl rfl)
set_option maxRecDepth 100000 in
theorem kc_J6_266 : Cond.constant RJ6 266 (858993459) ∈ rd_gt := (rd_gt_of 288 rfl rfl)
set_option maxRecDepth 100000 in
theorem kc_J6_267 : Cond.constant RJ6 267 (252645135) ∈ rd_gt := (rd_gt_of 289 rfl rfl)
set_option maxRecDepth 100000 in
theorem km_X4_78 : rd_CV RX4 78 4 yX4_takeScript cX4_takeScript 1 none 0 := ⟨⟨(Or.inl (rd_gt_of 290 rfl rfl)), (rd_gt_of 46 rfl rfl), (rd_gt_of 293 rfl rfl), by decide +kernel, by decide +kernel, by decide⟩, (rd_gt_of 292 rfl rfl), (rd_gt_of 7 rfl rfl), TX4, 14, rfl, by decide⟩
set_option maxRecDepth 100000 in
theorem km_X4_243 : rd_CV RX4 243 1 yX1_orderBits cX1_orderBits 3 (some .int) 0 := ⟨⟨(Or.inl (rd_gt_of 294 rfl rfl)), (rd_gt_of 47 rfl rfl), (rd_gt_of 297 rfl rfl), by decide +kernel, by decide +kernel, by decide⟩, (rd_gt_of 295 rfl rfl), (rd_gt_of 296 rfl rfl), TX1, 6, rfl, by decide⟩
set_option maxRecDepth 100000 in
theorem km_X4_208 : rd_CV RX4 208 3 yX3_begin cX3_begin 2 none 1 := ⟨⟨(Or.inl (rd_gt_of 298 rfl rfl)), (rd_gt_of 48 rfl rfl), (rd_gt_of 301 rfl rfl), by decide +kernel, by decide +kernel, by decide⟩, (rd_gt_of 299 rfl rfl), (rd_gt_of 300 rfl rfl), TX3, 6, rfl, by decide⟩
set_option maxRecDepth 100000 in
theorem km_X3_18 : rd_CV RX3 18 3 yX3_whoAt cX3_whoAt 2 (some .int) 1 := ⟨⟨(Or.inl (rd_gt_of 302 rfl rfl)), (rd_gt_of 48 rfl rfl), (rd_gt_of 305 rfl rfl), by decide +kernel, by decide +kernel, by decide⟩, (rd_gt_of 303 rfl rfl), (rd_gt_of 304 rfl rfl), TX3, 6, rfl, by decide⟩
set_option maxRecDepth 100000 in
theorem km_X4_232 : rd_CV RX4 232 0 yX0_clear cX0_clear 1 none 0 := ⟨⟨(Or.inl (rd_gt_of 306 rfl rfl)), (rd_gt_of 49 rfl rfl), (rd_gt_of 309 rfl rfl), by decide +kernel, by decide +kernel, by decide⟩, (rd_gt_of 307 rfl rfl), (rd_gt_of 308 rfl rfl), TX0, 3, rfl, by decide⟩
set_option maxRecDepth 100000 in
theorem km_X4_81 : rd_CV RX4 81 1 yX1_clear cX1_clear 1 none 0 := ⟨⟨(Or.inl (rd_gt_of 310 rfl rfl)), (rd_gt_of 47 rfl rfl), (rd_gt_of 313 rfl rfl), by decide +kernel, by decide +kernel, by decide⟩, (rd_gt_of 311 rfl rfl), (rd_gt_of 312 rfl rfl), TX1, 6, rfl, by decide⟩
set_option maxRecDepth 100000 in
theorem kf_X4_10 : rd_FL RX4 10 4 0 := ⟨RX4, TX4, 14, tyX4, rfl, kw_X4, tyX4_ok, nmX4, rfl, by decide, by decide, (rd_gt_of 314 rfl rfl)⟩
set_option maxRecDepth 100000 in
theorem kf_X4_19 : rd_FL RX4 19 4 1 := ⟨RX4, TX4, 14, tyX4, rfl, kw_X4, tyX4_ok, nmX4, rfl, by decide, by decide, (rd_gt_of 315 rfl rfl)⟩
set_option maxRecDepth 100000 in
theorem kf_X4_23 : rd_FL RX4 23 4 2 := ⟨RX4, TX4, 14, tyX4, rfl, kw_X4, tyX4_ok, nmX4, rfl, by decide, by decide, (rd_gt_of 316 rfl rfl)⟩
set_option maxRecDepth 100000 in
theorem kf_X4_31 : rd_FL RX4 31 4 3 := ⟨RX4, TX4, 14, tyX4, rfl, kw_X4, tyX4_ok, nmX4, rfl, by decide, by decide, (rd_gt_of 317 rfl rfl)⟩
set_option maxRecDepth 100000 in
theorem kf_X4_35 : rd_FL RX4 35 4 4 := ⟨RX4, TX4, 14, tyX4, rfl, kw_X4, tyX4_ok, nmX4, rfl, by decide, by decide, (rd_gt_of 318 rfl rfl)⟩
set_option maxRecDepth 100000 in
theorem kf_X4_41 : rd_FL RX4 41 4 5 := ⟨RX4, TX4, 14, tyX4, rfl, kw_X4, tyX4_ok, nmX4, rfl, by decide, by decide, (rd_gt_of 319 rfl rfl)⟩
set_option maxRecDepth 100000 in
theorem kf_X4_45 : rd_FL RX4 45 4 6 := ⟨RX4, TX4, 14, tyX4, rfl, kw_X4, tyX4_ok, nmX4, rfl, by decide, by decide, (rd_gt_of 320 rfl rfl)⟩
set_option maxRecDepth 100000 in
theorem kf_X4_49 : rd_FL RX4 49 4 7 := ⟨RX4, TX4, 14, tyX4, rfl, kw_X4, tyX4_ok, nmX4, rfl, by decide, by decide, (rd_gt_of 321 rfl rfl)⟩
set_option maxRecDepth 100000 in
theorem kf_X4_52 : rd_FL RX4 52 4 8 := ⟨RX4, TX4, 14, tyX4, rfl, kw_X4, tyX4_ok, nmX4, rfl, by decide, by decide, (rd_gt_of 322 rfl rfl)⟩
set_option maxRecDepth 100000 in
theorem kf_X4_55 : rd_FL RX4 55 4 9 := ⟨RX4, TX4, 14, tyX4, rfl, kw_X4, tyX4_ok, nmX4, rfl, by decide, by decide, (rd_gt_of 323 rfl rfl)⟩
set_option maxRecDepth 100000 in
theorem kf_X4_190 : rd_FL RX4 190 4 10 := ⟨RX4, TX4, 14, tyX4, rfl, kw_X4, tyX4_ok, nmX4, rfl, by decide, by decide, (rd_gt_of 324 rfl rfl)⟩
set_option maxRecDepth 100000 in
theorem kf_X4_96 : rd_FL RX4 96 4 11 := ⟨RX4, TX4, 14, tyX4, rfl, kw_X4, tyX4_ok, nmX4, rfl, by decide, by decide, (rd_gt_of 325 rfl rfl)⟩
set_option maxRecDepth 100000 in
theorem kf_X4_120 : rd_FL RX4 120 4 12 := ⟨RX4, TX4, 14, tyX4, rfl, kw_X4, tyX4_ok, nmX4, rfl, by decide, by decide, (rd_gt_of 326 rfl rfl)⟩
set_option maxRecDepth 100000 in
theorem kf_X4_90 : rd_FL RX4 90 4 13 := ⟨RX4, TX4, 14, tyX4, rfl, kw_X4, tyX4_ok, nmX4, rfl, by decide, by decide, (rd_gt_of 327 rfl rfl)⟩
set_option maxRecDepth 100000 in
theorem km_L_13 : rd_CV RL 13 4 yX4_write cX4_write 2 (some .int) 1 := ⟨⟨(Or.inl (rd_gt_of 358 rfl rfl)), (rd_gt_of 46 rfl rfl), (rd_gt_of 361 rfl rfl), by decide +kernel, by decide +kernel, by decide⟩, (rd_gt_of 359 rfl rfl), (rd_gt_of 360 rfl rfl), TX4, 14, rfl, by decide⟩
set_option maxRecDepth 100000 in
theorem km_L_18 : rd_CV RL 18 4 yX4_wipe cX4_wipe 2 (some .int) 0 := ⟨⟨(Or.inl (rd_gt_of 362 rfl rfl)), (rd_gt_of 46 rfl rfl), (rd_gt_of 365 rfl rfl), by decide +kernel, by decide +kernel, by decide⟩, (rd_gt_of 363 rfl rfl), (rd_gt_of 364 rfl rfl), TX4, 14, rfl, by decide⟩
set_option maxRecDepth 100000 in
theorem km_L_23 : rd_CV RL 23 4 yX4_fault cX4_fault 1 (some .int) 0 := ⟨⟨(Or.inl (rd_gt_of 366 rfl rfl)), (rd_gt_of 46 rfl rfl), (rd_gt_of 369 rfl rfl), by decide +kernel, by decide +kernel, by decide⟩, (rd_gt_of 367 rfl rfl), (rd_gt_of 368 rfl rfl), TX4, 14, rfl, by decide⟩
set_option maxRecDepth 100000 in
theorem km_X4_87 : rd_CV RX4 87 1 yX1_firstFault cX1_firstFault 5 (some .int) 0 := ⟨⟨(Or.inl (rd_gt_of 370 rfl rfl)), (rd_gt_of 47 rfl rfl), (rd_gt_of 249 rfl rfl), by decide +kernel, by decide +kernel, by decide⟩, (rd_gt_of 247 rfl rfl), (rd_gt_of 248 rfl rfl), TX1, 6, rfl, by decide⟩
set_option maxRecDepth 100000 in
theorem km_L_27 : rd_CV RL 27 4 yX4_lay cX4_lay 1 (some .int) 0 := ⟨⟨(Or.inl (rd_gt_of 371 rfl rfl)), (rd_gt_of 46 rfl rfl), (rd_gt_of 374 rfl rfl), by decide +kernel, by decide +kernel, by decide⟩, (rd_gt_of 372 rfl rfl), (rd_gt_of 373 rfl rfl), TX4, 14, rfl, by decide⟩
set_option maxRecDepth 100000 in
theorem km_L_31 : rd_CV RL 31 4 yX4_dancer cX4_dancer 3 (some .int) 2 := ⟨⟨(Or.inl (rd_gt_of 375 rfl rfl)), (rd_gt_of 46 rfl rfl), (rd_gt_of 378 rfl rfl), by decide +kernel, by decide +kernel, by decide⟩, (rd_gt_of 376 rfl rfl), (rd_gt_of 377 rfl rfl), TX4, 14, rfl, by decide⟩
set_option maxRecDepth 100000 in
theorem km_X4_93 : rd_CS RX4 93 yX4_isDancer cX4_isDancer 1 (some .boolean) 1 := ⟨⟨(Or.inl (rd_gt_of 379 rfl rfl)), (rd_gt_of 46 rfl rfl), (rd_gt_of 381 rfl rfl), by decide +kernel, by decide +kernel, by decide⟩, (rd_gt_of 380 rfl rfl)⟩
set_option maxRecDepth 100000 in
theorem km_X4_99 : rd_CS RX4 99 yX4_kindOf cX4_kindOf 2 (some .int) 2 := ⟨⟨(Or.inl (rd_gt_of 382 rfl rfl)), (rd_gt_of 46 rfl rfl), (rd_gt_of 384 rfl rfl), by decide +kernel, by decide +kernel, by decide⟩, (rd_gt_of 383 rfl rfl)⟩
set_option maxRecDepth 100000 in
theorem km_X4_103 : rd_CV RX4 103 3 yX3_placeOf cX3_placeOf 3 (some .int) 1 := ⟨⟨(Or.inl (rd_gt_of 385 rfl rfl)), (rd_gt_of 48 rfl rfl), (rd_gt_of 388 rfl rfl), by decide +kernel, by decide +kernel, by decide⟩, (rd_gt_of 386 rfl rfl), (rd_gt_of 387 rfl rfl), TX3, 6, rfl, by decide⟩
set_option maxRecDepth 100000 in
theorem km_X4_107 : rd_CV RX4 107 3 yX3_ropeOf cX3_ropeOf 2 (some .int) 1 := ⟨⟨(Or.inl (rd_gt_of 389 rfl rfl)), (rd_gt_of 48 rfl rfl), (rd_gt_of 392 rfl rfl), by decide +kernel, by decide +kernel, by decide⟩, (rd_gt_of 390 rfl rfl), (rd_gt_of 391 rfl rfl), TX3, 6, rfl, by decide⟩
set_option maxRecDepth 100000 in
theorem km_L_36 : rd_CV RL 36 4 yX4_place cX4_place 4 (some .int) 2 := ⟨⟨(Or.inl (rd_gt_of 393 rfl rfl)), (rd_gt_of 46 rfl rfl), (rd_gt_of 396 rfl rfl), by decide +kernel, by decide +kernel, by decide⟩, (rd_gt_of 394 rfl rfl), (rd_gt_of 395 rfl rfl), TX4, 14, rfl, by decide⟩
set_option maxRecDepth 100000 in
theorem km_X4_110 : rd_CV RX4 110 3 yX3_whoAt cX3_whoAt 2 (some .int) 1 := ⟨⟨(Or.inl (rd_gt_of 397 rfl rfl)), (rd_gt_of 48 rfl rfl), (rd_gt_of 305 rfl rfl), by decide +kernel, by decide +kernel, by decide⟩, (rd_gt_of 303 rfl rfl), (rd_gt_of 304 rfl rfl), TX3, 6, rfl, by decide⟩
set_option maxRecDepth 100000 in
theorem km_L_40 : rd_CV RL 40 4 yX4_wound cX4_wound 2 (some .int) 1 := ⟨⟨(Or.inl (rd_gt_of 398 rfl rfl)), (rd_gt_of 46 rfl rfl), (rd_gt_of 401 rfl rfl), by decide +kernel, by decide +kernel, by decide⟩, (rd_gt_of 399 rfl rfl), (rd_gt_of 400 rfl rfl), TX4, 14, rfl, by decide⟩
set_option maxRecDepth 100000 in
theorem kc_X4_113 : Cond.constant RX4 113 (-100000) ∈ rd_gt := (rd_gt_of 402 rfl rfl)
set_option maxRecDepth 100000 in
theorem km_L_44 : rd_CV RL 44 4 yX4_row cX4_row 2 (some .int) 1 := ⟨⟨(Or.inl (rd_gt_of 403 rfl rfl)), (rd_gt_of 46 rfl rfl), (rd_gt_of 406 rfl rfl), by decide +kernel, by decide +kernel, by decide⟩, (rd_gt_of 404 rfl rfl), (rd_gt_of 405 rfl rfl), TX4, 14, rfl, by decide⟩
set_option maxRecDepth 100000 in
theorem km_X4_123 : rd_CS RX4 123 yX4_pairAt cX4_pairAt 2 (some .int) 2 := ⟨⟨(Or.inl (rd_gt_of 407 rfl rfl)), (rd_gt_of 46 rfl rfl), (rd_gt_of 283 rfl rfl), by decide +kernel, by decide +kernel, by decide⟩, (rd_gt_of 282 rfl rfl)⟩
set_option maxRecDepth 100000 in
theorem km_L_48 : rd_CV RL 48 4 yX4_dance cX4_dance 3 (some .int) 1 := ⟨⟨(Or.inl (rd_gt_of 408 rfl rfl)), (rd_gt_of 46 rfl rfl), (rd_gt_of 411 rfl rfl), by decide +kernel, by decide +kernel, by decide⟩, (rd_gt_of 409 rfl rfl), (rd_gt_of 410 rfl rfl), TX4, 14, rfl, by decide⟩
set_option maxRecDepth 100000 in
theorem km_X4_126 : rd_CV RX4 126 3 yX3_twistsOf cX3_twistsOf 5 (some .int) 2 := ⟨⟨(Or.inl (rd_gt_of 412 rfl rfl)), (rd_gt_of 48 rfl rfl), (rd_gt_of 415 rfl rfl), by decide +kernel, by decide +kernel, by decide⟩, (rd_gt_of 413 rfl rfl), (rd_gt_of 414 rfl rfl), TX3, 6, rfl, by decide⟩
set_option maxRecDepth 100000 in
theorem km_X3_34 : rd_CS RX3 34 yX4_kindOf cX4_kindOf 2 (some .int) 2 := ⟨⟨(Or.inr ⟨"RopeDance", rd_nw_of 416 rfl⟩), (rd_gt_of 46 rfl rfl), (rd_gt_of 384 rfl rfl), by decide +kernel, by decide +kernel, by decide⟩, (rd_gt_of 383 rfl rfl)⟩
set_option maxRecDepth 100000 in
theorem km_X3_38 : rd_CV RX3 38 3 yX3_ropeOf cX3_ropeOf 2 (some .int) 1 := ⟨⟨(Or.inl (rd_gt_of 417 rfl rfl)), (rd_gt_of 48 rfl rfl), (rd_gt_of 392 rfl rfl), by decide +kernel, by decide +kernel, by decide⟩, (rd_gt_of 390 rfl rfl), (rd_gt_of 391 rfl rfl), TX3, 6, rfl, by decide⟩
set_option maxRecDepth 100000 in
theorem km_X4_129 : rd_CV RX4 129 3 yX3_isTooTight cX3_isTooTight 2 (some .boolean) 1 := ⟨⟨(Or.inl (rd_gt_of 418 rfl rfl)), (rd_gt_of 48 rfl rfl), (rd_gt_of 421 rfl rfl), by decide +kernel, by decide +kernel, by decide⟩, (rd_gt_of 419 rfl rfl), (rd_gt_of 420 rfl rfl), TX3, 6, rfl, by decide⟩
set_option maxRecDepth 100000 in
theorem kl_X3_41 : Cond.methodLink RX3 41 Lib.Math.abs.name ∈ rd_gt := (rd_gt_of 422 rfl rfl)
set_option maxRecDepth 100000 in
theorem km_X4_132 : rd_CV RX4 132 0 yX0_push cX0_push 2 none 1 := ⟨⟨(Or.inl (rd_gt_of 425 rfl rfl)), (rd_gt_of 49 rfl rfl), (rd_gt_of 428 rfl rfl), by decide +kernel, by decide +kernel, by decide⟩, (rd_gt_of 426 rfl rfl), (rd_gt_of 427 rfl rfl), TX0, 3, rfl, by decide⟩
set_option maxRecDepth 100000 in
theorem km_X0_29 : rd_CV RX0 29 3 yX3_take cX3_take 2 none 1 := ⟨⟨(Or.inl (rd_gt_of 429 rfl rfl)), (rd_gt_of 48 rfl rfl), (rd_gt_of 432 rfl rfl), by decide +kernel, by decide +kernel, by decide⟩, (rd_gt_of 430 rfl rfl), (rd_gt_of 431 rfl rfl), TX3, 6, rfl, by decide⟩
set_option maxRecDepth 100000 in
theorem kl_X0_33 : Cond.methodLink RX0 33 Lib.Math.min.name ∈ rd_gt := (rd_gt_of 433 rfl rfl)
set_option maxRecDepth 100000 in
theorem km_X4_136 : rd_CV RX4 136 3 yX3_step cX3_step 4 (some .boolean) 2 := ⟨⟨(Or.inl (rd_gt_of 436 rfl rfl)), (rd_gt_of 48 rfl rfl), (rd_gt_of 439 rfl rfl), by decide +kernel, by decide +kernel, by decide⟩, (rd_gt_of 437 rfl rfl), (rd_gt_of 438 rfl rfl), TX3, 6, rfl, by decide⟩
set_option maxRecDepth 100000 in
theorem km_X3_46 : rd_CV RX3 46 3 yX3_twistsOf cX3_twistsOf 5 (some .int) 2 := ⟨⟨(Or.inl (rd_gt_of 440 rfl rfl)), (rd_gt_of 48 rfl rfl), (rd_gt_of 415 rfl rfl), by decide +kernel, by decide +kernel, by decide⟩, (rd_gt_of 413 rfl rfl), (rd_gt_of 414 rfl rfl), TX3, 6, rfl, by decide⟩
set_option maxRecDepth 100000 in
theorem km_X3_49 : rd_CV RX3 49 3 yX3_isTooTight cX3_isTooTight 2 (some .boolean) 1 := ⟨⟨(Or.inl (rd_gt_of 441 rfl rfl)), (rd_gt_of 48 rfl rfl), (rd_gt_of 421 rfl rfl), by decide +kernel, by decide +kernel, by decide⟩, (rd_gt_of 419 rfl rfl), (rd_gt_of 420 rfl rfl), TX3, 6, rfl, by decide⟩
set_option maxRecDepth 100000 in
theorem km_X3_53 : rd_CV RX3 53 3 yX3_turnAll cX3_turnAll 2 none 0 := ⟨⟨(Or.inl (rd_gt_of 442 rfl rfl)), (rd_gt_of 48 rfl rfl), (rd_gt_of 445 rfl rfl), by decide +kernel, by decide +kernel, by decide⟩, (rd_gt_of 444 rfl rfl), (rd_gt_of 8 rfl rfl), TX3, 6, rfl, by decide⟩
set_option maxRecDepth 100000 in
theorem km_X3_56 : rd_CV RX3 56 3 yX3_swapPlaces cX3_swapPlaces 4 none 2 := ⟨⟨(Or.inl (rd_gt_of 446 rfl rfl)), (rd_gt_of 48 rfl rfl), (rd_gt_of 449 rfl rfl), by decide +kernel, by decide +kernel, by decide⟩, (rd_gt_of 448 rfl rfl), (rd_gt_of 9 rfl rfl), TX3, 6, rfl, by decide⟩
set_option maxRecDepth 100000 in
theorem km_L_52 : rd_CV RL 52 4 yX4_put cX4_put 3 (some .int) 2 := ⟨⟨(Or.inl (rd_gt_of 450 rfl rfl)), (rd_gt_of 46 rfl rfl), (rd_gt_of 453 rfl rfl), by decide +kernel, by decide +kernel, by decide⟩, (rd_gt_of 451 rfl rfl), (rd_gt_of 452 rfl rfl), TX4, 14, rfl, by decide⟩
set_option maxRecDepth 100000 in
theorem km_X4_140 : rd_CS RX4 140 yX4_areTwo cX4_areTwo 2 (some .boolean) 2 := ⟨⟨(Or.inl (rd_gt_of 454 rfl rfl)), (rd_gt_of 46 rfl rfl), (rd_gt_of 456 rfl rfl), by decide +kernel, by decide +kernel, by decide⟩, (rd_gt_of 455 rfl rfl)⟩
set_option maxRecDepth 100000 in
theorem km_X4_143 : rd_CV RX4 143 3 yX3_exchange cX3_exchange 4 none 2 := ⟨⟨(Or.inl (rd_gt_of 457 rfl rfl)), (rd_gt_of 48 rfl rfl), (rd_gt_of 460 rfl rfl), by decide +kernel, by decide +kernel, by decide⟩, (rd_gt_of 458 rfl rfl), (rd_gt_of 459 rfl rfl), TX3, 6, rfl, by decide⟩
set_option maxRecDepth 100000 in
theorem km_X3_60 : rd_CV RX3 60 3 yX3_placeOf cX3_placeOf 3 (some .int) 1 := ⟨⟨(Or.inl (rd_gt_of 461 rfl rfl)), (rd_gt_of 48 rfl rfl), (rd_gt_of 388 rfl rfl), by decide +kernel, by decide +kernel, by decide⟩, (rd_gt_of 386 rfl rfl), (rd_gt_of 387 rfl rfl), TX3, 6, rfl, by decide⟩
set_option maxRecDepth 100000 in
theorem km_L_56 : rd_CV RL 56 4 yX4_undo cX4_undo 1 (some .int) 0 := ⟨⟨(Or.inl (rd_gt_of 462 rfl rfl)), (rd_gt_of 46 rfl rfl), (rd_gt_of 465 rfl rfl), by decide +kernel, by decide +kernel, by decide⟩, (rd_gt_of 463 rfl rfl), (rd_gt_of 464 rfl rfl), TX4, 14, rfl, by decide⟩
set_option maxRecDepth 100000 in
theorem km_X4_147 : rd_CV RX4 147 0 yX0_pop cX0_pop 2 (some .boolean) 1 := ⟨⟨(Or.inl (rd_gt_of 466 rfl rfl)), (rd_gt_of 49 rfl rfl), (rd_gt_of 469 rfl rfl), by decide +kernel, by decide +kernel, by decide⟩, (rd_gt_of 467 rfl rfl), (rd_gt_of 468 rfl rfl), TX0, 3, rfl, by decide⟩
set_option maxRecDepth 100000 in
theorem km_L_60 : rd_CV RL 60 4 yX4_free cX4_free 2 (some .int) 1 := ⟨⟨(Or.inl (rd_gt_of 470 rfl rfl)), (rd_gt_of 46 rfl rfl), (rd_gt_of 473 rfl rfl), by decide +kernel, by decide +kernel, by decide⟩, (rd_gt_of 471 rfl rfl), (rd_gt_of 472 rfl rfl), TX4, 14, rfl, by decide⟩
set_option maxRecDepth 100000 in
theorem km_X4_154 : rd_CS RX4 154 yX4_isRowIndex cX4_isRowIndex 1 (some .boolean) 1 := ⟨⟨(Or.inl (rd_gt_of 474 rfl rfl)), (rd_gt_of 46 rfl rfl), (rd_gt_of 476 rfl rfl), by decide +kernel, by decide +kernel, by decide⟩, (rd_gt_of 475 rfl rfl)⟩
set_option maxRecDepth 100000 in
theorem km_X4_157 : rd_CV RX4 157 2 yX2_aimAtWound cX2_aimAtWound 3 none 2 := ⟨⟨(Or.inl (rd_gt_of 477 rfl rfl)), (rd_gt_of 51 rfl rfl), (rd_gt_of 480 rfl rfl), by decide +kernel, by decide +kernel, by decide⟩, (rd_gt_of 478 rfl rfl), (rd_gt_of 479 rfl rfl), TX2, 9, rfl, by decide⟩
set_option maxRecDepth 100000 in
theorem km_X4_160 : rd_CV RX4 160 4 yX4_figureOfFewest cX4_figureOfFewest 2 (some .int) 1 := ⟨⟨(Or.inl (rd_gt_of 481 rfl rfl)), (rd_gt_of 46 rfl rfl), (rd_gt_of 484 rfl rfl), by decide +kernel, by decide +kernel, by decide⟩, (rd_gt_of 483 rfl rfl), (rd_gt_of 10 rfl rfl), TX4, 14, rfl, by decide⟩
set_option maxRecDepth 100000 in
theorem km_X4_169 : rd_CV RX4 169 2 yX2_startFrom cX2_startFrom 3 none 2 := ⟨⟨(Or.inl (rd_gt_of 485 rfl rfl)), (rd_gt_of 51 rfl rfl), (rd_gt_of 488 rfl rfl), by decide +kernel, by decide +kernel, by decide⟩, (rd_gt_of 486 rfl rfl), (rd_gt_of 487 rfl rfl), TX2, 9, rfl, by decide⟩
set_option maxRecDepth 100000 in
theorem km_X2_35 : rd_CV RX2 35 3 yX3_take cX3_take 2 none 1 := ⟨⟨(Or.inl (rd_gt_of 489 rfl rfl)), (rd_gt_of 48 rfl rfl), (rd_gt_of 432 rfl rfl), by decide +kernel, by decide +kernel, by decide⟩, (rd_gt_of 430 rfl rfl), (rd_gt_of 431 rfl rfl), TX3, 6, rfl, by decide⟩
set_option maxRecDepth 100000 in
theorem km_X4_246 : rd_CS RX4 246 yX2_seek cX2_seek 4 none 3 := ⟨⟨(Or.inr ⟨"RopeDance", rd_nw_of 490 rfl⟩), (rd_gt_of 51 rfl rfl), (rd_gt_of 492 rfl rfl), by decide +kernel, by decide +kernel, by decide⟩, (rd_gt_of 491 rfl rfl)⟩
set_option maxRecDepth 100000 in
theorem km_X2_74 : rd_CV RX2 74 2 yX2_isAtGoal cX2_isAtGoal 3 (some .boolean) 1 := ⟨⟨(Or.inl (rd_gt_of 493 rfl rfl)), (rd_gt_of 51 rfl rfl), (rd_gt_of 496 rfl rfl), by decide +kernel, by decide +kernel, by decide⟩, (rd_gt_of 495 rfl rfl), (rd_gt_of 11 rfl rfl), TX2, 9, rfl, by decide⟩
set_option maxRecDepth 100000 in
theorem km_X2_48 : rd_CV RX2 48 3 yX3_placeOf cX3_placeOf 3 (some .int) 1 := ⟨⟨(Or.inl (rd_gt_of 497 rfl rfl)), (rd_gt_of 48 rfl rfl), (rd_gt_of 388 rfl rfl), by decide +kernel, by decide +kernel, by decide⟩, (rd_gt_of 386 rfl rfl), (rd_gt_of 387 rfl rfl), TX3, 6, rfl, by decide⟩
set_option maxRecDepth 100000 in
theorem km_X2_52 : rd_CV RX2 52 3 yX3_isWoundAs cX3_isWoundAs 3 (some .boolean) 2 := ⟨⟨(Or.inl (rd_gt_of 498 rfl rfl)), (rd_gt_of 48 rfl rfl), (rd_gt_of 501 rfl rfl), by decide +kernel, by decide +kernel, by decide⟩, (rd_gt_of 499 rfl rfl), (rd_gt_of 500 rfl rfl), TX3, 6, rfl, by decide⟩
set_option maxRecDepth 100000 in
theorem km_X2_78 : rd_CV RX2 78 2 yX2_goOn cX2_goOn 3 (some .boolean) 2 := ⟨⟨(Or.inl (rd_gt_of 502 rfl rfl)), (rd_gt_of 51 rfl rfl), (rd_gt_of 505 rfl rfl), by decide +kernel, by decide +kernel, by decide⟩, (rd_gt_of 504 rfl rfl), (rd_gt_of 12 rfl rfl), TX2, 9, rfl, by decide⟩
set_option maxRecDepth 100000 in
theorem km_X2_56 : rd_CV RX2 56 3 yX3_step cX3_step 4 (some .boolean) 2 := ⟨⟨(Or.inl (rd_gt_of 506 rfl rfl)), (rd_gt_of 48 rfl rfl), (rd_gt_of 439 rfl rfl), by decide +kernel, by decide +kernel, by decide⟩, (rd_gt_of 437 rfl rfl), (rd_gt_of 438 rfl rfl), TX3, 6, rfl, by decide⟩
set_option maxRecDepth 100000 in
theorem km_X2_81 : rd_CS RX2 81 yX2_seek cX2_seek 4 none 3 := ⟨⟨(Or.inl (rd_gt_of 507 rfl rfl)), (rd_gt_of 51 rfl rfl), (rd_gt_of 492 rfl rfl), by decide +kernel, by decide +kernel, by decide⟩, (rd_gt_of 491 rfl rfl)⟩
set_option maxRecDepth 100000 in
theorem km_X4_250 : rd_CV RX4 250 2 yX2_isFound cX2_isFound 1 (some .boolean) 0 := ⟨⟨(Or.inl (rd_gt_of 508 rfl rfl)), (rd_gt_of 51 rfl rfl), (rd_gt_of 511 rfl rfl), by decide +kernel, by decide +kernel, by decide⟩, (rd_gt_of 509 rfl rfl), (rd_gt_of 510 rfl rfl), TX2, 9, rfl, by decide⟩
set_option maxRecDepth 100000 in
theorem km_L_64 : rd_CV RL 64 4 yX4_reach cX4_reach 4 (some .int) 3 := ⟨⟨(Or.inl (rd_gt_of 512 rfl rfl)), (rd_gt_of 46 rfl rfl), (rd_gt_of 515 rfl rfl), by decide +kernel, by decide +kernel, by decide⟩, (rd_gt_of 513 rfl rfl), (rd_gt_of 514 rfl rfl), TX4, 14, rfl, by decide⟩
set_option maxRecDepth 100000 in
theorem km_X4_163 : rd_CS RX4 163 yX4_isFraction cX4_isFraction 2 (some .boolean) 2 := ⟨⟨(Or.inl (rd_gt_of 516 rfl rfl)), (rd_gt_of 46 rfl rfl), (rd_gt_of 518 rfl rfl), by decide +kernel, by decide +kernel, by decide⟩, (rd_gt_of 517 rfl rfl)⟩
set_option maxRecDepth 100000 in
theorem kl_X4_285 : Cond.methodLink RX4 285 Lib.Math.abs.name ∈ rd_gt := (rd_gt_of 519 rfl rfl)
set_option maxRecDepth 100000 in
theorem km_X4_223 : rd_CS RX4 223 yX4_commonDivisor cX4_commonDivisor 6 (some .int) 2 := ⟨⟨(Or.inl (rd_gt_of 520 rfl rfl)), (rd_gt_of 46 rfl rfl), (rd_gt_of 522 rfl rfl), by decide +kernel, by decide +kernel, by decide⟩, (rd_gt_of 521 rfl rfl)⟩
set_option maxRecDepth 100000 in
theorem km_L_69 : rd_CV RL 69 4 yX4_meet cX4_meet 4 (some .int) 3 := ⟨⟨(Or.inl (rd_gt_of 523 rfl rfl)), (rd_gt_of 46 rfl rfl), (rd_gt_of 526 rfl rfl), by decide +kernel, by decide +kernel, by decide⟩, (rd_gt_of 524 rfl rfl), (rd_gt_of 525 rfl rfl), TX4, 14, rfl, by decide⟩
set_option maxRecDepth 100000 in
theorem km_X4_166 : rd_CV RX4 166 2 yX2_aimAtMeeting cX2_aimAtMeeting 3 none 2 := ⟨⟨(Or.inl (rd_gt_of 527 rfl rfl)), (rd_gt_of 51 rfl rfl), (rd_gt_of 530 rfl rfl), by decide +kernel, by decide +kernel, by decide⟩, (rd_gt_of 528 rfl rfl), (rd_gt_of 529 rfl rfl), TX2, 9, rfl, by decide⟩
set_option maxRecDepth 100000 in
theorem km_L_73 : rd_CV RL 73 4 yX4_ways cX4_ways 2 (some .int) 1 := ⟨⟨(Or.inl (rd_gt_of 531 rfl rfl)), (rd_gt_of 46 rfl rfl), (rd_gt_of 534 rfl rfl), by decide +kernel, by decide +kernel, by decide⟩, (rd_gt_of 532 rfl rfl), (rd_gt_of 533 rfl rfl), TX4, 14, rfl, by decide⟩
set_option maxRecDepth 100000 in
theorem km_X4_173 : rd_CS RX4 173 yX2_rowsFrom cX2_rowsFrom 5 (some .int) 3 := ⟨⟨(Or.inr ⟨"RopeDance", rd_nw_of 535 rfl⟩), (rd_gt_of 51 rfl rfl), (rd_gt_of 537 rfl rfl), by decide +kernel, by decide +kernel, by decide⟩, (rd_gt_of 536 rfl rfl)⟩
set_option maxRecDepth 100000 in
theorem km_X2_85 : rd_CS RX2 85 yX2_rowsFrom cX2_rowsFrom 5 (some .int) 3 := ⟨⟨(Or.inl (rd_gt_of 538 rfl rfl)), (rd_gt_of 51 rfl rfl), (rd_gt_of 537 rfl rfl), by decide +kernel, by decide +kernel, by decide⟩, (rd_gt_of 536 rfl rfl)⟩
set_option maxRecDepth 100000 in
theorem km_L_77 : rd_CV RL 77 4 yX4_plain cX4_plain 2 (some .int) 0 := ⟨⟨(Or.inl (rd_gt_of 539 rfl rfl)), (rd_gt_of 46 rfl rfl), (rd_gt_of 542 rfl rfl), by decide +kernel, by decide +kernel, by decide⟩, (rd_gt_of 540 rfl rfl), (rd_gt_of 541 rfl rfl), TX4, 14, rfl, by decide⟩
set_option maxRecDepth 100000 in
theorem km_X4_177 : rd_CV RX4 177 3 yX3_take cX3_take 2 none 1 := ⟨⟨(Or.inl (rd_gt_of 543 rfl rfl)), (rd_gt_of 48 rfl rfl), (rd_gt_of 432 rfl rfl), by decide +kernel, by decide +kernel, by decide⟩, (rd_gt_of 430 rfl rfl), (rd_gt_of 431 rfl rfl), TX3, 6, rfl, by decide⟩
set_option maxRecDepth 100000 in
theorem km_L_81 : rd_CV RL 81 4 yX4_comes cX4_comes 2 (some .int) 1 := ⟨⟨(Or.inl (rd_gt_of 544 rfl rfl)), (rd_gt_of 46 rfl rfl), (rd_gt_of 547 rfl rfl), by decide +kernel, by decide +kernel, by decide⟩, (rd_gt_of 545 rfl rfl), (rd_gt_of 546 rfl rfl), TX4, 14, rfl, by decide⟩
set_option maxRecDepth 100000 in
theorem km_X4_180 : rd_CV RX4 180 4 yX4_tryRow cX4_tryRow 5 (some .boolean) 2 := ⟨⟨(Or.inl (rd_gt_of 548 rfl rfl)), (rd_gt_of 46 rfl rfl), (rd_gt_of 551 rfl rfl), by decide +kernel, by decide +kernel, by decide⟩, (rd_gt_of 550 rfl rfl), (rd_gt_of 13 rfl rfl), TX4, 14, rfl, by decide⟩
set_option maxRecDepth 100000 in
theorem kl_X4_214 : Cond.methodLink RX4 214 Lib.Math.min.name ∈ rd_gt := (rd_gt_of 552 rfl rfl)
set_option maxRecDepth 100000 in
theorem km_L_85 : rd_CV RL 85 4 yX4_behind cX4_behind 3 (some .int) 2 := ⟨⟨(Or.inl (rd_gt_of 553 rfl rfl)), (rd_gt_of 46 rfl rfl), (rd_gt_of 556 rfl rfl), by decide +kernel, by decide +kernel, by decide⟩, (rd_gt_of 554 rfl rfl), (rd_gt_of 555 rfl rfl), TX4, 14, rfl, by decide⟩
set_option maxRecDepth 100000 in
theorem km_X4_186 : rd_CS RX4 186 yX4_isRowLength cX4_isRowLength 1 (some .boolean) 1 := ⟨⟨(Or.inl (rd_gt_of 557 rfl rfl)), (rd_gt_of 46 rfl rfl), (rd_gt_of 559 rfl rfl), by decide +kernel, by decide +kernel, by decide⟩, (rd_gt_of 558 rfl rfl)⟩
set_option maxRecDepth 100000 in
theorem kc_X4_189 : Cond.constant RX4 189 (-100001) ∈ rd_gt := (rd_gt_of 560 rfl rfl)
set_option maxRecDepth 100000 in
theorem km_L_89 : rd_CV RL 89 4 yX4_see cX4_see 4 (some .int) 3 := ⟨⟨(Or.inl (rd_gt_of 561 rfl rfl)), (rd_gt_of 46 rfl rfl), (rd_gt_of 564 rfl rfl), by decide +kernel, by decide +kernel, by decide⟩, (rd_gt_of 562 rfl rfl), (rd_gt_of 563 rfl rfl), TX4, 14, rfl, by decide⟩
set_option maxRecDepth 100000 in
theorem km_L_93 : rd_CV RL 93 4 yX4_forget cX4_forget 2 (some .int) 0 := ⟨⟨(Or.inl (rd_gt_of 565 rfl rfl)), (rd_gt_of 46 rfl rfl), (rd_gt_of 568 rfl rfl), by decide +kernel, by decide +kernel, by decide⟩, (rd_gt_of 566 rfl rfl), (rd_gt_of 567 rfl rfl), TX4, 14, rfl, by decide⟩
set_option maxRecDepth 100000 in
theorem km_L_97 : rd_CV RL 97 4 yX4_kinds cX4_kinds 2 (some .int) 1 := ⟨⟨(Or.inl (rd_gt_of 569 rfl rfl)), (rd_gt_of 46 rfl rfl), (rd_gt_of 572 rfl rfl), by decide +kernel, by decide +kernel, by decide⟩, (rd_gt_of 570 rfl rfl), (rd_gt_of 571 rfl rfl), TX4, 14, rfl, by decide⟩
set_option maxRecDepth 100000 in
theorem km_X4_193 : rd_CV RX4 193 4 yX4_possibleKinds cX4_possibleKinds 4 (some .int) 1 := ⟨⟨(Or.inl (rd_gt_of 573 rfl rfl)), (rd_gt_of 46 rfl rfl), (rd_gt_of 576 rfl rfl), by decide +kernel, by decide +kernel, by decide⟩, (rd_gt_of 575 rfl rfl), (rd_gt_of 14 rfl rfl), TX4, 14, rfl, by decide⟩
set_option maxRecDepth 100000 in
theorem km_X4_259 : rd_CS RX4 259 yX4_withKind cX4_withKind 3 (some .int) 3 := ⟨⟨(Or.inl (rd_gt_of 577 rfl rfl)), (rd_gt_of 46 rfl rfl), (rd_gt_of 276 rfl rfl), by decide +kernel, by decide +kernel, by decide⟩, (rd_gt_of 275 rfl rfl)⟩
set_option maxRecDepth 100000 in
theorem km_X4_262 : rd_CV RX4 262 4 yX4_explainsSeen cX4_explainsSeen 3 (some .boolean) 1 := ⟨⟨(Or.inl (rd_gt_of 578 rfl rfl)), (rd_gt_of 46 rfl rfl), (rd_gt_of 581 rfl rfl), by decide +kernel, by decide +kernel, by decide⟩, (rd_gt_of 580 rfl rfl), (rd_gt_of 15 rfl rfl), TX4, 14, rfl, by decide⟩
set_option maxRecDepth 100000 in
theorem km_X4_265 : rd_CV RX4 265 3 yX3_isWoundAs cX3_isWoundAs 3 (some .boolean) 2 := ⟨⟨(Or.inl (rd_gt_of 582 rfl rfl)), (rd_gt_of 48 rfl rfl), (rd_gt_of 501 rfl rfl), by decide +kernel, by decide +kernel, by decide⟩, (rd_gt_of 499 rfl rfl), (rd_gt_of 500 rfl rfl), TX3, 6, rfl, by decide⟩
set_option maxRecDepth 100000 in
theorem km_L_101 : rd_CV RL 101 4 yX4_look cX4_look 8 (some .int) 2 := ⟨⟨(Or.inl (rd_gt_of 583 rfl rfl)), (rd_gt_of 46 rfl rfl), (rd_gt_of 586 rfl rfl), by decide +kernel, by decide +kernel, by decide⟩, (rd_gt_of 584 rfl rfl), (rd_gt_of 585 rfl rfl), TX4, 14, rfl, by decide⟩
set_option maxRecDepth 100000 in
theorem km_X4_196 : rd_CS RX4 196 yJ6_bitCount_0f7a4 cJ6_bitCount_0f7a4 1 (some .int) 1 := ⟨⟨(Or.inl (rd_gt_of 587 rfl rfl)), (rd_gt_of 56 rfl rfl), (rd_gt_of 286 rfl rfl), by decide +kernel, by decide +kernel, by decide⟩, (rd_gt_of 285 rfl rfl)⟩
set_option maxRecDepth 100000 in
theorem km_X4_201 : rd_CV RX4 201 4 yX4_greatestPart cX4_greatestPart 7 (some .int) 3 := ⟨⟨(Or.inl (rd_gt_of 588 rfl rfl)), (rd_gt_of 46 rfl rfl), (rd_gt_of 591 rfl rfl), by decide +kernel, by decide +kernel, by decide⟩, (rd_gt_of 590 rfl rfl), (rd_gt_of 16 rfl rfl), TX4, 14, rfl, by decide⟩
set_option maxRecDepth 100000 in
theorem km_X4_268 : rd_CV RX4 268 3 yX3_woundCode cX3_woundCode 1 (some .int) 0 := ⟨⟨(Or.inl (rd_gt_of 592 rfl rfl)), (rd_gt_of 48 rfl rfl), (rd_gt_of 595 rfl rfl), by decide +kernel, by decide +kernel, by decide⟩, (rd_gt_of 593 rfl rfl), (rd_gt_of 594 rfl rfl), TX3, 6, rfl, by decide⟩
set_option maxRecDepth 100000 in
theorem kc_X4_271 : Cond.constant RX4 271 (1000000000) ∈ rd_gt := (rd_gt_of 596 rfl rfl)
set_option maxRecDepth 100000 in
theorem kc_X4_272 : Cond.constant RX4 272 (1000000001) ∈ rd_gt := (rd_gt_of 597 rfl rfl)
set_option maxRecDepth 100000 in
theorem km_X4_273 : rd_CV RX4 273 4 yX4_partOf cX4_partOf 4 (some .int) 1 := ⟨⟨(Or.inl (rd_gt_of 598 rfl rfl)), (rd_gt_of 46 rfl rfl), (rd_gt_of 601 rfl rfl), by decide +kernel, by decide +kernel, by decide⟩, (rd_gt_of 600 rfl rfl), (rd_gt_of 17 rfl rfl), TX4, 14, rfl, by decide⟩
set_option maxRecDepth 100000 in
theorem kl_X4_276 : Cond.methodLink RX4 276 Lib.Math.max.name ∈ rd_gt := (rd_gt_of 602 rfl rfl)
set_option maxRecDepth 100000 in
theorem km_L_105 : rd_CV RL 105 4 yX4_danced cX4_danced 2 (some .int) 1 := ⟨⟨(Or.inl (rd_gt_of 603 rfl rfl)), (rd_gt_of 46 rfl rfl), (rd_gt_of 606 rfl rfl), by decide +kernel, by decide +kernel, by decide⟩, (rd_gt_of 604 rfl rfl), (rd_gt_of 605 rfl rfl), TX4, 14, rfl, by decide⟩
set_option maxRecDepth 100000 in
theorem km_L_109 : rd_CV RL 109 4 yX4_duel cX4_duel 2 (some .int) 1 := ⟨⟨(Or.inl (rd_gt_of 607 rfl rfl)), (rd_gt_of 46 rfl rfl), (rd_gt_of 610 rfl rfl), by decide +kernel, by decide +kernel, by decide⟩, (rd_gt_of 608 rfl rfl), (rd_gt_of 609 rfl rfl), TX4, 14, rfl, by decide⟩
set_option maxRecDepth 100000 in
theorem km_X4_211 : rd_CS RX4 211 yX2_bestFrom cX2_bestFrom 5 (some .int) 3 := ⟨⟨(Or.inr ⟨"RopeDance", rd_nw_of 611 rfl⟩), (rd_gt_of 51 rfl rfl), (rd_gt_of 613 rfl rfl), by decide +kernel, by decide +kernel, by decide⟩, (rd_gt_of 612 rfl rfl)⟩
set_option maxRecDepth 100000 in
theorem km_X2_89 : rd_CV RX2 89 2 yX2_greaterPart cX2_greaterPart 2 (some .int) 1 := ⟨⟨(Or.inl (rd_gt_of 614 rfl rfl)), (rd_gt_of 51 rfl rfl), (rd_gt_of 617 rfl rfl), by decide +kernel, by decide +kernel, by decide⟩, (rd_gt_of 616 rfl rfl), (rd_gt_of 18 rfl rfl), TX2, 9, rfl, by decide⟩
set_option maxRecDepth 100000 in
theorem kl_X2_62 : Cond.methodLink RX2 62 Lib.Math.abs.name ∈ rd_gt := (rd_gt_of 618 rfl rfl)
set_option maxRecDepth 100000 in
theorem kl_X2_70 : Cond.methodLink RX2 70 Lib.Math.max.name ∈ rd_gt := (rd_gt_of 619 rfl rfl)
set_option maxRecDepth 100000 in
theorem km_X2_92 : rd_CS RX2 92 yX2_bestFrom cX2_bestFrom 5 (some .int) 3 := ⟨⟨(Or.inl (rd_gt_of 620 rfl rfl)), (rd_gt_of 51 rfl rfl), (rd_gt_of 613 rfl rfl), by decide +kernel, by decide +kernel, by decide⟩, (rd_gt_of 612 rfl rfl)⟩
set_option maxRecDepth 100000 in
theorem km_X2_95 : rd_CS RX2 95 yX2_better cX2_better 3 (some .int) 3 := ⟨⟨(Or.inl (rd_gt_of 621 rfl rfl)), (rd_gt_of 51 rfl rfl), (rd_gt_of 623 rfl rfl), by decide +kernel, by decide +kernel, by decide⟩, (rd_gt_of 622 rfl rfl)⟩
set_option maxRecDepth 100000 in
theorem kl_X2_99 : Cond.methodLink RX2 99 Lib.Math.min.name ∈ rd_gt := (rd_gt_of 624 rfl rfl)
set_option maxRecDepth 100000 in
theorem km_L_113 : rd_CV RL 113 4 yX4_odds cX4_odds 8 (some .int) 3 := ⟨⟨(Or.inl (rd_gt_of 625 rfl rfl)), (rd_gt_of 46 rfl rfl), (rd_gt_of 628 rfl rfl), by decide +kernel, by decide +kernel, by decide⟩, (rd_gt_of 626 rfl rfl), (rd_gt_of 627 rfl rfl), TX4, 14, rfl, by decide⟩
set_option maxRecDepth 100000 in
theorem km_X4_219 : rd_CS RX4 219 yX2_chanceFrom cX2_chanceFrom 7 (some .int) 5 := ⟨⟨(Or.inr ⟨"RopeDance", rd_nw_of 629 rfl⟩), (rd_gt_of 51 rfl rfl), (rd_gt_of 631 rfl rfl), by decide +kernel, by decide +kernel, by decide⟩, (rd_gt_of 630 rfl rfl)⟩
set_option maxRecDepth 100000 in
theorem km_X2_102 : rd_CS RX2 102 yX2_chanceFrom cX2_chanceFrom 7 (some .int) 5 := ⟨⟨(Or.inl (rd_gt_of 632 rfl rfl)), (rd_gt_of 51 rfl rfl), (rd_gt_of 631 rfl rfl), by decide +kernel, by decide +kernel, by decide⟩, (rd_gt_of 630 rfl rfl)⟩
set_option maxRecDepth 100000 in
theorem km_X2_106 : rd_CS RX2 106 yX4_pairAt cX4_pairAt 2 (some .int) 2 := ⟨⟨(Or.inr ⟨"RopeDance", rd_nw_of 633 rfl⟩), (rd_gt_of 46 rfl rfl), (rd_gt_of 283 rfl rfl), by decide +kernel, by decide +kernel, by decide⟩, (rd_gt_of 282 rfl rfl)⟩
set_option maxRecDepth 100000 in
theorem km_L_117 : rd_CV RL 117 4 yX4_evening cX4_evening 8 (some .int) 3 := ⟨⟨(Or.inl (rd_gt_of 634 rfl rfl)), (rd_gt_of 46 rfl rfl), (rd_gt_of 637 rfl rfl), by decide +kernel, by decide +kernel, by decide⟩, (rd_gt_of 635 rfl rfl), (rd_gt_of 636 rfl rfl), TX4, 14, rfl, by decide⟩
set_option maxRecDepth 100000 in
theorem km_X4_226 : rd_CS RX4 226 yX4_drawOf cX4_drawOf 4 (some .int) 2 := ⟨⟨(Or.inl (rd_gt_of 638 rfl rfl)), (rd_gt_of 46 rfl rfl), (rd_gt_of 640 rfl rfl), by decide +kernel, by decide +kernel, by decide⟩, (rd_gt_of 639 rfl rfl)⟩
set_option maxRecDepth 100000 in
theorem kc_X4_279 : Cond.constantLong RX4 279 (7919) ∈ rd_gt := (rd_gt_of 641 rfl rfl)
set_option maxRecDepth 100000 in
theorem kc_X4_281 : Cond.constantLong RX4 281 (6151) ∈ rd_gt := (rd_gt_of 642 rfl rfl)
set_option maxRecDepth 100000 in
theorem kc_X4_283 : Cond.constantLong RX4 283 (65521) ∈ rd_gt := (rd_gt_of 643 rfl rfl)
set_option maxRecDepth 100000 in
theorem km_L_121 : rd_CV RL 121 4 yX4_keep cX4_keep 1 (some .int) 0 := ⟨⟨(Or.inl (rd_gt_of 644 rfl rfl)), (rd_gt_of 46 rfl rfl), (rd_gt_of 647 rfl rfl), by decide +kernel, by decide +kernel, by decide⟩, (rd_gt_of 645 rfl rfl), (rd_gt_of 646 rfl rfl), TX4, 14, rfl, by decide⟩
set_option maxRecDepth 100000 in
theorem km_X4_229 : rd_CV RX4 229 0 yX0_isFull cX0_isFull 1 (some .boolean) 0 := ⟨⟨(Or.inl (rd_gt_of 648 rfl rfl)), (rd_gt_of 49 rfl rfl), (rd_gt_of 651 rfl rfl), by decide +kernel, by decide +kernel, by decide⟩, (rd_gt_of 649 rfl rfl), (rd_gt_of 650 rfl rfl), TX0, 3, rfl, by decide⟩
set_option maxRecDepth 100000 in
theorem km_L_125 : rd_CV RL 125 4 yX4_back cX4_back 1 (some .int) 0 := ⟨⟨(Or.inl (rd_gt_of 652 rfl rfl)), (rd_gt_of 46 rfl rfl), (rd_gt_of 655 rfl rfl), by decide +kernel, by decide +kernel, by decide⟩, (rd_gt_of 653 rfl rfl), (rd_gt_of 654 rfl rfl), TX4, 14, rfl, by decide⟩
set_option maxRecDepth 100000 in
theorem km_L_129 : rd_CV RL 129 4 yX4_count cX4_count 2 (some .int) 1 := ⟨⟨(Or.inl (rd_gt_of 656 rfl rfl)), (rd_gt_of 46 rfl rfl), (rd_gt_of 659 rfl rfl), by decide +kernel, by decide +kernel, by decide⟩, (rd_gt_of 657 rfl rfl), (rd_gt_of 658 rfl rfl), TX4, 14, rfl, by decide⟩
set_option maxRecDepth 100000 in
theorem km_X5_59 : rd_CV RX5 59 5 yX5_begin cX5_begin 2 none 0 := ⟨⟨(Or.inl (rd_gt_of 666 rfl rfl)), (rd_gt_of 57 rfl rfl), (rd_gt_of 669 rfl rfl), by decide +kernel, by decide +kernel, by decide⟩, (rd_gt_of 668 rfl rfl), (rd_gt_of 19 rfl rfl), TX5, 25, rfl, by decide⟩
set_option maxRecDepth 100000 in
theorem kf_X5_7 : rd_FL RX5 7 5 0 := ⟨RX5, TX5, 25, tyX5, rfl, kw_X5, tyX5_ok, nmX5, rfl, by decide, by decide, (rd_gt_of 670 rfl rfl)⟩
set_option maxRecDepth 100000 in
theorem kf_X5_13 : rd_FL RX5 13 5 1 := ⟨RX5, TX5, 25, tyX5, rfl, kw_X5, tyX5_ok, nmX5, rfl, by decide, by decide, (rd_gt_of 671 rfl rfl)⟩
set_option maxRecDepth 100000 in
theorem kf_X5_16 : rd_FL RX5 16 5 2 := ⟨RX5, TX5, 25, tyX5, rfl, kw_X5, tyX5_ok, nmX5, rfl, by decide, by decide, (rd_gt_of 672 rfl rfl)⟩
set_option maxRecDepth 100000 in
theorem kf_X5_55 : rd_FL RX5 55 5 3 := ⟨RX5, TX5, 25, tyX5, rfl, kw_X5, tyX5_ok, nmX5, rfl, by decide, by decide, (rd_gt_of 673 rfl rfl)⟩
set_option maxRecDepth 100000 in
theorem kf_X5_19 : rd_FL RX5 19 5 4 := ⟨RX5, TX5, 25, tyX5, rfl, kw_X5, tyX5_ok, nmX5, rfl, by decide, by decide, (rd_gt_of 674 rfl rfl)⟩
set_option maxRecDepth 100000 in
theorem kf_X5_22 : rd_FL RX5 22 5 5 := ⟨RX5, TX5, 25, tyX5, rfl, kw_X5, tyX5_ok, nmX5, rfl, by decide, by decide, (rd_gt_of 675 rfl rfl)⟩
set_option maxRecDepth 100000 in
theorem kf_X5_68 : rd_FL RX5 68 5 6 := ⟨RX5, TX5, 25, tyX5, rfl, kw_X5, tyX5_ok, nmX5, rfl, by decide, by decide, (rd_gt_of 676 rfl rfl)⟩
set_option maxRecDepth 100000 in
theorem kf_X5_25 : rd_FL RX5 25 5 7 := ⟨RX5, TX5, 25, tyX5, rfl, kw_X5, tyX5_ok, nmX5, rfl, by decide, by decide, (rd_gt_of 677 rfl rfl)⟩
set_option maxRecDepth 100000 in
theorem kf_X5_71 : rd_FL RX5 71 5 8 := ⟨RX5, TX5, 25, tyX5, rfl, kw_X5, tyX5_ok, nmX5, rfl, by decide, by decide, (rd_gt_of 678 rfl rfl)⟩
set_option maxRecDepth 100000 in
theorem kf_X5_28 : rd_FL RX5 28 5 9 := ⟨RX5, TX5, 25, tyX5, rfl, kw_X5, tyX5_ok, nmX5, rfl, by decide, by decide, (rd_gt_of 679 rfl rfl)⟩
set_option maxRecDepth 100000 in
theorem kf_X5_74 : rd_FL RX5 74 5 10 := ⟨RX5, TX5, 25, tyX5, rfl, kw_X5, tyX5_ok, nmX5, rfl, by decide, by decide, (rd_gt_of 680 rfl rfl)⟩
set_option maxRecDepth 100000 in
theorem kf_X5_31 : rd_FL RX5 31 5 11 := ⟨RX5, TX5, 25, tyX5, rfl, kw_X5, tyX5_ok, nmX5, rfl, by decide, by decide, (rd_gt_of 681 rfl rfl)⟩
set_option maxRecDepth 100000 in
theorem kf_X5_81 : rd_FL RX5 81 5 12 := ⟨RX5, TX5, 25, tyX5, rfl, kw_X5, tyX5_ok, nmX5, rfl, by decide, by decide, (rd_gt_of 682 rfl rfl)⟩
set_option maxRecDepth 100000 in
theorem kf_X5_34 : rd_FL RX5 34 5 13 := ⟨RX5, TX5, 25, tyX5, rfl, kw_X5, tyX5_ok, nmX5, rfl, by decide, by decide, (rd_gt_of 683 rfl rfl)⟩
set_option maxRecDepth 100000 in
theorem kf_X5_37 : rd_FL RX5 37 5 14 := ⟨RX5, TX5, 25, tyX5, rfl, kw_X5, tyX5_ok, nmX5, rfl, by decide, by decide, (rd_gt_of 684 rfl rfl)⟩
set_option maxRecDepth 100000 in
theorem kf_X5_40 : rd_FL RX5 40 5 15 := ⟨RX5, TX5, 25, tyX5, rfl, kw_X5, tyX5_ok, nmX5, rfl, by decide, by decide, (rd_gt_of 685 rfl rfl)⟩
set_option maxRecDepth 100000 in
theorem kf_X5_92 : rd_FL RX5 92 5 16 := ⟨RX5, TX5, 25, tyX5, rfl, kw_X5, tyX5_ok, nmX5, rfl, by decide, by decide, (rd_gt_of 686 rfl rfl)⟩
set_option maxRecDepth 100000 in
theorem kf_X5_95 : rd_FL RX5 95 5 17 := ⟨RX5, TX5, 25, tyX5, rfl, kw_X5, tyX5_ok, nmX5, rfl, by decide, by decide, (rd_gt_of 687 rfl rfl)⟩
set_option maxRecDepth 100000 in
theorem kf_X5_127 : rd_FL RX5 127 5 18 := ⟨RX5, TX5, 25, tyX5, rfl, kw_X5, tyX5_ok, nmX5, rfl, by decide, by decide, (rd_gt_of 688 rfl rfl)⟩
set_option maxRecDepth 100000 in
theorem kf_X5_43 : rd_FL RX5 43 5 19 := ⟨RX5, TX5, 25, tyX5, rfl, kw_X5, tyX5_ok, nmX5, rfl, by decide, by decide, (rd_gt_of 689 rfl rfl)⟩
set_option maxRecDepth 100000 in
theorem kf_X5_159 : rd_FL RX5 159 5 20 := ⟨RX5, TX5, 25, tyX5, rfl, kw_X5, tyX5_ok, nmX5, rfl, by decide, by decide, (rd_gt_of 690 rfl rfl)⟩
set_option maxRecDepth 100000 in
theorem kf_X5_171 : rd_FL RX5 171 5 21 := ⟨RX5, TX5, 25, tyX5, rfl, kw_X5, tyX5_ok, nmX5, rfl, by decide, by decide, (rd_gt_of 691 rfl rfl)⟩
set_option maxRecDepth 100000 in
theorem kf_X5_46 : rd_FL RX5 46 5 22 := ⟨RX5, TX5, 25, tyX5, rfl, kw_X5, tyX5_ok, nmX5, rfl, by decide, by decide, (rd_gt_of 692 rfl rfl)⟩
set_option maxRecDepth 100000 in
theorem kf_X5_49 : rd_FL RX5 49 5 23 := ⟨RX5, TX5, 25, tyX5, rfl, kw_X5, tyX5_ok, nmX5, rfl, by decide, by decide, (rd_gt_of 693 rfl rfl)⟩
set_option maxRecDepth 100000 in
theorem kf_X5_52 : rd_FL RX5 52 5 24 := ⟨RX5, TX5, 25, tyX5, rfl, kw_X5, tyX5_ok, nmX5, rfl, by decide, by decide, (rd_gt_of 694 rfl rfl)⟩
set_option maxRecDepth 100000 in
theorem km_L_17 : rd_CV RL 17 5 yX5_write cX5_write 2 (some .int) 1 := ⟨⟨(Or.inl (rd_gt_of 746 rfl rfl)), (rd_gt_of 57 rfl rfl), (rd_gt_of 749 rfl rfl), by decide +kernel, by decide +kernel, by decide⟩, (rd_gt_of 747 rfl rfl), (rd_gt_of 748 rfl rfl), TX5, 25, rfl, by decide⟩
set_option maxRecDepth 100000 in
theorem kc_X5_77 : Cond.constantLong RX5 77 (32) ∈ rd_gt := (rd_gt_of 750 rfl rfl)
set_option maxRecDepth 100000 in
theorem kc_X5_79 : Cond.constantLong RX5 79 (126) ∈ rd_gt := (rd_gt_of 751 rfl rfl)
set_option maxRecDepth 100000 in
theorem km_X5_62 : rd_CS RX5 62 yX5_in cX5_in 6 (some .boolean) 3 := ⟨⟨(Or.inl (rd_gt_of 752 rfl rfl)), (rd_gt_of 57 rfl rfl), (rd_gt_of 754 rfl rfl), by decide +kernel, by decide +kernel, by decide⟩, (rd_gt_of 753 rfl rfl)⟩
set_option maxRecDepth 100000 in
theorem km_L_22 : rd_CV RL 22 5 yX5_wipe cX5_wipe 2 (some .int) 0 := ⟨⟨(Or.inl (rd_gt_of 755 rfl rfl)), (rd_gt_of 57 rfl rfl), (rd_gt_of 758 rfl rfl), by decide +kernel, by decide +kernel, by decide⟩, (rd_gt_of 756 rfl rfl), (rd_gt_of 757 rfl rfl), TX5, 25, rfl, by decide⟩
set_option maxRecDepth 100000 in
theorem km_L_26 : rd_CV RL 26 5 yX5_fault cX5_fault 2 (some .int) 0 := ⟨⟨(Or.inl (rd_gt_of 759 rfl rfl)), (rd_gt_of 57 rfl rfl), (rd_gt_of 762 rfl rfl), by decide +kernel, by decide +kernel, by decide⟩, (rd_gt_of 760 rfl rfl), (rd_gt_of 761 rfl rfl), TX5, 25, rfl, by decide⟩
set_option maxRecDepth 100000 in
theorem km_X5_98 : rd_CV RX5 98 5 yX5_readItem cX5_readItem 5 (some .int) 1 := ⟨⟨(Or.inl (rd_gt_of 763 rfl rfl)), (rd_gt_of 57 rfl rfl), (rd_gt_of 766 rfl rfl), by decide +kernel, by decide +kernel, by decide⟩, (rd_gt_of 765 rfl rfl), (rd_gt_of 20 rfl rfl), TX5, 25, rfl, by decide⟩
set_option maxRecDepth 100000 in
theorem km_X5_84 : rd_CV RX5 84 5 yX5_letter cX5_letter 2 (some .int) 1 := ⟨⟨(Or.inl (rd_gt_of 767 rfl rfl)), (rd_gt_of 57 rfl rfl), (rd_gt_of 770 rfl rfl), by decide +kernel, by decide +kernel, by decide⟩, (rd_gt_of 769 rfl rfl), (rd_gt_of 21 rfl rfl), TX5, 25, rfl, by decide⟩
set_option maxRecDepth 100000 in
theorem km_X5_88 : rd_CV RX5 88 5 yX5_figureAt cX5_figureAt 4 (some .int) 2 := ⟨⟨(Or.inl (rd_gt_of 771 rfl rfl)), (rd_gt_of 57 rfl rfl), (rd_gt_of 774 rfl rfl), by decide +kernel, by decide +kernel, by decide⟩, (rd_gt_of 773 rfl rfl), (rd_gt_of 22 rfl rfl), TX5, 25, rfl, by decide⟩
set_option maxRecDepth 100000 in
theorem km_L_30 : rd_CV RL 30 5 yX5_lay cX5_lay 3 (some .int) 0 := ⟨⟨(Or.inl (rd_gt_of 775 rfl rfl)), (rd_gt_of 57 rfl rfl), (rd_gt_of 778 rfl rfl), by decide +kernel, by decide +kernel, by decide⟩, (rd_gt_of 776 rfl rfl), (rd_gt_of 777 rfl rfl), TX5, 25, rfl, by decide⟩
set_option maxRecDepth 100000 in
theorem km_X5_101 : rd_CV RX5 101 5 yX5_fault cX5_fault 2 (some .int) 0 := ⟨⟨(Or.inl (rd_gt_of 779 rfl rfl)), (rd_gt_of 57 rfl rfl), (rd_gt_of 762 rfl rfl), by decide +kernel, by decide +kernel, by decide⟩, (rd_gt_of 760 rfl rfl), (rd_gt_of 761 rfl rfl), TX5, 25, rfl, by decide⟩
set_option maxRecDepth 100000 in
theorem km_L_35 : rd_CV RL 35 5 yX5_dancer cX5_dancer 3 (some .int) 2 := ⟨⟨(Or.inl (rd_gt_of 780 rfl rfl)), (rd_gt_of 57 rfl rfl), (rd_gt_of 783 rfl rfl), by decide +kernel, by decide +kernel, by decide⟩, (rd_gt_of 781 rfl rfl), (rd_gt_of 782 rfl rfl), TX5, 25, rfl, by decide⟩
set_option maxRecDepth 100000 in
theorem km_X5_105 : rd_CS RX5 105 yX5_isOne cX5_isOne 1 (some .boolean) 1 := ⟨⟨(Or.inl (rd_gt_of 784 rfl rfl)), (rd_gt_of 57 rfl rfl), (rd_gt_of 786 rfl rfl), by decide +kernel, by decide +kernel, by decide⟩, (rd_gt_of 785 rfl rfl)⟩
set_option maxRecDepth 100000 in
theorem kc_X5_66 : Cond.constantLong RX5 66 (3) ∈ rd_gt := (rd_gt_of 787 rfl rfl)
set_option maxRecDepth 100000 in
theorem kc_X5_109 : Cond.constantLong RX5 109 (2) ∈ rd_gt := (rd_gt_of 788 rfl rfl)
set_option maxRecDepth 100000 in
theorem km_X5_111 : rd_CV RX5 111 5 yX5_placeOf cX5_placeOf 3 (some .int) 1 := ⟨⟨(Or.inl (rd_gt_of 789 rfl rfl)), (rd_gt_of 57 rfl rfl), (rd_gt_of 792 rfl rfl), by decide +kernel, by decide +kernel, by decide⟩, (rd_gt_of 791 rfl rfl), (rd_gt_of 23 rfl rfl), TX5, 25, rfl, by decide⟩
set_option maxRecDepth 100000 in
theorem km_L_39 : rd_CV RL 39 5 yX5_place cX5_place 3 (some .int) 2 := ⟨⟨(Or.inl (rd_gt_of 793 rfl rfl)), (rd_gt_of 57 rfl rfl), (rd_gt_of 796 rfl rfl), by decide +kernel, by decide +kernel, by decide⟩, (rd_gt_of 794 rfl rfl), (rd_gt_of 795 rfl rfl), TX5, 25, rfl, by decide⟩
set_option maxRecDepth 100000 in
theorem km_X5_114 : rd_CS RX5 114 yX5_isPart cX5_isPart 1 (some .boolean) 1 := ⟨⟨(Or.inl (rd_gt_of 797 rfl rfl)), (rd_gt_of 57 rfl rfl), (rd_gt_of 799 rfl rfl), by decide +kernel, by decide +kernel, by decide⟩, (rd_gt_of 798 rfl rfl)⟩
set_option maxRecDepth 100000 in
theorem km_L_43 : rd_CV RL 43 5 yX5_wound cX5_wound 2 (some .int) 1 := ⟨⟨(Or.inl (rd_gt_of 800 rfl rfl)), (rd_gt_of 57 rfl rfl), (rd_gt_of 803 rfl rfl), by decide +kernel, by decide +kernel, by decide⟩, (rd_gt_of 801 rfl rfl), (rd_gt_of 802 rfl rfl), TX5, 25, rfl, by decide⟩
set_option maxRecDepth 100000 in
theorem kc_X5_117 : Cond.constant RX5 117 (-100000) ∈ rd_gt := (rd_gt_of 804 rfl rfl)
set_option maxRecDepth 100000 in
theorem km_L_47 : rd_CV RL 47 5 yX5_row cX5_row 2 (some .int) 1 := ⟨⟨(Or.inl (rd_gt_of 805 rfl rfl)), (rd_gt_of 57 rfl rfl), (rd_gt_of 808 rfl rfl), by decide +kernel, by decide +kernel, by decide⟩, (rd_gt_of 806 rfl rfl), (rd_gt_of 807 rfl rfl), TX5, 25, rfl, by decide⟩
set_option maxRecDepth 100000 in
theorem kc_X5_118 : Cond.constantLong RX5 118 (11) ∈ rd_gt := (rd_gt_of 809 rfl rfl)
set_option maxRecDepth 100000 in
theorem km_L_51 : rd_CV RL 51 5 yX5_dance cX5_dance 3 (some .int) 1 := ⟨⟨(Or.inl (rd_gt_of 810 rfl rfl)), (rd_gt_of 57 rfl rfl), (rd_gt_of 813 rfl rfl), by decide +kernel, by decide +kernel, by decide⟩, (rd_gt_of 811 rfl rfl), (rd_gt_of 812 rfl rfl), TX5, 25, rfl, by decide⟩
set_option maxRecDepth 100000 in
theorem km_X5_141 : rd_CV RX5 141 5 yX5_putAside cX5_putAside 2 none 0 := ⟨⟨(Or.inl (rd_gt_of 814 rfl rfl)), (rd_gt_of 57 rfl rfl), (rd_gt_of 817 rfl rfl), by decide +kernel, by decide +kernel, by decide⟩, (rd_gt_of 816 rfl rfl), (rd_gt_of 24 rfl rfl), TX5, 25, rfl, by decide⟩
set_option maxRecDepth 100000 in
theorem km_X5_144 : rd_CV RX5 144 5 yX5_dances cX5_dances 3 (some .boolean) 1 := ⟨⟨(Or.inl (rd_gt_of 818 rfl rfl)), (rd_gt_of 57 rfl rfl), (rd_gt_of 821 rfl rfl), by decide +kernel, by decide +kernel, by decide⟩, (rd_gt_of 820 rfl rfl), (rd_gt_of 25 rfl rfl), TX5, 25, rfl, by decide⟩
set_option maxRecDepth 100000 in
theorem km_X5_134 : rd_CV RX5 134 5 yX5_turns cX5_turns 5 (some .boolean) 0 := ⟨⟨(Or.inl (rd_gt_of 822 rfl rfl)), (rd_gt_of 57 rfl rfl), (rd_gt_of 825 rfl rfl), by decide +kernel, by decide +kernel, by decide⟩, (rd_gt_of 824 rfl rfl), (rd_gt_of 26 rfl rfl), TX5, 25, rfl, by decide⟩
set_option maxRecDepth 100000 in
theorem km_X5_123 : rd_CS RX5 123 yX5_isTight cX5_isTight 2 (some .boolean) 2 := ⟨⟨(Or.inl (rd_gt_of 826 rfl rfl)), (rd_gt_of 57 rfl rfl), (rd_gt_of 828 rfl rfl), by decide +kernel, by decide +kernel, by decide⟩, (rd_gt_of 827 rfl rfl)⟩
set_option maxRecDepth 100000 in
theorem km_X5_138 : rd_CV RX5 138 5 yX5_winds cX5_winds 4 (some .boolean) 1 := ⟨⟨(Or.inl (rd_gt_of 829 rfl rfl)), (rd_gt_of 57 rfl rfl), (rd_gt_of 832 rfl rfl), by decide +kernel, by decide +kernel, by decide⟩, (rd_gt_of 831 rfl rfl), (rd_gt_of 27 rfl rfl), TX5, 25, rfl, by decide⟩
set_option maxRecDepth 100000 in
theorem km_X5_120 : rd_CV RX5 120 5 yX5_windsBy cX5_windsBy 3 (some .int) 1 := ⟨⟨(Or.inl (rd_gt_of 833 rfl rfl)), (rd_gt_of 57 rfl rfl), (rd_gt_of 836 rfl rfl), by decide +kernel, by decide +kernel, by decide⟩, (rd_gt_of 835 rfl rfl), (rd_gt_of 28 rfl rfl), TX5, 25, rfl, by decide⟩
set_option maxRecDepth 100000 in
theorem km_X5_130 : rd_CV RX5 130 5 yX5_changePlaces cX5_changePlaces 4 none 2 := ⟨⟨(Or.inl (rd_gt_of 837 rfl rfl)), (rd_gt_of 57 rfl rfl), (rd_gt_of 840 rfl rfl), by decide +kernel, by decide +kernel, by decide⟩, (rd_gt_of 839 rfl rfl), (rd_gt_of 29 rfl rfl), TX5, 25, rfl, by decide⟩
set_option maxRecDepth 100000 in
theorem km_X5_147 : rd_CV RX5 147 5 yX5_takeBack cX5_takeBack 2 none 0 := ⟨⟨(Or.inl (rd_gt_of 841 rfl rfl)), (rd_gt_of 57 rfl rfl), (rd_gt_of 844 rfl rfl), by decide +kernel, by decide +kernel, by decide⟩, (rd_gt_of 843 rfl rfl), (rd_gt_of 30 rfl rfl), TX5, 25, rfl, by decide⟩
set_option maxRecDepth 100000 in
theorem km_X5_150 : rd_CV RX5 150 5 yX5_note cX5_note 2 none 0 := ⟨⟨(Or.inl (rd_gt_of 845 rfl rfl)), (rd_gt_of 57 rfl rfl), (rd_gt_of 848 rfl rfl), by decide +kernel, by decide +kernel, by decide⟩, (rd_gt_of 847 rfl rfl), (rd_gt_of 31 rfl rfl), TX5, 25, rfl, by decide⟩
set_option maxRecDepth 100000 in
theorem km_L_55 : rd_CV RL 55 5 yX5_put cX5_put 3 (some .int) 2 := ⟨⟨(Or.inl (rd_gt_of 849 rfl rfl)), (rd_gt_of 57 rfl rfl), (rd_gt_of 852 rfl rfl), by decide +kernel, by decide +kernel, by decide⟩, (rd_gt_of 850 rfl rfl), (rd_gt_of 851 rfl rfl), TX5, 25, rfl, by decide⟩
set_option maxRecDepth 100000 in
theorem km_X5_153 : rd_CV RX5 153 5 yX5_putThem cX5_putThem 4 none 2 := ⟨⟨(Or.inl (rd_gt_of 853 rfl rfl)), (rd_gt_of 57 rfl rfl), (rd_gt_of 856 rfl rfl), by decide +kernel, by decide +kernel, by decide⟩, (rd_gt_of 855 rfl rfl), (rd_gt_of 32 rfl rfl), TX5, 25, rfl, by decide⟩
set_option maxRecDepth 100000 in
theorem km_L_59 : rd_CV RL 59 5 yX5_undo cX5_undo 2 (some .int) 0 := ⟨⟨(Or.inl (rd_gt_of 857 rfl rfl)), (rd_gt_of 57 rfl rfl), (rd_gt_of 860 rfl rfl), by decide +kernel, by decide +kernel, by decide⟩, (rd_gt_of 858 rfl rfl), (rd_gt_of 859 rfl rfl), TX5, 25, rfl, by decide⟩
set_option maxRecDepth 100000 in
theorem km_L_63 : rd_CV RL 63 5 yX5_free cX5_free 2 (some .int) 1 := ⟨⟨(Or.inl (rd_gt_of 861 rfl rfl)), (rd_gt_of 57 rfl rfl), (rd_gt_of 864 rfl rfl), by decide +kernel, by decide +kernel, by decide⟩, (rd_gt_of 862 rfl rfl), (rd_gt_of 863 rfl rfl), TX5, 25, rfl, by decide⟩
set_option maxRecDepth 100000 in
theorem km_X5_178 : rd_CS RX5 178 yX5_isPlaceOfRow cX5_isPlaceOfRow 1 (some .boolean) 1 := ⟨⟨(Or.inl (rd_gt_of 865 rfl rfl)), (rd_gt_of 57 rfl rfl), (rd_gt_of 867 rfl rfl), by decide +kernel, by decide +kernel, by decide⟩, (rd_gt_of 866 rfl rfl)⟩
set_option maxRecDepth 100000 in
theorem kc_X5_174 : Cond.constantLong RX5 174 (-1) ∈ rd_gt := (rd_gt_of 868 rfl rfl)
set_option maxRecDepth 100000 in
theorem kc_X5_176 : Cond.constantLong RX5 176 (6) ∈ rd_gt := (rd_gt_of 869 rfl rfl)
set_option maxRecDepth 100000 in
theorem km_X5_181 : rd_CV RX5 181 5 yX5_search cX5_search 7 none 4 := ⟨⟨(Or.inl (rd_gt_of 870 rfl rfl)), (rd_gt_of 57 rfl rfl), (rd_gt_of 873 rfl rfl), by decide +kernel, by decide +kernel, by decide⟩, (rd_gt_of 872 rfl rfl), (rd_gt_of 33 rfl rfl), TX5, 25, rfl, by decide⟩
set_option maxRecDepth 100000 in
theorem km_X5_156 : rd_CS RX5 156 yX5_rowsOf cX5_rowsOf 4 (some .int) 2 := ⟨⟨(Or.inl (rd_gt_of 874 rfl rfl)), (rd_gt_of 57 rfl rfl), (rd_gt_of 876 rfl rfl), by decide +kernel, by decide +kernel, by decide⟩, (rd_gt_of 875 rfl rfl)⟩
set_option maxRecDepth 100000 in
theorem km_X5_162 : rd_CV RX5 162 5 yX5_dancesRow cX5_dancesRow 5 (some .boolean) 2 := ⟨⟨(Or.inl (rd_gt_of 877 rfl rfl)), (rd_gt_of 57 rfl rfl), (rd_gt_of 880 rfl rfl), by decide +kernel, by decide +kernel, by decide⟩, (rd_gt_of 879 rfl rfl), (rd_gt_of 34 rfl rfl), TX5, 25, rfl, by decide⟩
set_option maxRecDepth 100000 in
theorem km_X5_165 : rd_CV RX5 165 5 yX5_isWound cX5_isWound 3 (some .boolean) 2 := ⟨⟨(Or.inl (rd_gt_of 881 rfl rfl)), (rd_gt_of 57 rfl rfl), (rd_gt_of 884 rfl rfl), by decide +kernel, by decide +kernel, by decide⟩, (rd_gt_of 883 rfl rfl), (rd_gt_of 35 rfl rfl), TX5, 25, rfl, by decide⟩
set_option maxRecDepth 100000 in
theorem km_X5_168 : rd_CV RX5 168 5 yX5_areBeside cX5_areBeside 4 (some .boolean) 2 := ⟨⟨(Or.inl (rd_gt_of 885 rfl rfl)), (rd_gt_of 57 rfl rfl), (rd_gt_of 888 rfl rfl), by decide +kernel, by decide +kernel, by decide⟩, (rd_gt_of 887 rfl rfl), (rd_gt_of 36 rfl rfl), TX5, 25, rfl, by decide⟩
set_option maxRecDepth 100000 in
theorem km_X5_185 : rd_CV RX5 185 5 yX5_tells cX5_tells 2 (some .int) 1 := ⟨⟨(Or.inl (rd_gt_of 889 rfl rfl)), (rd_gt_of 57 rfl rfl), (rd_gt_of 892 rfl rfl), by decide +kernel, by decide +kernel, by decide⟩, (rd_gt_of 891 rfl rfl), (rd_gt_of 37 rfl rfl), TX5, 25, rfl, by decide⟩
set_option maxRecDepth 100000 in
theorem km_L_68 : rd_CV RL 68 5 yX5_reach cX5_reach 4 (some .int) 3 := ⟨⟨(Or.inl (rd_gt_of 893 rfl rfl)), (rd_gt_of 57 rfl rfl), (rd_gt_of 896 rfl rfl), by decide +kernel, by decide +kernel, by decide⟩, (rd_gt_of 894 rfl rfl), (rd_gt_of 895 rfl rfl), TX5, 25, rfl, by decide⟩
set_option maxRecDepth 100000 in
theorem km_X5_195 : rd_CS RX5 195 yX5_isFraction cX5_isFraction 2 (some .boolean) 2 := ⟨⟨(Or.inl (rd_gt_of 897 rfl rfl)), (rd_gt_of 57 rfl rfl), (rd_gt_of 899 rfl rfl), by decide +kernel, by decide +kernel, by decide⟩, (rd_gt_of 898 rfl rfl)⟩
set_option maxRecDepth 100000 in
theorem kc_X5_188 : Cond.constantLong RX5 188 (-99) ∈ rd_gt := (rd_gt_of 900 rfl rfl)
set_option maxRecDepth 100000 in
theorem kc_X5_190 : Cond.constantLong RX5 190 (99) ∈ rd_gt := (rd_gt_of 901 rfl rfl)
set_option maxRecDepth 100000 in
theorem km_X5_192 : rd_CS RX5 192 yX5_common cX5_common 5 (some .int) 2 := ⟨⟨(Or.inl (rd_gt_of 902 rfl rfl)), (rd_gt_of 57 rfl rfl), (rd_gt_of 904 rfl rfl), by decide +kernel, by decide +kernel, by decide⟩, (rd_gt_of 903 rfl rfl)⟩
set_option maxRecDepth 100000 in
theorem km_L_72 : rd_CV RL 72 5 yX5_meet cX5_meet 4 (some .int) 3 := ⟨⟨(Or.inl (rd_gt_of 905 rfl rfl)), (rd_gt_of 57 rfl rfl), (rd_gt_of 908 rfl rfl), by decide +kernel, by decide +kernel, by decide⟩, (rd_gt_of 906 rfl rfl), (rd_gt_of 907 rfl rfl), TX5, 25, rfl, by decide⟩
set_option maxRecDepth 100000 in
theorem km_L_76 : rd_CV RL 76 5 yX5_ways cX5_ways 4 (some .int) 1 := ⟨⟨(Or.inl (rd_gt_of 909 rfl rfl)), (rd_gt_of 57 rfl rfl), (rd_gt_of 912 rfl rfl), by decide +kernel, by decide +kernel, by decide⟩, (rd_gt_of 910 rfl rfl), (rd_gt_of 911 rfl rfl), TX5, 25, rfl, by decide⟩
set_option maxRecDepth 100000 in
theorem kc_X5_198 : Cond.constantLong RX5 198 (7) ∈ rd_gt := (rd_gt_of 913 rfl rfl)
set_option maxRecDepth 100000 in
theorem km_L_80 : rd_CV RL 80 5 yX5_plain cX5_plain 4 (some .int) 0 := ⟨⟨(Or.inl (rd_gt_of 914 rfl rfl)), (rd_gt_of 57 rfl rfl), (rd_gt_of 917 rfl rfl), by decide +kernel, by decide +kernel, by decide⟩, (rd_gt_of 915 rfl rfl), (rd_gt_of 916 rfl rfl), TX5, 25, rfl, by decide⟩
set_option maxRecDepth 100000 in
theorem km_L_84 : rd_CV RL 84 5 yX5_comes cX5_comes 4 (some .int) 1 := ⟨⟨(Or.inl (rd_gt_of 918 rfl rfl)), (rd_gt_of 57 rfl rfl), (rd_gt_of 921 rfl rfl), by decide +kernel, by decide +kernel, by decide⟩, (rd_gt_of 919 rfl rfl), (rd_gt_of 920 rfl rfl), TX5, 25, rfl, by decide⟩
set_option maxRecDepth 100000 in
theorem km_X5_200 : rd_CV RX5 200 5 yX5_dancesOn cX5_dancesOn 4 (some .int) 1 := ⟨⟨(Or.inl (rd_gt_of 922 rfl rfl)), (rd_gt_of 57 rfl rfl), (rd_gt_of 925 rfl rfl), by decide +kernel, by decide +kernel, by decide⟩, (rd_gt_of 924 rfl rfl), (rd_gt_of 38 rfl rfl), TX5, 25, rfl, by decide⟩
set_option maxRecDepth 100000 in
theorem km_L_88 : rd_CV RL 88 5 yX5_behind cX5_behind 4 (some .int) 2 := ⟨⟨(Or.inl (rd_gt_of 926 rfl rfl)), (rd_gt_of 57 rfl rfl), (rd_gt_of 929 rfl rfl), by decide +kernel, by decide +kernel, by decide⟩, (rd_gt_of 927 rfl rfl), (rd_gt_of 928 rfl rfl), TX5, 25, rfl, by decide⟩
set_option maxRecDepth 100000 in
theorem kc_X5_203 : Cond.constantLong RX5 203 (12) ∈ rd_gt := (rd_gt_of 930 rfl rfl)
set_option maxRecDepth 100000 in
theorem km_X5_205 : rd_CV RX5 205 5 yX5_dancesFirst cX5_dancesFirst 2 (some .boolean) 1 := ⟨⟨(Or.inl (rd_gt_of 931 rfl rfl)), (rd_gt_of 57 rfl rfl), (rd_gt_of 934 rfl rfl), by decide +kernel, by decide +kernel, by decide⟩, (rd_gt_of 933 rfl rfl), (rd_gt_of 39 rfl rfl), TX5, 25, rfl, by decide⟩
set_option maxRecDepth 100000 in
theorem kc_X5_208 : Cond.constant RX5 208 (-100001) ∈ rd_gt := (rd_gt_of 935 rfl rfl)
set_option maxRecDepth 100000 in
theorem km_L_92 : rd_CV RL 92 5 yX5_see cX5_see 4 (some .int) 3 := ⟨⟨(Or.inl (rd_gt_of 936 rfl rfl)), (rd_gt_of 57 rfl rfl), (rd_gt_of 939 rfl rfl), by decide +kernel, by decide +kernel, by decide⟩, (rd_gt_of 937 rfl rfl), (rd_gt_of 938 rfl rfl), TX5, 25, rfl, by decide⟩
set_option maxRecDepth 100000 in
theorem km_L_96 : rd_CV RL 96 5 yX5_forget cX5_forget 2 (some .int) 0 := ⟨⟨(Or.inl (rd_gt_of 940 rfl rfl)), (rd_gt_of 57 rfl rfl), (rd_gt_of 943 rfl rfl), by decide +kernel, by decide +kernel, by decide⟩, (rd_gt_of 941 rfl rfl), (rd_gt_of 942 rfl rfl), TX5, 25, rfl, by decide⟩
set_option maxRecDepth 100000 in
theorem km_L_100 : rd_CV RL 100 5 yX5_kinds cX5_kinds 2 (some .int) 1 := ⟨⟨(Or.inl (rd_gt_of 944 rfl rfl)), (rd_gt_of 57 rfl rfl), (rd_gt_of 947 rfl rfl), by decide +kernel, by decide +kernel, by decide⟩, (rd_gt_of 945 rfl rfl), (rd_gt_of 946 rfl rfl), TX5, 25, rfl, by decide⟩
set_option maxRecDepth 100000 in
theorem km_X5_212 : rd_CV RX5 212 5 yX5_kindSet cX5_kindSet 5 (some .int) 1 := ⟨⟨(Or.inl (rd_gt_of 948 rfl rfl)), (rd_gt_of 57 rfl rfl), (rd_gt_of 951 rfl rfl), by decide +kernel, by decide +kernel, by decide⟩, (rd_gt_of 950 rfl rfl), (rd_gt_of 40 rfl rfl), TX5, 25, rfl, by decide⟩
set_option maxRecDepth 100000 in
theorem km_X5_209 : rd_CV RX5 209 5 yX5_isAsSeen cX5_isAsSeen 3 (some .boolean) 0 := ⟨⟨(Or.inl (rd_gt_of 952 rfl rfl)), (rd_gt_of 57 rfl rfl), (rd_gt_of 955 rfl rfl), by decide +kernel, by decide +kernel, by decide⟩, (rd_gt_of 954 rfl rfl), (rd_gt_of 41 rfl rfl), TX5, 25, rfl, by decide⟩
set_option maxRecDepth 100000 in
theorem km_L_104 : rd_CV RL 104 5 yX5_look cX5_look 8 (some .int) 2 := ⟨⟨(Or.inl (rd_gt_of 956 rfl rfl)), (rd_gt_of 57 rfl rfl), (rd_gt_of 959 rfl rfl), by decide +kernel, by decide +kernel, by decide⟩, (rd_gt_of 957 rfl rfl), (rd_gt_of 958 rfl rfl), TX5, 25, rfl, by decide⟩
set_option maxRecDepth 100000 in
theorem km_X5_215 : rd_CV RX5 215 5 yX5_partBy cX5_partBy 9 (some .int) 3 := ⟨⟨(Or.inl (rd_gt_of 960 rfl rfl)), (rd_gt_of 57 rfl rfl), (rd_gt_of 963 rfl rfl), by decide +kernel, by decide +kernel, by decide⟩, (rd_gt_of 962 rfl rfl), (rd_gt_of 42 rfl rfl), TX5, 25, rfl, by decide⟩
set_option maxRecDepth 100000 in
theorem km_L_108 : rd_CV RL 108 5 yX5_danced cX5_danced 6 (some .int) 1 := ⟨⟨(Or.inl (rd_gt_of 964 rfl rfl)), (rd_gt_of 57 rfl rfl), (rd_gt_of 967 rfl rfl), by decide +kernel, by decide +kernel, by decide⟩, (rd_gt_of 965 rfl rfl), (rd_gt_of 966 rfl rfl), TX5, 25, rfl, by decide⟩
set_option maxRecDepth 100000 in
theorem km_L_112 : rd_CV RL 112 5 yX5_duel cX5_duel 8 (some .int) 1 := ⟨⟨(Or.inl (rd_gt_of 968 rfl rfl)), (rd_gt_of 57 rfl rfl), (rd_gt_of 971 rfl rfl), by decide +kernel, by decide +kernel, by decide⟩, (rd_gt_of 969 rfl rfl), (rd_gt_of 970 rfl rfl), TX5, 25, rfl, by decide⟩
set_option maxRecDepth 100000 in
theorem kc_X5_219 : Cond.constantLong RX5 219 (5) ∈ rd_gt := (rd_gt_of 972 rfl rfl)
set_option maxRecDepth 100000 in
theorem km_X5_221 : rd_CV RX5 221 5 yX5_greater cX5_greater 2 (some .int) 0 := ⟨⟨(Or.inl (rd_gt_of 973 rfl rfl)), (rd_gt_of 57 rfl rfl), (rd_gt_of 976 rfl rfl), by decide +kernel, by decide +kernel, by decide⟩, (rd_gt_of 975 rfl rfl), (rd_gt_of 43 rfl rfl), TX5, 25, rfl, by decide⟩
set_option maxRecDepth 100000 in
theorem km_X5_224 : rd_CV RX5 224 5 yX5_better cX5_better 4 (some .int) 3 := ⟨⟨(Or.inl (rd_gt_of 977 rfl rfl)), (rd_gt_of 57 rfl rfl), (rd_gt_of 980 rfl rfl), by decide +kernel, by decide +kernel, by decide⟩, (rd_gt_of 979 rfl rfl), (rd_gt_of 44 rfl rfl), TX5, 25, rfl, by decide⟩
set_option maxRecDepth 100000 in
theorem km_L_116 : rd_CV RL 116 5 yX5_odds cX5_odds 10 (some .int) 3 := ⟨⟨(Or.inl (rd_gt_of 981 rfl rfl)), (rd_gt_of 57 rfl rfl), (rd_gt_of 984 rfl rfl), by decide +kernel, by decide +kernel, by decide⟩, (rd_gt_of 982 rfl rfl), (rd_gt_of 983 rfl rfl), TX5, 25, rfl, by decide⟩
set_option maxRecDepth 100000 in
theorem kc_X5_228 : Cond.constantLong RX5 228 (10) ∈ rd_gt := (rd_gt_of 985 rfl rfl)
set_option maxRecDepth 100000 in
theorem km_L_120 : rd_CV RL 120 5 yX5_evening cX5_evening 10 (some .int) 3 := ⟨⟨(Or.inl (rd_gt_of 986 rfl rfl)), (rd_gt_of 57 rfl rfl), (rd_gt_of 989 rfl rfl), by decide +kernel, by decide +kernel, by decide⟩, (rd_gt_of 987 rfl rfl), (rd_gt_of 988 rfl rfl), TX5, 25, rfl, by decide⟩
set_option maxRecDepth 100000 in
theorem kc_X5_230 : Cond.constantLong RX5 230 (9999) ∈ rd_gt := (rd_gt_of 990 rfl rfl)
set_option maxRecDepth 100000 in
theorem kc_X5_232 : Cond.constantLong RX5 232 (60) ∈ rd_gt := (rd_gt_of 991 rfl rfl)
set_option maxRecDepth 100000 in
theorem kc_X5_234 : Cond.constantLong RX5 234 (7919) ∈ rd_gt := (rd_gt_of 992 rfl rfl)
set_option maxRecDepth 100000 in
theorem kc_X5_236 : Cond.constantLong RX5 236 (6151) ∈ rd_gt := (rd_gt_of 993 rfl rfl)
set_option maxRecDepth 100000 in
theorem kc_X5_238 : Cond.constantLong RX5 238 (65521) ∈ rd_gt := (rd_gt_of 994 rfl rfl)
set_option maxRecDepth 100000 in
theorem km_L_124 : rd_CV RL 124 5 yX5_keep cX5_keep 2 (some .int) 0 := ⟨⟨(Or.inl (rd_gt_of 995 rfl rfl)), (rd_gt_of 57 rfl rfl), (rd_gt_of 998 rfl rfl), by decide +kernel, by decide +kernel, by decide⟩, (rd_gt_of 996 rfl rfl), (rd_gt_of 997 rfl rfl), TX5, 25, rfl, by decide⟩
set_option maxRecDepth 100000 in
theorem km_L_128 : rd_CV RL 128 5 yX5_back cX5_back 2 (some .int) 0 := ⟨⟨(Or.inl (rd_gt_of 999 rfl rfl)), (rd_gt_of 57 rfl rfl), (rd_gt_of 1002 rfl rfl), by decide +kernel, by decide +kernel, by decide⟩, (rd_gt_of 1000 rfl rfl), (rd_gt_of 1001 rfl rfl), TX5, 25, rfl, by decide⟩
set_option maxRecDepth 100000 in
theorem km_L_132 : rd_CV RL 132 5 yX5_count cX5_count 2 (some .int) 1 := ⟨⟨(Or.inl (rd_gt_of 1003 rfl rfl)), (rd_gt_of 57 rfl rfl), (rd_gt_of 1006 rfl rfl), by decide +kernel, by decide +kernel, by decide⟩, (rd_gt_of 1004 rfl rfl), (rd_gt_of 1005 rfl rfl), TX5, 25, rfl, by decide⟩
set_option maxRecDepth 100000 in
theorem kh_max : Cond.static Lib.Math.max.name ∈ rd_gt ∧ Cond.initialized "java/lang/Math" ∈ rd_gt ∧ Cond.code Lib.Math.max.name Lib.Math.max.code 2 (some .int) ∈ rd_gt := ⟨(rd_gt_of 135 rfl rfl), (rd_gt_of 50 rfl rfl), (rd_gt_of 136 rfl rfl)⟩
set_option maxRecDepth 100000 in
theorem kh_min : Cond.static Lib.Math.min.name ∈ rd_gt ∧ Cond.initialized "java/lang/Math" ∈ rd_gt ∧ Cond.code Lib.Math.min.name Lib.Math.min.code 2 (some .int) ∈ rd_gt := ⟨(rd_gt_of 434 rfl rfl), (rd_gt_of 50 rfl rfl), (rd_gt_of 435 rfl rfl)⟩
set_option maxRecDepth 100000 in
theorem kh_abs : Cond.static Lib.Math.abs.name ∈ rd_gt ∧ Cond.initialized "java/lang/Math" ∈ rd_gt ∧ Cond.code Lib.Math.abs.name Lib.Math.abs.code 1 (some .int) ∈ rd_gt := ⟨(rd_gt_of 423 rfl rfl), (rd_gt_of 50 rfl rfl), (rd_gt_of 424 rfl rfl)⟩
end
section
/-- exactly this answer, and this store -/
abbrev rd_is (v : Option Value) (σ1 : rd_S) : Option Value → rd_S → Prop := fun r s => r = v ∧ s = σ1
section
variable {N d : Nat} {own : String} {cc : ByteArray} {nL : Nat} {ret : Option FieldType} {pc : Nat} {ls st : List Value} {σ : rd_S} {Q : Option Value → rd_S → Prop}
theorem rd_start {y : MethodName} {as : List Value} (own : String) (ls : List Value) (ho : y.cls = own) (hy : plainName y.cls = true) (hls : rd_en as ++ List.replicate (nL - (rd_en as).length) (.retAddr 0) = ls) (hlen : (rd_en as).length ≤ nL)
    (h : rd_W N d own cc nL ret 0 ls [] σ Q) : rd_T N d y cc nL ret as σ Q := by
  subst ho
  exact rd_intro ls hy hls hlen h
theorem rr_if_eqJ {x : Int32} {off : Int} (tgt pj : Nat) (a b : Int32) (hd : decode cc pc = .ok (.ifCond .eq off, 3)) (ht : (pc : Int) + off = (tgt : Int)) (kt : x = 0 → rd_W N d own cc nL ret pj ls (.int a :: st) σ Q → rd_W N d own cc nL ret tgt ls st σ Q) (kf : ¬ x = 0 → rd_W N d own cc nL ret pj ls (.int b :: st) σ Q → rd_W N d own cc nL ret (pc + 3) ls st σ Q) (k : rd_W N d own cc nL ret pj ls (.int (if x = 0 then a else b) :: st) σ Q) : rd_W N d own cc nL ret pc ls (.int x :: st) σ Q :=
  rr_if_eq tgt hd ht (fun h => kt h (by rw [if_pos h] at k; exact k)) (fun h => kf h (by rw [if_neg h] at k; exact k))
theorem rr_if_eqS {x : Int32} {off : Int} (tgt pj : Nat) (a b : rd_S) (hd : decode cc pc = .ok (.ifCond .eq off, 3)) (ht : (pc : Int) + off = (tgt : Int)) (kt : x = 0 → rd_W N d own cc nL ret pj ls st a Q → rd_W N d own cc nL ret tgt ls st σ Q) (kf : ¬ x = 0 → rd_W N d own cc nL ret pj ls st b Q → rd_W N d own cc nL ret (pc + 3) ls st σ Q) (k : rd_W N d own cc nL ret pj ls st (if x = 0 then a else b) Q) : rd_W N d own cc nL ret pc ls (.int x :: st) σ Q :=
  rr_if_eq tgt hd ht (fun h => kt h (by rw [if_pos h] at k; exact k)) (fun h => kf h (by rw [if_neg h] at k; exact k))
theorem rr_icmp_eqJ {x y : Int32} {off : Int} (tgt pj : Nat) (a b : Int32) (hd : decode cc pc = .ok (.if_icmp .eq off, 3)) (ht : (pc : Int) + off = (tgt : Int)) (kt : x = y → rd_W N d own cc nL ret pj ls (.int a :: st) σ Q → rd_W N d own cc nL ret tgt ls st σ Q) (kf : ¬ x = y → rd_W N d own cc nL ret pj ls (.int b :: st) σ Q → rd_W N d own cc nL ret (pc + 3) ls st σ Q) (k : rd_W N d own cc nL ret pj ls (.int (if x = y then a else b) :: st) σ Q) : rd_W N d own cc nL ret pc ls (.int y :: .int x :: st) σ Q :=
  rr_icmp_eq tgt hd ht (fun h => kt h (by rw [if_pos h] at k; exact k)) (fun h => kf h (by rw [if_neg h] at k; exact k))
theorem rr_icmp_eqS {x y : Int32} {off : Int} (tgt pj : Nat) (a b : rd_S) (hd : decode cc pc = .ok (.if_icmp .eq off, 3)) (ht : (pc : Int) + off = (tgt : Int)) (kt : x = y → rd_W N d own cc nL ret pj ls st a Q → rd_W N d own cc nL ret tgt ls st σ Q) (kf : ¬ x = y → rd_W N d own cc nL ret pj ls st b Q → rd_W N d own cc nL ret (pc + 3) ls st σ Q) (k : rd_W N d own cc nL ret pj ls st (if x = y then a else b) Q) : rd_W N d own cc nL ret pc ls (.int y :: .int x :: st) σ Q :=
  rr_icmp_eq tgt hd ht (fun h => kt h (by rw [if_pos h] at k; exact k)) (fun h => kf h (by rw [if_neg h] at k; exact k))
theorem rr_if_neJ {x : Int32} {off : Int} (tgt pj : Nat) (a b : Int32) (hd : decode cc pc = .ok (.ifCond .ne off, 3)) (ht : (pc : Int) + off = (tgt : Int)) (kt : ¬ x = 0 → rd_W N d own cc nL ret pj ls (.int a :: st) σ Q → rd_W N d own cc nL ret tgt ls st σ Q) (kf : x = 0 → rd_W N d own cc nL ret pj ls (.int b :: st) σ Q → rd_W N d own cc nL ret (pc + 3) ls st σ Q) (k : rd_W N d own cc nL ret pj ls (.int (if x = 0 then b else a) :: st) σ Q) : rd_W N d own cc nL ret pc ls (.int x :: st) σ Q :=
  rr_if_ne tgt hd ht (fun h => kt h (by rw [if_neg h] at k; exact k)) (fun h => kf h (by rw [if_pos h] at k; exact k))
theorem rr_if_neS {x : Int32} {off : Int} (tgt pj : Nat) (a b : rd_S) (hd : decode cc pc = .ok (.ifCond .ne off, 3)) (ht : (pc : Int) + off = (tgt : Int)) (kt : ¬ x = 0 → rd_W N d own cc nL ret pj ls st a Q → rd_W N d own cc nL ret tgt ls st σ Q) (kf : x = 0 → rd_W N d own cc nL ret pj ls st b Q → rd_W N d own cc nL ret (pc + 3) ls st σ Q) (k : rd_W N d own cc nL ret pj ls st (if x = 0 then b else a) Q) : rd_W N d own cc nL ret pc ls (.int x :: st) σ Q :=
  rr_if_ne tgt hd ht (fun h => kt h (by rw [if_neg h] at k; exact k)) (fun h => kf h (by rw [if_pos h] at k; exact k))
theorem rr_icmp_neJ {x y : Int32} {off : Int} (tgt pj : Nat) (a b : Int32) (hd : decode cc pc = .ok (.if_icmp .ne off, 3)) (ht : (pc : Int) + off = (tgt : Int)) (kt : ¬ x = y → rd_W N d own cc nL ret pj ls (.int a :: st) σ Q → rd_W N d own cc nL ret tgt ls st σ Q) (kf : x = y → rd_W N d own cc nL ret pj ls (.int b :: st) σ Q → rd_W N d own cc nL ret (pc + 3) ls st σ Q) (k : rd_W N d own cc nL ret pj ls (.int (if x = y then b else a) :: st) σ Q) : rd_W N d own cc nL ret pc ls (.int y :: .int x :: st) σ Q :=
  rr_icmp_ne tgt hd ht (fun h => kt h (by rw [if_neg h] at k; exact k)) (fun h => kf h (by rw [if_pos h] at k; exact k))
theorem rr_icmp_neS {x y : Int32} {off : Int} (tgt pj : Nat) (a b : rd_S) (hd : decode cc pc = .ok (.if_icmp .ne off, 3)) (ht : (pc : Int) + off = (tgt : Int)) (kt : ¬ x = y → rd_W N d own cc nL ret pj ls st a Q → rd_W N d own cc nL ret tgt ls st σ Q) (kf : x = y → rd_W N d own cc nL ret pj ls st b Q → rd_W N d own cc nL ret (pc + 3) ls st σ Q) (k : rd_W N d own cc nL ret pj ls st (if x = y then b else a) Q) : rd_W N d own cc nL ret pc ls (.int y :: .int x :: st) σ Q :=
  rr_icmp_ne tgt hd ht (fun h => kt h (by rw [if_neg h] at k; exact k)) (fun h => kf h (by rw [if_pos h] at k; exact k))
theorem rr_if_ltJ {x : Int32} {off : Int} (tgt pj : Nat) (a b : Int32) (hd : decode cc pc = .ok (.ifCond .lt off, 3)) (ht : (pc : Int) + off = (tgt : Int)) (kt : x < 0 → rd_W N d own cc nL ret pj ls (.int a :: st) σ Q → rd_W N d own cc nL ret tgt ls st σ Q) (kf : ¬ x < 0 → rd_W N d own cc nL ret pj ls (.int b :: st) σ Q → rd_W N d own cc nL ret (pc + 3) ls st σ Q) (k : rd_W N d own cc nL ret pj ls (.int (if x < 0 then a else b) :: st) σ Q) : rd_W N d own cc nL ret pc ls (.int x :: st) σ Q :=
  rr_if_lt tgt hd ht (fun h => kt h (by rw [if_pos h] at k; exact k)) (fun h => kf h (by rw [if_neg h] at k; exact k))
theorem rr_if_ltS {x : Int32} {off : Int} (tgt pj : Nat) (a b : rd_S) (hd : decode cc pc = .ok (.ifCond .lt off, 3)) (ht : (pc : Int) + off = (tgt : Int)) (kt : x < 0 → rd_W N d own cc nL ret pj ls st a Q → rd_W N d own cc nL ret tgt ls st σ Q) (kf : ¬ x < 0 → rd_W N d own cc nL ret pj ls st b Q → rd_W N d own cc nL ret (pc + 3) ls st σ Q) (k : rd_W N d own cc nL ret pj ls st (if x < 0 then a else b) Q) : rd_W N d own cc nL ret pc ls (.int x :: st) σ Q :=
  rr_if_lt tgt hd ht (fun h => kt h (by rw [if_pos h] at k; exact k)) (fun h => kf h (by rw [if_neg h] at k; exact k))
theorem rr_icmp_ltJ {x y : Int32} {off : Int} (tgt pj : Nat) (a b : Int32) (hd : decode cc pc = .ok (.if_icmp .lt off, 3)) (ht : (pc : Int) + off = (tgt : Int)) (kt : x < y → rd_W N d own cc nL ret pj ls (.int a :: st) σ Q → rd_W N d own cc nL ret tgt ls st σ Q) (kf : ¬ x < y → rd_W N d own cc nL ret pj ls (.int b :: st) σ Q → rd_W N d own cc nL ret (pc + 3) ls st σ Q) (k : rd_W N d own cc nL ret pj ls (.int (if x < y then a else b) :: st) σ Q) : rd_W N d own cc nL ret pc ls (.int y :: .int x :: st) σ Q :=
  rr_icmp_lt tgt hd ht (fun h => kt h (by rw [if_pos h] at k; exact k)) (fun h => kf h (by rw [if_neg h] at k; exact k))
theorem rr_icmp_ltS {x y : Int32} {off : Int} (tgt pj : Nat) (a b : rd_S) (hd : decode cc pc = .ok (.if_icmp .lt off, 3)) (ht : (pc : Int) + off = (tgt : Int)) (kt : x < y → rd_W N d own cc nL ret pj ls st a Q → rd_W N d own cc nL ret tgt ls st σ Q) (kf : ¬ x < y → rd_W N d own cc nL ret pj ls st b Q → rd_W N d own cc nL ret (pc + 3) ls st σ Q) (k : rd_W N d own cc nL ret pj ls st (if x < y then a else b) Q) : rd_W N d own cc nL ret pc ls (.int y :: .int x :: st) σ Q :=
  rr_icmp_lt tgt hd ht (fun h => kt h (by rw [if_pos h] at k; exact k)) (fun h => kf h (by rw [if_neg h] at k; exact k))
theorem rr_if_geJ {x : Int32} {off : Int} (tgt pj : Nat) (a b : Int32) (hd : decode cc pc = .ok (.ifCond .ge off, 3)) (ht : (pc : Int) + off = (tgt : Int)) (kt : 0 ≤ x → rd_W N d own cc nL ret pj ls (.int a :: st) σ Q → rd_W N d own cc nL ret tgt ls st σ Q) (kf : ¬ 0 ≤ x → rd_W N d own cc nL ret pj ls (.int b :: st) σ Q → rd_W N d own cc nL ret (pc + 3) ls st σ Q) (k : rd_W N d own cc nL ret pj ls (.int (if 0 ≤ x then a else b) :: st) σ Q) : rd_W N d own cc nL ret pc ls (.int x :: st) σ Q :=
  rr_if_ge tgt hd ht (fun h => kt h (by rw [if_pos h] at k; exact k)) (fun h => kf h (by rw [if_neg h] at k; exact k))
theorem rr_if_geS {x : Int32} {off : Int} (tgt pj : Nat) (a b : rd_S) (hd : decode cc pc = .ok (.ifCond .ge off, 3)) (ht : (pc : Int) + off = (tgt : Int)) (kt : 0 ≤ x → rd_W N d own cc nL ret pj ls st a Q → rd_W N d own cc nL ret tgt ls st σ Q) (kf : ¬ 0 ≤ x → rd_W N d own cc nL ret pj ls st b Q → rd_W N d own cc nL ret (pc + 3) ls st σ Q) (k : rd_W N d own cc nL ret pj ls st (if 0 ≤ x then a else b) Q) : rd_W N d own cc nL ret pc ls (.int x :: st) σ Q :=
  rr_if_ge tgt hd ht (fun h => kt h (by rw [if_pos h] at k; exact k)) (fun h => kf h (by rw [if_neg h] at k; exact k))
theorem rr_icmp_geJ {x y : Int32} {off : Int} (tgt pj : Nat) (a b : Int32) (hd : decode cc pc = .ok (.if_icmp .ge off, 3)) (ht : (pc : Int) + off = (tgt : Int)) (kt : y ≤ x → rd_W N d own cc nL ret pj ls (.int a :: st) σ Q → rd_W N d own cc nL ret tgt ls st σ Q) (kf : ¬ y ≤ x → rd_W N d own cc nL ret pj ls (.int b :: st) σ Q → rd_W N d own cc nL ret (pc + 3) ls st σ Q) (k : rd_W N d own cc nL ret pj ls (.int (if y ≤ x then a else b) :: st) σ Q) : rd_W N d own cc nL ret pc ls (.int y :: .int x :: st) σ Q :=
  rr_icmp_ge tgt hd ht (fun h => kt h (by rw [if_pos h] at k; exact k)) (fun h => kf h (by rw [if_neg h] at k; exact k))
theorem rr_icmp_geS {x y : Int32} {off : Int} (tgt pj : Nat) (a b : rd_S) (hd : decode cc pc = .ok (.if_icmp .ge off, 3)) (ht : (pc : Int) + off = (tgt : Int)) (kt : y ≤ x → rd_W N d own cc nL ret pj ls st a Q → rd_W N d own cc nL ret tgt ls st σ Q) (kf : ¬ y ≤ x → rd_W N d own cc nL ret pj ls st b Q → rd_W N d own cc nL ret (pc + 3) ls st σ Q) (k : rd_W N d own cc nL ret pj ls st (if y ≤ x then a else b) Q) : rd_W N d own cc nL ret pc ls (.int y :: .int x :: st) σ Q :=
  rr_icmp_ge tgt hd ht (fun h => kt h (by rw [if_pos h] at k; exact k)) (fun h => kf h (by rw [if_neg h] at k; exact k))
theorem rr_if_gtJ {x : Int32} {off : Int} (tgt pj : Nat) (a b : Int32) (hd : decode cc pc = .ok (.ifCond .gt off, 3)) (ht : (pc : Int) + off = (tgt : Int)) (kt : 0 < x → rd_W N d own cc nL ret pj ls (.int a :: st) σ Q → rd_W N d own cc nL ret tgt ls st σ Q) (kf : ¬ 0 < x → rd_W N d own cc nL ret pj ls (.int b :: st) σ Q → rd_W N d own cc nL ret (pc + 3) ls st σ Q) (k : rd_W N d own cc nL ret pj ls (.int (if 0 < x then a else b) :: st) σ Q) : rd_W N d own cc nL ret pc ls (.int x :: st) σ Q :=
  rr_if_gt tgt hd ht (fun h => kt h (by rw [if_pos h] at k; exact k)) (fun h => kf h (by rw [if_neg h] at k; exact k))
theorem rr_if_gtS {x : Int32} {off : Int} (tgt pj : Nat) (a b : rd_S) (hd : decode cc pc = .ok (.ifCond .gt off, 3)) (ht : (pc : Int) + off = (tgt : Int)) (kt : 0 < x → rd_W N d own cc nL ret pj ls st a Q → rd_W N d own cc nL ret tgt ls st σ Q) (kf : ¬ 0 < x → rd_W N d own cc nL ret pj ls st b Q → rd_W N d own cc nL ret (pc + 3) ls st σ Q) (k : rd_W N d own cc nL ret pj ls st (if 0 < x then a else b) Q) : rd_W N d own cc nL ret pc ls (.int x :: st) σ Q :=
  rr_if_gt tgt hd ht (fun h => kt h (by rw [if_pos h] at k; exact k)) (fun h => kf h (by rw [if_neg h] at k; exact k))
theorem rr_icmp_gtJ {x y : Int32} {off : Int} (tgt pj : Nat) (a b : Int32) (hd : decode cc pc = .ok (.if_icmp .gt off, 3)) (ht : (pc : Int) + off = (tgt : Int)) (kt : y < x → rd_W N d own cc nL ret pj ls (.int a :: st) σ Q → rd_W N d own cc nL ret tgt ls st σ Q) (kf : ¬ y < x → rd_W N d own cc nL ret pj ls (.int b :: st) σ Q → rd_W N d own cc nL ret (pc + 3) ls st σ Q) (k : rd_W N d own cc nL ret pj ls (.int (if y < x then a else b) :: st) σ Q) : rd_W N d own cc nL ret pc ls (.int y :: .int x :: st) σ Q :=
  rr_icmp_gt tgt hd ht (fun h => kt h (by rw [if_pos h] at k; exact k)) (fun h => kf h (by rw [if_neg h] at k; exact k))
theorem rr_icmp_gtS {x y : Int32} {off : Int} (tgt pj : Nat) (a b : rd_S) (hd : decode cc pc = .ok (.if_icmp .gt off, 3)) (ht : (pc : Int) + off = (tgt : Int)) (kt : y < x → rd_W N d own cc nL ret pj ls st a Q → rd_W N d own cc nL ret tgt ls st σ Q) (kf : ¬ y < x → rd_W N d own cc nL ret pj ls st b Q → rd_W N d own cc nL ret (pc + 3) ls st σ Q) (k : rd_W N d own cc nL ret pj ls st (if y < x then a else b) Q) : rd_W N d own cc nL ret pc ls (.int y :: .int x :: st) σ Q :=
  rr_icmp_gt tgt hd ht (fun h => kt h (by rw [if_pos h] at k; exact k)) (fun h => kf h (by rw [if_neg h] at k; exact k))
theorem rr_if_leJ {x : Int32} {off : Int} (tgt pj : Nat) (a b : Int32) (hd : decode cc pc = .ok (.ifCond .le off, 3)) (ht : (pc : Int) + off = (tgt : Int)) (kt : x ≤ 0 → rd_W N d own cc nL ret pj ls (.int a :: st) σ Q → rd_W N d own cc nL ret tgt ls st σ Q) (kf : ¬ x ≤ 0 → rd_W N d own cc nL ret pj ls (.int b :: st) σ Q → rd_W N d own cc nL ret (pc + 3) ls st σ Q) (k : rd_W N d own cc nL ret pj ls (.int (if x ≤ 0 then a else b) :: st) σ Q) : rd_W N d own cc nL ret pc ls (.int x :: st) σ Q :=
  rr_if_le tgt hd ht (fun h => kt h (by rw [if_pos h] at k; exact k)) (fun h => kf h (by rw [if_neg h] at k; exact k))
theorem rr_if_leS {x : Int32} {off : Int} (tgt pj : Nat) (a b : rd_S) (hd : decode cc pc = .ok (.ifCond .le off, 3)) (ht : (pc : Int) + off = (tgt : Int)) (kt : x ≤ 0 → rd_W N d own cc nL ret pj ls st a Q → rd_W N d own cc nL ret tgt ls st σ Q) (kf : ¬ x ≤ 0 → rd_W N d own cc nL ret pj ls st b Q → rd_W N d own cc nL ret (pc + 3) ls st σ Q) (k : rd_W N d own cc nL ret pj ls st (if x ≤ 0 then a else b) Q) : rd_W N d own cc nL ret pc ls (.int x :: st) σ Q :=
  rr_if_le tgt hd ht (fun h => kt h (by rw [if_pos h] at k; exact k)) (fun h => kf h (by rw [if_neg h] at k; exact k))
theorem rr_icmp_leJ {x y : Int32} {off : Int} (tgt pj : Nat) (a b : Int32) (hd : decode cc pc = .ok (.if_icmp .le off, 3)) (ht : (pc : Int) + off = (tgt : Int)) (kt : x ≤ y → rd_W N d own cc nL ret pj ls (.int a :: st) σ Q → rd_W N d own cc nL ret tgt ls st σ Q) (kf : ¬ x ≤ y → rd_W N d own cc nL ret pj ls (.int b :: st) σ Q → rd_W N d own cc nL ret (pc + 3) ls st σ Q) (k : rd_W N d own cc nL ret pj ls (.int (if x ≤ y then a else b) :: st) σ Q) : rd_W N d own cc nL ret pc ls (.int y :: .int x :: st) σ Q :=
  rr_icmp_le tgt hd ht (fun h => kt h (by rw [if_pos h] at k; exact k)) (fun h => kf h (by rw [if_neg h] at k; exact k))
theorem rr_icmp_leS {x y : Int32} {off : Int} (tgt pj : Nat) (a b : rd_S) (hd : decode cc pc = .ok (.if_icmp .le off, 3)) (ht : (pc : Int) + off = (tgt : Int)) (kt : x ≤ y → rd_W N d own cc nL ret pj ls st a Q → rd_W N d own cc nL ret tgt ls st σ Q) (kf : ¬ x ≤ y → rd_W N d own cc nL ret pj ls st b Q → rd_W N d own cc nL ret (pc + 3) ls st σ Q) (k : rd_W N d own cc nL ret pj ls st (if x ≤ y then a else b) Q) : rd_W N d own cc nL ret pc ls (.int y :: .int x :: st) σ Q :=
  rr_icmp_le tgt hd ht (fun h => kt h (by rw [if_pos h] at k; exact k)) (fun h => kf h (by rw [if_neg h] at k; exact k))
theorem rr_callViD {idx n d' : Nat} {o ci : Nat} {y : MethodName} {cy : ByteArray} {ny : Nat} {ty : FieldType} {as rest : List Value} {v : Int32} {σ1 : rd_S} (hT : rd_T N d' y cy ny (some ty) (.ref o :: as) σ (rd_is (some (.int v)) σ1)) (hcv : rd_CV own idx ci y cy ny (some ty) n) (hn : as.length = n) (hst : st = as.reverse ++ .ref o :: rest) (ho : o < N) (hkd : rd_kd o = ci) (hw : (rest.map Value.category).sum ≤ 8) (hd : decode cc pc = .ok (.invokevirtual idx, 3)) (kk : rd_W N (d' + 1) own cc nL ret (pc + 3) ls (.int v :: rest) σ1 Q) : rd_W N (d' + 1) own cc nL ret pc ls st σ Q :=
  rr_callVi hT hcv hn hst ho hkd hw hd (fun r s q => by obtain ⟨h1, h2⟩ := q; cases h1; subst h2; exact kk)
theorem rr_callVvD {idx n d' : Nat} {o ci : Nat} {y : MethodName} {cy : ByteArray} {ny : Nat} {as rest : List Value} {σ1 : rd_S} (hT : rd_T N d' y cy ny (none) (.ref o :: as) σ (rd_is none σ1)) (hcv : rd_CV own idx ci y cy ny (none) n) (hn : as.length = n) (hst : st = as.reverse ++ .ref o :: rest) (ho : o < N) (hkd : rd_kd o = ci) (hw : (rest.map Value.category).sum ≤ 8) (hd : decode cc pc = .ok (.invokevirtual idx, 3)) (kk : rd_W N (d' + 1) own cc nL ret (pc + 3) ls rest σ1 Q) : rd_W N (d' + 1) own cc nL ret pc ls st σ Q :=
  rr_callVv hT hcv hn hst ho hkd hw hd (fun s q => by obtain ⟨h1, h2⟩ := q; cases h1; subst h2; exact kk)
theorem rr_callSiD {idx n d' : Nat} {y : MethodName} {cy : ByteArray} {ny : Nat} {ty : FieldType} {as rest : List Value} {v : Int32} {σ1 : rd_S} (hT : rd_T N d' y cy ny (some ty) as σ (rd_is (some (.int v)) σ1)) (hcv : rd_CS own idx y cy ny (some ty) n) (hn : as.length = n) (hst : st = as.reverse ++ rest)  (hw : (rest.map Value.category).sum ≤ 8) (hd : decode cc pc = .ok (.invokestatic idx, 3)) (kk : rd_W N (d' + 1) own cc nL ret (pc + 3) ls (.int v :: rest) σ1 Q) : rd_W N (d' + 1) own cc nL ret pc ls st σ Q :=
  rr_callSi hT hcv hn hst  hw hd (fun r s q => by obtain ⟨h1, h2⟩ := q; cases h1; subst h2; exact kk)
theorem rr_callSvD {idx n d' : Nat} {y : MethodName} {cy : ByteArray} {ny : Nat} {as rest : List Value} {σ1 : rd_S} (hT : rd_T N d' y cy ny (none) as σ (rd_is none σ1)) (hcv : rd_CS own idx y cy ny (none) n) (hn : as.length = n) (hst : st = as.reverse ++ rest)  (hw : (rest.map Value.category).sum ≤ 8) (hd : decode cc pc = .ok (.invokestatic idx, 3)) (kk : rd_W N (d' + 1) own cc nL ret (pc + 3) ls rest σ1 Q) : rd_W N (d' + 1) own cc nL ret pc ls st σ Q :=
  rr_callSv hT hcv hn hst  hw hd (fun s q => by obtain ⟨h1, h2⟩ := q; cases h1; subst h2; exact kk)
theorem rd_T.post {y : MethodName} {as : List Value} {Q' : Option Value → rd_S → Prop} (h : rd_T N d y cc nL ret as σ Q') (hq : ∀ r u, Q' r u → Q r u) : rd_T N d y cc nL ret as σ Q := by
  intro l g p e h1 h2 h3 s m args below h4 h5 h6 h7
  obtain ⟨k, o, a1, a2, a3, ⟨a4, a5⟩⟩ := h l g p e h1 h2 h3 s m args below h4 h5 h6 h7
  refine ⟨k, o, a1, a2, a3, ?_, a5⟩
  cases ret with
  | none =>
    obtain ⟨⟨u, q1, q2, q3⟩, q4⟩ := a4
    exact ⟨⟨u, q1, hq _ _ q2, q3⟩, q4⟩
  | some ty =>
    obtain ⟨⟨r, u, q1, q2, q3⟩, q4⟩ := a4
    exact ⟨⟨r, u, q1, hq _ _ q2, q3⟩, q4⟩
theorem rd_sub {σ' : rd_S} (e : σ = σ') (h : rd_W N d own cc nL ret pc ls st σ' Q) : rd_W N d own cc nL ret pc ls st σ Q := e ▸ h
theorem rd_top {x y : Int32} (e : x = y) (h : rd_W N d own cc nL ret pc ls (.int y :: st) σ Q) : rd_W N d own cc nL ret pc ls (.int x :: st) σ Q := e ▸ h
theorem rr_iincC_0 {x : Int32} {n : Int} (v x' : Int32) {r : List Value} (hd : decode cc pc = .ok (.iinc 0 n, 3)) (hv : Int32.ofInt n = v) (hx : x + v = x') (hok : rd_ok1 (.int x :: r) 0 = true) (k : rd_W N d own cc nL ret (pc + 3) (.int x' :: r) st σ Q) : rd_W N d own cc nL ret pc (.int x :: r) st σ Q := by
  subst hx
  exact rr_iinc_0 v hd hv hok k
theorem rr_iincC_1 {a0 : Value} {x : Int32} {n : Int} (v x' : Int32) {r : List Value} (hd : decode cc pc = .ok (.iinc 1 n, 3)) (hv : Int32.ofInt n = v) (hx : x + v = x') (hok : rd_ok1 (a0 :: .int x :: r) 1 = true) (k : rd_W N d own cc nL ret (pc + 3) (a0 :: .int x' :: r) st σ Q) : rd_W N d own cc nL ret pc (a0 :: .int x :: r) st σ Q := by
  subst hx
  exact rr_iinc_1 v hd hv hok k
theorem rr_iincC_2 {a0 a1 : Value} {x : Int32} {n : Int} (v x' : Int32) {r : List Value} (hd : decode cc pc = .ok (.iinc 2 n, 3)) (hv : Int32.ofInt n = v) (hx : x + v = x') (hok : rd_ok1 (a0 :: a1 :: .int x :: r) 2 = true) (k : rd_W N d own cc nL ret (pc + 3) (a0 :: a1 :: .int x' :: r) st σ Q) : rd_W N d own cc nL ret pc (a0 :: a1 :: .int x :: r) st σ Q := by
  subst hx
  exact rr_iinc_2 v hd hv hok k
theorem rr_iincC_3 {a0 a1 a2 : Value} {x : Int32} {n : Int} (v x' : Int32) {r : List Value} (hd : decode cc pc = .ok (.iinc 3 n, 3)) (hv : Int32.ofInt n = v) (hx : x + v = x') (hok : rd_ok1 (a0 :: a1 :: a2 :: .int x :: r) 3 = true) (k : rd_W N d own cc nL ret (pc + 3) (a0 :: a1 :: a2 :: .int x' :: r) st σ Q) : rd_W N d own cc nL ret pc (a0 :: a1 :: a2 :: .int x :: r) st σ Q := by
  subst hx
  exact rr_iinc_3 v hd hv hok k
theorem rr_iincC_4 {a0 a1 a2 a3 : Value} {x : Int32} {n : Int} (v x' : Int32) {r : List Value} (hd : decode cc pc = .ok (.iinc 4 n, 3)) (hv : Int32.ofInt n = v) (hx : x + v = x') (hok : rd_ok1 (a0 :: a1 :: a2 :: a3 :: .int x :: r) 4 = true) (k : rd_W N d own cc nL ret (pc + 3) (a0 :: a1 :: a2 :: a3 :: .int x' :: r) st σ Q) : rd_W N d own cc nL ret pc (a0 :: a1 :: a2 :: a3 :: .int x :: r) st σ Q := by
  subst hx
  exact rr_iinc_4 v hd hv hok k
theorem rr_iincC_5 {a0 a1 a2 a3 a4 : Value} {x : Int32} {n : Int} (v x' : Int32) {r : List Value} (hd : decode cc pc = .ok (.iinc 5 n, 3)) (hv : Int32.ofInt n = v) (hx : x + v = x') (hok : rd_ok1 (a0 :: a1 :: a2 :: a3 :: a4 :: .int x :: r) 5 = true) (k : rd_W N d own cc nL ret (pc + 3) (a0 :: a1 :: a2 :: a3 :: a4 :: .int x' :: r) st σ Q) : rd_W N d own cc nL ret pc (a0 :: a1 :: a2 :: a3 :: a4 :: .int x :: r) st σ Q := by
  subst hx
  exact rr_iinc_5 v hd hv hok k
theorem rr_iincC_6 {a0 a1 a2 a3 a4 a5 : Value} {x : Int32} {n : Int} (v x' : Int32) {r : List Value} (hd : decode cc pc = .ok (.iinc 6 n, 3)) (hv : Int32.ofInt n = v) (hx : x + v = x') (hok : rd_ok1 (a0 :: a1 :: a2 :: a3 :: a4 :: a5 :: .int x :: r) 6 = true) (k : rd_W N d own cc nL ret (pc + 3) (a0 :: a1 :: a2 :: a3 :: a4 :: a5 :: .int x' :: r) st σ Q) : rd_W N d own cc nL ret pc (a0 :: a1 :: a2 :: a3 :: a4 :: a5 :: .int x :: r) st σ Q := by
  subst hx
  exact rr_iinc_6 v hd hv hok k
theorem rr_iincC_7 {a0 a1 a2 a3 a4 a5 a6 : Value} {x : Int32} {n : Int} (v x' : Int32) {r : List Value} (hd : decode cc pc = .ok (.iinc 7 n, 3)) (hv : Int32.ofInt n = v) (hx : x + v = x') (hok : rd_ok1 (a0 :: a1 :: a2 :: a3 :: a4 :: a5 :: a6 :: .int x :: r) 7 = true) (k : rd_W N d own cc nL ret (pc + 3) (a0 :: a1 :: a2 :: a3 :: a4 :: a5 :: a6 :: .int x' :: r) st σ Q) : rd_W N d own cc nL ret pc (a0 :: a1 :: a2 :: a3 :: a4 :: a5 :: a6 :: .int x :: r) st σ Q := by
  subst hx
  exact rr_iinc_7 v hd hv hok k
theorem rr_iincC_8 {a0 a1 a2 a3 a4 a5 a6 a7 : Value} {x : Int32} {n : Int} (v x' : Int32) {r : List Value} (hd : decode cc pc = .ok (.iinc 8 n, 3)) (hv : Int32.ofInt n = v) (hx : x + v = x') (hok : rd_ok1 (a0 :: a1 :: a2 :: a3 :: a4 :: a5 :: a6 :: a7 :: .int x :: r) 8 = true) (k : rd_W N d own cc nL ret (pc + 3) (a0 :: a1 :: a2 :: a3 :: a4 :: a5 :: a6 :: a7 :: .int x' :: r) st σ Q) : rd_W N d own cc nL ret pc (a0 :: a1 :: a2 :: a3 :: a4 :: a5 :: a6 :: a7 :: .int x :: r) st σ Q := by
  subst hx
  exact rr_iinc_8 v hd hv hok k
theorem rr_iincC_9 {a0 a1 a2 a3 a4 a5 a6 a7 a8 : Value} {x : Int32} {n : Int} (v x' : Int32) {r : List Value} (hd : decode cc pc = .ok (.iinc 9 n, 3)) (hv : Int32.ofInt n = v) (hx : x + v = x') (hok : rd_ok1 (a0 :: a1 :: a2 :: a3 :: a4 :: a5 :: a6 :: a7 :: a8 :: .int x :: r) 9 = true) (k : rd_W N d own cc nL ret (pc + 3) (a0 :: a1 :: a2 :: a3 :: a4 :: a5 :: a6 :: a7 :: a8 :: .int x' :: r) st σ Q) : rd_W N d own cc nL ret pc (a0 :: a1 :: a2 :: a3 :: a4 :: a5 :: a6 :: a7 :: a8 :: .int x :: r) st σ Q := by
  subst hx
  exact rr_iinc_9 v hd hv hok k
theorem rr_iincC_10 {a0 a1 a2 a3 a4 a5 a6 a7 a8 a9 : Value} {x : Int32} {n : Int} (v x' : Int32) {r : List Value} (hd : decode cc pc = .ok (.iinc 10 n, 3)) (hv : Int32.ofInt n = v) (hx : x + v = x') (hok : rd_ok1 (a0 :: a1 :: a2 :: a3 :: a4 :: a5 :: a6 :: a7 :: a8 :: a9 :: .int x :: r) 10 = true) (k : rd_W N d own cc nL ret (pc + 3) (a0 :: a1 :: a2 :: a3 :: a4 :: a5 :: a6 :: a7 :: a8 :: a9 :: .int x' :: r) st σ Q) : rd_W N d own cc nL ret pc (a0 :: a1 :: a2 :: a3 :: a4 :: a5 :: a6 :: a7 :: a8 :: a9 :: .int x :: r) st σ Q := by
  subst hx
  exact rr_iinc_10 v hd hv hok k
theorem rr_iincC_11 {a0 a1 a2 a3 a4 a5 a6 a7 a8 a9 a10 : Value} {x : Int32} {n : Int} (v x' : Int32) {r : List Value} (hd : decode cc pc = .ok (.iinc 11 n, 3)) (hv : Int32.ofInt n = v) (hx : x + v = x') (hok : rd_ok1 (a0 :: a1 :: a2 :: a3 :: a4 :: a5 :: a6 :: a7 :: a8 :: a9 :: a10 :: .int x :: r) 11 = true) (k : rd_W N d own cc nL ret (pc + 3) (a0 :: a1 :: a2 :: a3 :: a4 :: a5 :: a6 :: a7 :: a8 :: a9 :: a10 :: .int x' :: r) st σ Q) : rd_W N d own cc nL ret pc (a0 :: a1 :: a2 :: a3 :: a4 :: a5 :: a6 :: a7 :: a8 :: a9 :: a10 :: .int x :: r) st σ Q := by
  subst hx
  exact rr_iinc_11 v hd hv hok k
theorem rr_iincC_12 {a0 a1 a2 a3 a4 a5 a6 a7 a8 a9 a10 a11 : Value} {x : Int32} {n : Int} (v x' : Int32) {r : List Value} (hd : decode cc pc = .ok (.iinc 12 n, 3)) (hv : Int32.ofInt n = v) (hx : x + v = x') (hok : rd_ok1 (a0 :: a1 :: a2 :: a3 :: a4 :: a5 :: a6 :: a7 :: a8 :: a9 :: a10 :: a11 :: .int x :: r) 12 = true) (k : rd_W N d own cc nL ret (pc + 3) (a0 :: a1 :: a2 :: a3 :: a4 :: a5 :: a6 :: a7 :: a8 :: a9 :: a10 :: a11 :: .int x' :: r) st σ Q) : rd_W N d own cc nL ret pc (a0 :: a1 :: a2 :: a3 :: a4 :: a5 :: a6 :: a7 :: a8 :: a9 :: a10 :: a11 :: .int x :: r) st σ Q := by
  subst hx
  exact rr_iinc_12 v hd hv hok k
theorem rr_iincC_13 {a0 a1 a2 a3 a4 a5 a6 a7 a8 a9 a10 a11 a12 : Value} {x : Int32} {n : Int} (v x' : Int32) {r : List Value} (hd : decode cc pc = .ok (.iinc 13 n, 3)) (hv : Int32.ofInt n = v) (hx : x + v = x') (hok : rd_ok1 (a0 :: a1 :: a2 :: a3 :: a4 :: a5 :: a6 :: a7 :: a8 :: a9 :: a10 :: a11 :: a12 :: .int x :: r) 13 = true) (k : rd_W N d own cc nL ret (pc + 3) (a0 :: a1 :: a2 :: a3 :: a4 :: a5 :: a6 :: a7 :: a8 :: a9 :: a10 :: a11 :: a12 :: .int x' :: r) st σ Q) : rd_W N d own cc nL ret pc (a0 :: a1 :: a2 :: a3 :: a4 :: a5 :: a6 :: a7 :: a8 :: a9 :: a10 :: a11 :: a12 :: .int x :: r) st σ Q := by
  subst hx
  exact rr_iinc_13 v hd hv hok k
end
end
section
/-! ===== the class's Stand: what its methods do, as functions of its six ints ===== -/
abbrev sd_D : Type := Int32 × Int32 × Int32 × Int32 × Int32 × Int32
def sd_rd (σ : rd_S) (o : Nat) : sd_D := (σ o 0, σ o 1, σ o 2, σ o 3, σ o 4, σ o 5)
def sd_wr (σ : rd_S) (o : Nat) (D : sd_D) : rd_S := fun a b => if a = o then (if b = 0 then D.1 else if b = 1 then D.2.1 else if b = 2 then D.2.2.1 else if b = 3 then D.2.2.2.1 else if b = 4 then D.2.2.2.2.1 else if b = 5 then D.2.2.2.2.2 else σ a b) else σ a b
theorem sd_ext {f g : rd_S} (o : Nat) (h : ∀ a b, a ≠ o → f a b = g a b) (h0 : f o 0 = g o 0) (h1 : f o 1 = g o 1) (h2 : f o 2 = g o 2) (h3 : f o 3 = g o 3) (h4 : f o 4 = g o 4) (h5 : f o 5 = g o 5) (h6 : ∀ b, f o (b + 6) = g o (b + 6)) : f = g := by
  funext a b
  by_cases ha : a = o
  · subst ha
    match b with
    | 0 => exact h0
    | 1 => exact h1
    | 2 => exact h2
    | 3 => exact h3
    | 4 => exact h4
    | 5 => exact h5
    | b + 6 => exact h6 b
  · exact h a b ha
def sd_who (x p : Int32) : Int32 := (x >>> ((2 * p) &&& 31)) &&& 3
def sd_rope (x i : Int32) : Int32 := (x >>> (i &&& 31)) &&& 1
def sd_kind (kb i : Int32) : Int32 := (kb >>> ((3 * i) &&& 31)) &&& 7
def sd_withKind (kb i kind : Int32) : Int32 := (kb &&& ((7 <<< ((3 * i) &&& 31)) ^^^ (-1))) ||| (kind <<< ((3 * i) &&& 31))
def sd_abs (x : Int32) : Int32 := if 0 ≤ x then x else 0 - x
def sd_place (x i : Int32) : Int32 := if sd_who x 0 = i then 0 else if sd_who x 1 = i then 1 else if sd_who x 2 = i then 2 else if sd_who x 3 = i then 3 else -1
def sd_told (f : Int32) : Int32 := if f = 0 then 1 else -1
def sd_tw (D : sd_D) (f kb : Int32) : Int32 :=
  if f = 0 ∨ f = 1 then
    (if sd_kind kb (sd_who D.1 1) = 1 then - sd_told f
    else if sd_kind kb (sd_who D.1 1) = 2 then (if D.2.2.2.2.2 - D.2.2.2.2.2 / 2 * 2 = 0 then sd_told f else 0)
    else if sd_kind kb (sd_who D.1 1) = 3 then 2 * sd_told f
    else if sd_kind kb (sd_who D.1 1) = 4 then (if sd_rope D.2.1 (sd_who D.1 1) = sd_rope D.2.1 (sd_who D.1 2) then 0 else sd_told f)
    else if sd_kind kb (sd_who D.1 1) = 5 then (if D.2.2.2.2.1 = 0 then sd_told f else D.2.2.2.2.1)
    else sd_told f)
  else 0
def sd_tight (D : sd_D) (t : Int32) : Prop := 9999 < sd_abs (D.2.2.1 + t * D.2.2.2.1)
def sd_turn (D : sd_D) : sd_D := (((D.1 <<< (2 &&& 31)) ||| (D.1 >>> (6 &&& 31))) &&& 255, D.2.1, if D.2.2.1 = 0 then 1 else if D.2.2.1 ≤ 0 then D.2.2.2.1 else - D.2.2.2.1, if D.2.2.1 = 0 then 0 else sd_abs D.2.2.1, D.2.2.2.2.1, D.2.2.2.2.2)
def sd_swap (x p q : Int32) : Int32 := x ^^^ (((((x >>> ((2 * p) &&& 31)) ^^^ (x >>> ((2 * q) &&& 31))) &&& 3) <<< ((2 * p) &&& 31)) ||| ((((x >>> ((2 * p) &&& 31)) ^^^ (x >>> ((2 * q) &&& 31))) &&& 3) <<< ((2 * q) &&& 31)))
def sd_begin (x : Int32) : sd_D := (x, (1 <<< (sd_who x 2 &&& 31)) ||| (1 <<< (sd_who x 3 &&& 31)), 0, 1, 0, 0)
def sd_go (D : sd_D) (f t : Int32) : sd_D := match (if f = 2 then sd_turn D else D) with
  | (x, r, u, l, la, b) => (if t - t / 2 * 2 = 0 then x else sd_swap x 1 2, r, u + t * l, l, if t = 0 then la else if t ≤ 0 then -1 else 1, b + 1)
def sd_xch (D : sd_D) (i j : Int32) : sd_D := (sd_swap D.1 (sd_place D.1 i) (sd_place D.1 j), D.2.1 ^^^ (((sd_rope D.2.1 i ^^^ sd_rope D.2.1 j) <<< (i &&& 31)) ||| ((sd_rope D.2.1 i ^^^ sd_rope D.2.1 j) <<< (j &&& 31))), D.2.2.1, D.2.2.2.1, D.2.2.2.2.1, D.2.2.2.2.2)
theorem rd_sw_1_5 (x : Int32) : x = 1 ∨ x = 2 ∨ x = 3 ∨ x = 4 ∨ x = 5 ∨ ((x.toInt < 1 ∨ 5 < x.toInt) ∧ ¬ x = 1 ∧ ¬ x = 2 ∧ ¬ x = 3 ∧ ¬ x = 4 ∧ ¬ x = 5) := by
  by_cases h : x.toInt < 1 ∨ 5 < x.toInt
  · refine Or.inr (Or.inr (Or.inr (Or.inr (Or.inr ⟨h, ?_, ?_, ?_, ?_, ?_⟩)))) <;> (intro e; subst e; revert h; decide)
  · have h1 : x.toInt = 1 ∨ x.toInt = 2 ∨ x.toInt = 3 ∨ x.toInt = 4 ∨ x.toInt = 5 := by omega
    rcases h1 with h1 | h1 | h1 | h1 | h1
    · exact Or.inl (Int32.toInt_inj.mp h1)
    · exact Or.inr (Or.inl (Int32.toInt_inj.mp h1))
    · exact Or.inr (Or.inr (Or.inl (Int32.toInt_inj.mp h1)))
    · exact Or.inr (Or.inr (Or.inr (Or.inl (Int32.toInt_inj.mp h1))))
    · exact Or.inr (Or.inr (Or.inr (Or.inr (Or.inl (Int32.toInt_inj.mp h1)))))
set_option maxHeartbeats 4000000 in
set_option maxRecDepth 100000 in
theorem c_X3_whoAt (N d o : Nat) (σ : rd_S) (p : Int32) (ho : o < N) (hk : rd_kd o = 3) : rd_T N (d + 0) yX3_whoAt cX3_whoAt 2 (some .int) [.ref o, .int p] σ (rd_is (some (.int (sd_who (σ o 0) p))) σ) := by
  refine rd_start RX3 [.ref o, .int p] rfl (by decide +kernel) rfl (Nat.le_of_ble_eq_true rfl) ?_
  refine rr_aloadn_0 dX3_whoAt_0 ?_
  refine rr_geti dX3_whoAt_1 kf_X3_11 ho hk rfl ?_
  refine rr_iconst (v := 2) dX3_whoAt_4 (by decide) ?_
  refine rr_iloadn_1 dX3_whoAt_5 ?_
  refine rr_imul dX3_whoAt_6 ?_
  refine rr_ishr dX3_whoAt_7 ?_
  refine rr_iconst (v := 3) dX3_whoAt_8 (by decide) ?_
  refine rr_iand dX3_whoAt_9 ?_
  exact rr_iret dX3_whoAt_10 ⟨rfl, rfl⟩
set_option maxHeartbeats 4000000 in
set_option maxRecDepth 100000 in
theorem c_X3_ropeOf (N d o : Nat) (σ : rd_S) (i : Int32) (ho : o < N) (hk : rd_kd o = 3) : rd_T N (d + 0) yX3_ropeOf cX3_ropeOf 2 (some .int) [.ref o, .int i] σ (rd_is (some (.int (sd_rope (σ o 1) i))) σ) := by
  refine rd_start RX3 [.ref o, .int i] rfl (by decide +kernel) rfl (Nat.le_of_ble_eq_true rfl) ?_
  refine rr_aloadn_0 dX3_ropeOf_0 ?_
  refine rr_geti dX3_ropeOf_1 kf_X3_22 ho hk rfl ?_
  refine rr_iloadn_1 dX3_ropeOf_4 ?_
  refine rr_ishr dX3_ropeOf_5 ?_
  refine rr_iconst (v := 1) dX3_ropeOf_6 (by decide) ?_
  refine rr_iand dX3_ropeOf_7 ?_
  exact rr_iret dX3_ropeOf_8 ⟨rfl, rfl⟩
set_option maxHeartbeats 4000000 in
set_option maxRecDepth 100000 in
theorem c_X4_kindOf (N d : Nat) (σ : rd_S) (k i : Int32) : rd_T N (d + 0) yX4_kindOf cX4_kindOf 2 (some .int) [.int k, .int i] σ (rd_is (some (.int (sd_kind k i))) σ) := by
  refine rd_start RX4 [.int k, .int i] rfl (by decide +kernel) rfl (Nat.le_of_ble_eq_true rfl) ?_
  refine rr_iloadn_0 dX4_kindOf_0 ?_
  refine rr_iconst (v := 3) dX4_kindOf_1 (by decide) ?_
  refine rr_iloadn_1 dX4_kindOf_2 ?_
  refine rr_imul dX4_kindOf_3 ?_
  refine rr_ishr dX4_kindOf_4 ?_
  refine rr_bipush (v := 7) dX4_kindOf_5 (by decide) ?_
  refine rr_iand dX4_kindOf_7 ?_
  exact rr_iret dX4_kindOf_8 ⟨rfl, rfl⟩
set_option maxHeartbeats 4000000 in
set_option maxRecDepth 100000 in
theorem c_X4_pairAt (N d : Nat) (σ : rd_S) (k i : Int32) : rd_T N (d + 0) yX4_pairAt cX4_pairAt 2 (some .int) [.int k, .int i] σ (rd_is (some (.int (sd_who k i))) σ) := by
  refine rd_start RX4 [.int k, .int i] rfl (by decide +kernel) rfl (Nat.le_of_ble_eq_true rfl) ?_
  refine rr_iloadn_0 dX4_pairAt_0 ?_
  refine rr_iconst (v := 2) dX4_pairAt_1 (by decide) ?_
  refine rr_iloadn_1 dX4_pairAt_2 ?_
  refine rr_imul dX4_pairAt_3 ?_
  refine rr_ishr dX4_pairAt_4 ?_
  refine rr_iconst (v := 3) dX4_pairAt_5 (by decide) ?_
  refine rr_iand dX4_pairAt_6 ?_
  exact rr_iret dX4_pairAt_7 ⟨rfl, rfl⟩
set_option maxHeartbeats 4000000 in
set_option maxRecDepth 100000 in
theorem c_X4_withKind (N d : Nat) (σ : rd_S) (k i v : Int32) : rd_T N (d + 0) yX4_withKind cX4_withKind 3 (some .int) [.int k, .int i, .int v] σ (rd_is (some (.int (sd_withKind k i v))) σ) := by
  refine rd_start RX4 [.int k, .int i, .int v] rfl (by decide +kernel) rfl (Nat.le_of_ble_eq_true rfl) ?_
  refine rr_iloadn_0 dX4_withKind_0 ?_
  refine rr_bipush (v := 7) dX4_withKind_1 (by decide) ?_
  refine rr_iconst (v := 3) dX4_withKind_3 (by decide) ?_
  refine rr_iloadn_1 dX4_withKind_4 ?_
  refine rr_imul dX4_withKind_5 ?_
  refine rr_ishl dX4_withKind_6 ?_
  refine rr_iconst (v := (-1)) dX4_withKind_7 (by decide) ?_
  refine rr_ixor dX4_withKind_8 ?_
  refine rr_iand dX4_withKind_9 ?_
  refine rr_iloadn_2 dX4_withKind_10 ?_
  refine rr_iconst (v := 3) dX4_withKind_11 (by decide) ?_
  refine rr_iloadn_1 dX4_withKind_12 ?_
  refine rr_imul dX4_withKind_13 ?_
  refine rr_ishl dX4_withKind_14 ?_
  refine rr_ior dX4_withKind_15 ?_
  exact rr_iret dX4_withKind_16 ⟨rfl, rfl⟩
set_option maxHeartbeats 4000000 in
set_option maxRecDepth 100000 in
theorem c_X3_placeOf (N d o : Nat) (σ : rd_S) (i : Int32) (ho : o < N) (hk : rd_kd o = 3) : rd_T N (d + 1) yX3_placeOf cX3_placeOf 3 (some .int) [.ref o, .int i] σ (rd_is (some (.int (sd_place (σ o 0) i))) σ) := by
  refine rd_start RX3 [.ref o, .int i, .retAddr 0] rfl (by decide +kernel) rfl (Nat.le_of_ble_eq_true rfl) ?_
  refine rr_iconst (v := 0) dX3_placeOf_0 (by decide) ?_
  refine rr_istoren_2 dX3_placeOf_1 rfl ?_
  refine rr_iloadn_2 dX3_placeOf_2 ?_
  refine rr_iconst (v := 4) dX3_placeOf_3 (by decide) ?_
  refine rr_icmp_ge 24 dX3_placeOf_4 (by decide) (fun h4 => absurd h4 (by decide)) (fun _ => ?_)
  refine rr_aloadn_0 dX3_placeOf_7 ?_
  refine rr_iloadn_2 dX3_placeOf_8 ?_
  refine rr_callViD (c_X3_whoAt N _ _ _ _ ho hk) km_X3_18 rfl rfl ho hk (Nat.le_of_ble_eq_true rfl) dX3_placeOf_9 ?_
  refine rr_iloadn_1 dX3_placeOf_12 ?_
  refine rr_icmp_ne 18 dX3_placeOf_13 (by decide) (fun h13 => ?_) (fun h13 => ?_)
  · refine rr_iincC_2 1 1 dX3_placeOf_18 (by decide) (by decide) rfl ?_
    refine rr_goto 2 dX3_placeOf_21 (by decide) ?_
    refine rr_iloadn_2 dX3_placeOf_2 ?_
    refine rr_iconst (v := 4) dX3_placeOf_3 (by decide) ?_
    refine rr_icmp_ge 24 dX3_placeOf_4 (by decide) (fun h4_1 => absurd h4_1 (by decide)) (fun _ => ?_)
    refine rr_aloadn_0 dX3_placeOf_7 ?_
    refine rr_iloadn_2 dX3_placeOf_8 ?_
    refine rr_callViD (c_X3_whoAt N _ _ _ _ ho hk) km_X3_18 rfl rfl ho hk (Nat.le_of_ble_eq_true rfl) dX3_placeOf_9 ?_
    refine rr_iloadn_1 dX3_placeOf_12 ?_
    refine rr_icmp_ne 18 dX3_placeOf_13 (by decide) (fun h13_1 => ?_) (fun h13_1 => ?_)
    · refine rr_iincC_2 1 2 dX3_placeOf_18 (by decide) (by decide) rfl ?_
      refine rr_goto 2 dX3_placeOf_21 (by decide) ?_
      refine rr_iloadn_2 dX3_placeOf_2 ?_
      refine rr_iconst (v := 4) dX3_placeOf_3 (by decide) ?_
      refine rr_icmp_ge 24 dX3_placeOf_4 (by decide) (fun h4_2 => absurd h4_2 (by decide)) (fun _ => ?_)
      refine rr_aloadn_0 dX3_placeOf_7 ?_
      refine rr_iloadn_2 dX3_placeOf_8 ?_
      refine rr_callViD (c_X3_whoAt N _ _ _ _ ho hk) km_X3_18 rfl rfl ho hk (Nat.le_of_ble_eq_true rfl) dX3_placeOf_9 ?_
      refine rr_iloadn_1 dX3_placeOf_12 ?_
      refine rr_icmp_ne 18 dX3_placeOf_13 (by decide) (fun h13_2 => ?_) (fun h13_2 => ?_)
      · refine rr_iincC_2 1 3 dX3_placeOf_18 (by decide) (by decide) rfl ?_
        refine rr_goto 2 dX3_placeOf_21 (by decide) ?_
        refine rr_iloadn_2 dX3_placeOf_2 ?_
        refine rr_iconst (v := 4) dX3_placeOf_3 (by decide) ?_
        refine rr_icmp_ge 24 dX3_placeOf_4 (by decide) (fun h4_3 => absurd h4_3 (by decide)) (fun _ => ?_)
        refine rr_aloadn_0 dX3_placeOf_7 ?_
        refine rr_iloadn_2 dX3_placeOf_8 ?_
        refine rr_callViD (c_X3_whoAt N _ _ _ _ ho hk) km_X3_18 rfl rfl ho hk (Nat.le_of_ble_eq_true rfl) dX3_placeOf_9 ?_
        refine rr_iloadn_1 dX3_placeOf_12 ?_
        refine rr_icmp_ne 18 dX3_placeOf_13 (by decide) (fun h13_3 => ?_) (fun h13_3 => ?_)
        · refine rr_iincC_2 1 4 dX3_placeOf_18 (by decide) (by decide) rfl ?_
          refine rr_goto 2 dX3_placeOf_21 (by decide) ?_
          refine rr_iloadn_2 dX3_placeOf_2 ?_
          refine rr_iconst (v := 4) dX3_placeOf_3 (by decide) ?_
          refine rr_icmp_ge 24 dX3_placeOf_4 (by decide) (fun _ => ?_) (fun h4_4 => absurd h4_4 (by decide))
          refine rr_iconst (v := (-1)) dX3_placeOf_24 (by decide) ?_
          exact rr_iret dX3_placeOf_25 ⟨by simp [sd_place, *], rfl⟩
        · refine rr_iloadn_2 dX3_placeOf_16 ?_
          exact rr_iret dX3_placeOf_17 ⟨by simp [sd_place, *], rfl⟩
      · refine rr_iloadn_2 dX3_placeOf_16 ?_
        exact rr_iret dX3_placeOf_17 ⟨by simp [sd_place, *], rfl⟩
    · refine rr_iloadn_2 dX3_placeOf_16 ?_
      exact rr_iret dX3_placeOf_17 ⟨by simp [sd_place, *], rfl⟩
  · refine rr_iloadn_2 dX3_placeOf_16 ?_
    exact rr_iret dX3_placeOf_17 ⟨by simp [sd_place, *], rfl⟩
set_option maxHeartbeats 4000000 in
set_option maxRecDepth 100000 in
theorem c_X3_isWoundAs (N d o : Nat) (σ : rd_S) (u l : Int32) (ho : o < N) (hk : rd_kd o = 3) : rd_T N (d + 0) yX3_isWoundAs cX3_isWoundAs 3 (some .boolean) [.ref o, .int u, .int l] σ (rd_is (some (.int (if σ o 2 = u ∧ σ o 3 = l then 1 else 0))) σ) := by
  refine rd_start RX3 [.ref o, .int u, .int l] rfl (by decide +kernel) rfl (Nat.le_of_ble_eq_true rfl) ?_
  refine rr_aloadn_0 dX3_isWoundAs_0 ?_
  refine rr_geti dX3_isWoundAs_1 kf_X3_25 ho hk rfl ?_
  refine rr_iloadn_1 dX3_isWoundAs_4 ?_
  refine rr_icmp_ne 20 dX3_isWoundAs_5 (by decide) (fun h5 => ?_) (fun h5 => ?_)
  · refine rr_iconst (v := 0) dX3_isWoundAs_20 (by decide) ?_
    exact rr_zret dX3_isWoundAs_21 (by decide) ⟨by simp [*], rfl⟩
  · refine rr_aloadn_0 dX3_isWoundAs_8 ?_
    refine rr_geti dX3_isWoundAs_9 kf_X3_15 ho hk rfl ?_
    refine rr_iloadn_2 dX3_isWoundAs_12 ?_
    refine rr_icmp_ne 20 dX3_isWoundAs_13 (by decide) (fun h13 => ?_) (fun h13 => ?_)
    · refine rr_iconst (v := 0) dX3_isWoundAs_20 (by decide) ?_
      exact rr_zret dX3_isWoundAs_21 (by decide) ⟨by simp [*], rfl⟩
    · refine rr_iconst (v := 1) dX3_isWoundAs_16 (by decide) ?_
      refine rr_goto 21 dX3_isWoundAs_17 (by decide) ?_
      exact rr_zret dX3_isWoundAs_21 (by decide) ⟨by simp [*], rfl⟩
set_option maxHeartbeats 4000000 in
set_option maxRecDepth 100000 in
theorem c_X3_woundCode (N d o : Nat) (σ : rd_S) (ho : o < N) (hk : rd_kd o = 3) : rd_T N (d + 0) yX3_woundCode cX3_woundCode 1 (some .int) [.ref o] σ (rd_is (some (.int (σ o 2 * 10000 + σ o 3))) σ) := by
  refine rd_start RX3 [.ref o] rfl (by decide +kernel) rfl (Nat.le_of_ble_eq_true rfl) ?_
  refine rr_aloadn_0 dX3_woundCode_0 ?_
  refine rr_geti dX3_woundCode_1 kf_X3_25 ho hk rfl ?_
  refine rr_sipush (v := 10000) dX3_woundCode_4 (by decide) ?_
  refine rr_imul dX3_woundCode_7 ?_
  refine rr_aloadn_0 dX3_woundCode_8 ?_
  refine rr_geti dX3_woundCode_9 kf_X3_15 ho hk rfl ?_
  refine rr_iadd dX3_woundCode_12 ?_
  exact rr_iret dX3_woundCode_13 ⟨rfl, rfl⟩
set_option maxHeartbeats 4000000 in
set_option maxRecDepth 100000 in
theorem c_X3_isTooTight (N d o : Nat) (σ : rd_S) (t : Int32) (ho : o < N) (hk : rd_kd o = 3) : rd_T N (d + 1) yX3_isTooTight cX3_isTooTight 2 (some .boolean) [.ref o, .int t] σ (rd_is (some (.int (if 9999 < sd_abs (σ o 2 + t * σ o 3) then 1 else 0))) σ) := by
  refine rd_start RX3 [.ref o, .int t] rfl (by decide +kernel) rfl (Nat.le_of_ble_eq_true rfl) ?_
  refine rr_aloadn_0 dX3_isTooTight_0 ?_
  refine rr_geti dX3_isTooTight_1 kf_X3_25 ho hk rfl ?_
  refine rr_iloadn_1 dX3_isTooTight_4 ?_
  refine rr_aloadn_0 dX3_isTooTight_5 ?_
  refine rr_geti dX3_isTooTight_6 kf_X3_15 ho hk rfl ?_
  refine rr_imul dX3_isTooTight_9 ?_
  refine rr_iadd dX3_isTooTight_10 ?_
  refine rr_mabs dX3_isTooTight_11 kl_X3_41 (Nat.le_of_ble_eq_true rfl) kh_abs ?_
  refine rr_sipush (v := 9999) dX3_isTooTight_14 (by decide) ?_
  refine rr_icmp_le 24 dX3_isTooTight_17 (by decide) (fun h17 => ?_) (fun h17 => ?_)
  · refine rr_iconst (v := 0) dX3_isTooTight_24 (by decide) ?_
    exact rr_zret dX3_isTooTight_25 (by decide) ⟨by simp_all [sd_abs], rfl⟩
  · refine rr_iconst (v := 1) dX3_isTooTight_20 (by decide) ?_
    refine rr_goto 25 dX3_isTooTight_21 (by decide) ?_
    exact rr_zret dX3_isTooTight_25 (by decide) ⟨by simp_all [sd_abs], rfl⟩
set_option maxHeartbeats 4000000 in
set_option maxRecDepth 100000 in
theorem c_X3_take (N d o : Nat) (σ : rd_S) (q : Nat) (ho : o < N) (hk : rd_kd o = 3) (hq : q < N) (hkq : rd_kd q = 3) : rd_T N (d + 0) yX3_take cX3_take 2 none [.ref o, .ref q] σ (rd_is none (sd_wr σ o (sd_rd σ q))) := by
  refine rd_start RX3 [.ref o, .ref q] rfl (by decide +kernel) rfl (Nat.le_of_ble_eq_true rfl) ?_
  refine rr_aloadn_0 dX3_take_0 ?_
  refine rr_aloadn_1 dX3_take_1 ?_
  refine rr_geti dX3_take_2 kf_X3_11 (by assumption) (by assumption) rfl ?_
  refine rr_puti dX3_take_5 kf_X3_11 if_3_0 (by assumption) (by assumption) rfl ?_
  refine rr_aloadn_0 dX3_take_8 ?_
  refine rr_aloadn_1 dX3_take_9 ?_
  refine rr_geti dX3_take_10 kf_X3_22 (by assumption) (by assumption) rfl ?_
  refine rr_puti dX3_take_13 kf_X3_22 if_3_1 (by assumption) (by assumption) rfl ?_
  refine rr_aloadn_0 dX3_take_16 ?_
  refine rr_aloadn_1 dX3_take_17 ?_
  refine rr_geti dX3_take_18 kf_X3_25 (by assumption) (by assumption) rfl ?_
  refine rr_puti dX3_take_21 kf_X3_25 if_3_2 (by assumption) (by assumption) rfl ?_
  refine rr_aloadn_0 dX3_take_24 ?_
  refine rr_aloadn_1 dX3_take_25 ?_
  refine rr_geti dX3_take_26 kf_X3_15 (by assumption) (by assumption) rfl ?_
  refine rr_puti dX3_take_29 kf_X3_15 if_3_3 (by assumption) (by assumption) rfl ?_
  refine rr_aloadn_0 dX3_take_32 ?_
  refine rr_aloadn_1 dX3_take_33 ?_
  refine rr_geti dX3_take_34 kf_X3_28 (by assumption) (by assumption) rfl ?_
  refine rr_puti dX3_take_37 kf_X3_28 if_3_4 (by assumption) (by assumption) rfl ?_
  refine rr_aloadn_0 dX3_take_40 ?_
  refine rr_aloadn_1 dX3_take_41 ?_
  refine rr_geti dX3_take_42 kf_X3_31 (by assumption) (by assumption) rfl ?_
  refine rr_puti dX3_take_45 kf_X3_31 if_3_5 (by assumption) (by assumption) rfl ?_
  exact rr_vret dX3_take_48 ⟨rfl, by apply sd_ext o <;> intros <;> simp_all [rd_u2, sd_wr, sd_rd]⟩
set_option maxHeartbeats 4000000 in
set_option maxRecDepth 100000 in
theorem c_X3_begin (N d o : Nat) (σ : rd_S) (x : Int32) (ho : o < N) (hk : rd_kd o = 3) : rd_T N (d + 1) yX3_begin cX3_begin 2 none [.ref o, .int x] σ (rd_is none (sd_wr σ o (sd_begin x))) := by
  refine rd_start RX3 [.ref o, .int x] rfl (by decide +kernel) rfl (Nat.le_of_ble_eq_true rfl) ?_
  refine rr_aloadn_0 dX3_begin_0 ?_
  refine rr_iloadn_1 dX3_begin_1 ?_
  refine rr_puti dX3_begin_2 kf_X3_11 if_3_0 ho hk rfl ?_
  refine rr_aloadn_0 dX3_begin_5 ?_
  refine rr_iconst (v := 1) dX3_begin_6 (by decide) ?_
  refine rr_aloadn_0 dX3_begin_7 ?_
  refine rr_iconst (v := 2) dX3_begin_8 (by decide) ?_
  refine rr_callViD (c_X3_whoAt N _ _ _ _ ho hk) km_X3_18 rfl rfl ho hk (Nat.le_of_ble_eq_true rfl) dX3_begin_9 ?_
  refine rr_ishl dX3_begin_12 ?_
  refine rr_iconst (v := 1) dX3_begin_13 (by decide) ?_
  refine rr_aloadn_0 dX3_begin_14 ?_
  refine rr_iconst (v := 3) dX3_begin_15 (by decide) ?_
  refine rr_callViD (c_X3_whoAt N _ _ _ _ ho hk) km_X3_18 rfl rfl ho hk (Nat.le_of_ble_eq_true rfl) dX3_begin_16 ?_
  refine rr_ishl dX3_begin_19 ?_
  refine rr_ior dX3_begin_20 ?_
  refine rr_puti dX3_begin_21 kf_X3_22 if_3_1 ho hk rfl ?_
  refine rr_aloadn_0 dX3_begin_24 ?_
  refine rr_iconst (v := 0) dX3_begin_25 (by decide) ?_
  refine rr_puti dX3_begin_26 kf_X3_25 if_3_2 ho hk rfl ?_
  refine rr_aloadn_0 dX3_begin_29 ?_
  refine rr_iconst (v := 1) dX3_begin_30 (by decide) ?_
  refine rr_puti dX3_begin_31 kf_X3_15 if_3_3 ho hk rfl ?_
  refine rr_aloadn_0 dX3_begin_34 ?_
  refine rr_iconst (v := 0) dX3_begin_35 (by decide) ?_
  refine rr_puti dX3_begin_36 kf_X3_28 if_3_4 ho hk rfl ?_
  refine rr_aloadn_0 dX3_begin_39 ?_
  refine rr_iconst (v := 0) dX3_begin_40 (by decide) ?_
  refine rr_puti dX3_begin_41 kf_X3_31 if_3_5 ho hk rfl ?_
  exact rr_vret dX3_begin_44 ⟨rfl, by apply sd_ext o <;> intros <;> simp_all [rd_u2, sd_wr, sd_begin]⟩
set_option maxHeartbeats 4000000 in
set_option maxRecDepth 100000 in
theorem c_X3_turnAll (N d o : Nat) (σ : rd_S) (ho : o < N) (hk : rd_kd o = 3) : rd_T N (d + 1) yX3_turnAll cX3_turnAll 2 none [.ref o] σ (rd_is none (sd_wr σ o (sd_turn (sd_rd σ o)))) := by
  refine rd_start RX3 [.ref o, .retAddr 0] rfl (by decide +kernel) rfl (Nat.le_of_ble_eq_true rfl) ?_
  refine rr_aloadn_0 dX3_turnAll_0 ?_
  refine rr_aloadn_0 dX3_turnAll_1 ?_
  refine rr_geti dX3_turnAll_2 kf_X3_11 ho hk rfl ?_
  refine rr_iconst (v := 2) dX3_turnAll_5 (by decide) ?_
  refine rr_ishl dX3_turnAll_6 ?_
  refine rr_aloadn_0 dX3_turnAll_7 ?_
  refine rr_geti dX3_turnAll_8 kf_X3_11 ho hk rfl ?_
  refine rr_bipush (v := 6) dX3_turnAll_11 (by decide) ?_
  refine rr_ishr dX3_turnAll_13 ?_
  refine rr_ior dX3_turnAll_14 ?_
  refine rr_sipush (v := 255) dX3_turnAll_15 (by decide) ?_
  refine rr_iand dX3_turnAll_18 ?_
  refine rr_puti dX3_turnAll_19 kf_X3_11 if_3_0 ho hk rfl ?_
  refine rr_aloadn_0 dX3_turnAll_22 ?_
  refine rr_geti dX3_turnAll_23 kf_X3_25 ho hk rfl ?_
  refine rr_istoren_1 dX3_turnAll_26 rfl ?_
  rw [show ∀ v, rd_u2 σ o 0 v o 2 = σ o 2 from fun v => by simp [rd_u2]]
  refine rr_iloadn_1 dX3_turnAll_27 ?_
  refine rr_if_ne 44 dX3_turnAll_28 (by decide) (fun h28 => ?_) (fun h28 => ?_)
  · refine rr_aloadn_0 dX3_turnAll_44 ?_
    refine rr_iloadn_1 dX3_turnAll_45 ?_
    refine rr_if_le 57 dX3_turnAll_46 (by decide) (fun h46 => ?_) (fun h46 => ?_)
    · refine rr_aloadn_0 dX3_turnAll_57 ?_
      refine rr_geti dX3_turnAll_58 kf_X3_15 ho hk rfl ?_
      refine rr_puti dX3_turnAll_61 kf_X3_25 if_3_2 ho hk rfl ?_
      refine rr_aloadn_0 dX3_turnAll_64 ?_
      refine rr_iloadn_1 dX3_turnAll_65 ?_
      refine rr_mabs dX3_turnAll_66 kl_X3_41 (Nat.le_of_ble_eq_true rfl) kh_abs ?_
      refine rr_puti dX3_turnAll_69 kf_X3_15 if_3_3 ho hk rfl ?_
      exact rr_vret dX3_turnAll_72 ⟨rfl, by apply sd_ext o <;> intros <;> simp [rd_u2, sd_wr, sd_rd, sd_turn, sd_abs, *]⟩
    · refine rr_aloadn_0 dX3_turnAll_49 ?_
      refine rr_geti dX3_turnAll_50 kf_X3_15 ho hk rfl ?_
      refine rr_ineg dX3_turnAll_53 ?_
      refine rr_goto 61 dX3_turnAll_54 (by decide) ?_
      refine rr_puti dX3_turnAll_61 kf_X3_25 if_3_2 ho hk rfl ?_
      refine rr_aloadn_0 dX3_turnAll_64 ?_
      refine rr_iloadn_1 dX3_turnAll_65 ?_
      refine rr_mabs dX3_turnAll_66 kl_X3_41 (Nat.le_of_ble_eq_true rfl) kh_abs ?_
      refine rr_puti dX3_turnAll_69 kf_X3_15 if_3_3 ho hk rfl ?_
      exact rr_vret dX3_turnAll_72 ⟨rfl, by apply sd_ext o <;> intros <;> simp [rd_u2, sd_wr, sd_rd, sd_turn, sd_abs, *]⟩
  · refine rr_aloadn_0 dX3_turnAll_31 ?_
    refine rr_iconst (v := 1) dX3_turnAll_32 (by decide) ?_
    refine rr_puti dX3_turnAll_33 kf_X3_25 if_3_2 ho hk rfl ?_
    refine rr_aloadn_0 dX3_turnAll_36 ?_
    refine rr_iconst (v := 0) dX3_turnAll_37 (by decide) ?_
    refine rr_puti dX3_turnAll_38 kf_X3_15 if_3_3 ho hk rfl ?_
    refine rr_goto 72 dX3_turnAll_41 (by decide) ?_
    exact rr_vret dX3_turnAll_72 ⟨rfl, by apply sd_ext o <;> intros <;> simp [rd_u2, sd_wr, sd_rd, sd_turn, sd_abs, *]⟩
set_option maxHeartbeats 4000000 in
set_option maxRecDepth 100000 in
theorem c_X3_swapPlaces (N d o : Nat) (σ : rd_S) (p q : Int32) (ho : o < N) (hk : rd_kd o = 3) : rd_T N (d + 0) yX3_swapPlaces cX3_swapPlaces 4 none [.ref o, .int p, .int q] σ (rd_is none (rd_u2 σ o 0 (sd_swap (σ o 0) p q))) := by
  refine rd_start RX3 [.ref o, .int p, .int q, .retAddr 0] rfl (by decide +kernel) rfl (Nat.le_of_ble_eq_true rfl) ?_
  refine rr_aloadn_0 dX3_swapPlaces_0 ?_
  refine rr_geti dX3_swapPlaces_1 kf_X3_11 ho hk rfl ?_
  refine rr_iconst (v := 2) dX3_swapPlaces_4 (by decide) ?_
  refine rr_iloadn_1 dX3_swapPlaces_5 ?_
  refine rr_imul dX3_swapPlaces_6 ?_
  refine rr_ishr dX3_swapPlaces_7 ?_
  refine rr_aloadn_0 dX3_swapPlaces_8 ?_
  refine rr_geti dX3_swapPlaces_9 kf_X3_11 ho hk rfl ?_
  refine rr_iconst (v := 2) dX3_swapPlaces_12 (by decide) ?_
  refine rr_iloadn_2 dX3_swapPlaces_13 ?_
  refine rr_imul dX3_swapPlaces_14 ?_
  refine rr_ishr dX3_swapPlaces_15 ?_
  refine rr_ixor dX3_swapPlaces_16 ?_
  refine rr_iconst (v := 3) dX3_swapPlaces_17 (by decide) ?_
  refine rr_iand dX3_swapPlaces_18 ?_
  refine rr_istoren_3 dX3_swapPlaces_19 rfl ?_
  refine rr_aloadn_0 dX3_swapPlaces_20 ?_
  refine rr_dup dX3_swapPlaces_21 rfl ?_
  refine rr_geti dX3_swapPlaces_22 kf_X3_11 ho hk rfl ?_
  refine rr_iloadn_3 dX3_swapPlaces_25 ?_
  refine rr_iconst (v := 2) dX3_swapPlaces_26 (by decide) ?_
  refine rr_iloadn_1 dX3_swapPlaces_27 ?_
  refine rr_imul dX3_swapPlaces_28 ?_
  refine rr_ishl dX3_swapPlaces_29 ?_
  refine rr_iloadn_3 dX3_swapPlaces_30 ?_
  refine rr_iconst (v := 2) dX3_swapPlaces_31 (by decide) ?_
  refine rr_iloadn_2 dX3_swapPlaces_32 ?_
  refine rr_imul dX3_swapPlaces_33 ?_
  refine rr_ishl dX3_swapPlaces_34 ?_
  refine rr_ior dX3_swapPlaces_35 ?_
  refine rr_ixor dX3_swapPlaces_36 ?_
  refine rr_puti dX3_swapPlaces_37 kf_X3_11 if_3_0 ho hk rfl ?_
  exact rr_vret dX3_swapPlaces_40 ⟨rfl, by simp [sd_swap]⟩
set_option maxHeartbeats 4000000 in
set_option maxRecDepth 100000 in
theorem c_X3_twistsOf (N d o : Nat) (σ : rd_S) (f kb : Int32) (ho : o < N) (hk : rd_kd o = 3) : rd_T N (d + 1) yX3_twistsOf cX3_twistsOf 5 (some .int) [.ref o, .int f, .int kb] σ (rd_is (some (.int (sd_tw (sd_rd σ o) f kb))) σ) := by
  refine rd_start RX3 [.ref o, .int f, .int kb, .retAddr 0, .retAddr 0] rfl (by decide +kernel) rfl (Nat.le_of_ble_eq_true rfl) ?_
  refine rr_iloadn_1 dX3_twistsOf_0 ?_
  refine rr_if_eq 11 dX3_twistsOf_1 (by decide) (fun h1 => ?_) (fun h1 => ?_)
  · refine rr_iloadn_1 dX3_twistsOf_11 ?_
    refine rr_if_neJ 19 20 (-1) (1) dX3_twistsOf_12 (by decide) (fun h12 k12 => ?_) (fun h12 k12 => ?_) ?_
    · refine rr_iconst (v := (-1)) dX3_twistsOf_19 (by decide) ?_
      exact k12
    · refine rr_iconst (v := 1) dX3_twistsOf_15 (by decide) ?_
      refine rr_goto 20 dX3_twistsOf_16 (by decide) ?_
      exact k12
    refine rr_istoren_3 dX3_twistsOf_20 rfl ?_
    refine rr_aloadn_0 dX3_twistsOf_21 ?_
    refine rr_iconst (v := 1) dX3_twistsOf_22 (by decide) ?_
    refine rr_callViD (c_X3_whoAt N _ _ _ _ ho hk) km_X3_18 rfl rfl ho hk (Nat.le_of_ble_eq_true rfl) dX3_twistsOf_23 ?_
    refine rr_istore_4 dX3_twistsOf_26 rfl ?_
    refine rr_iloadn_2 dX3_twistsOf_28 ?_
    refine rr_iload_4 dX3_twistsOf_29 ?_
    refine rr_callSiD (c_X4_kindOf N _ _ _ _) km_X3_34 rfl rfl (Nat.le_of_ble_eq_true rfl) dX3_twistsOf_31 ?_
    rcases rd_sw_1_5 (sd_kind kb (sd_who (σ o 0) 1)) with hs34 | hs34 | hs34 | hs34 | hs34 | hs34
    · rw [hs34]
      refine rr_tableIn 68 dX3_twistsOf_34 (by decide) (by decide) rfl (by decide) ?_
      refine rr_iloadn_3 dX3_twistsOf_68 ?_
      refine rr_ineg dX3_twistsOf_69 ?_
      exact rr_iret dX3_twistsOf_70 ⟨by simp_all [sd_tw, sd_rd, sd_told], rfl⟩
    · rw [hs34]
      refine rr_tableIn 71 dX3_twistsOf_34 (by decide) (by decide) rfl (by decide) ?_
      refine rr_aloadn_0 dX3_twistsOf_71 ?_
      refine rr_geti dX3_twistsOf_72 kf_X3_31 ho hk rfl ?_
      refine rr_iconst (v := 2) dX3_twistsOf_75 (by decide) ?_
      refine rr_irem dX3_twistsOf_76 (by decide) ?_
      refine rr_if_ne 84 dX3_twistsOf_77 (by decide) (fun h77 => ?_) (fun h77 => ?_)
      · refine rr_iconst (v := 0) dX3_twistsOf_84 (by decide) ?_
        exact rr_iret dX3_twistsOf_85 ⟨by simp_all [sd_tw, sd_rd, sd_told], rfl⟩
      · refine rr_iloadn_3 dX3_twistsOf_80 ?_
        refine rr_goto 85 dX3_twistsOf_81 (by decide) ?_
        exact rr_iret dX3_twistsOf_85 ⟨by simp_all [sd_tw, sd_rd, sd_told], rfl⟩
    · rw [hs34]
      refine rr_tableIn 86 dX3_twistsOf_34 (by decide) (by decide) rfl (by decide) ?_
      refine rr_iconst (v := 2) dX3_twistsOf_86 (by decide) ?_
      refine rr_iloadn_3 dX3_twistsOf_87 ?_
      refine rr_imul dX3_twistsOf_88 ?_
      exact rr_iret dX3_twistsOf_89 ⟨by simp_all [sd_tw, sd_rd, sd_told], rfl⟩
    · rw [hs34]
      refine rr_tableIn 90 dX3_twistsOf_34 (by decide) (by decide) rfl (by decide) ?_
      refine rr_aloadn_0 dX3_twistsOf_90 ?_
      refine rr_iload_4 dX3_twistsOf_91 ?_
      refine rr_callViD (c_X3_ropeOf N _ _ _ _ ho hk) km_X3_38 rfl rfl ho hk (Nat.le_of_ble_eq_true rfl) dX3_twistsOf_93 ?_
      refine rr_aloadn_0 dX3_twistsOf_96 ?_
      refine rr_aloadn_0 dX3_twistsOf_97 ?_
      refine rr_iconst (v := 2) dX3_twistsOf_98 (by decide) ?_
      refine rr_callViD (c_X3_whoAt N _ _ _ _ ho hk) km_X3_18 rfl rfl ho hk (Nat.le_of_ble_eq_true rfl) dX3_twistsOf_99 ?_
      refine rr_callViD (c_X3_ropeOf N _ _ _ _ ho hk) km_X3_38 rfl rfl ho hk (Nat.le_of_ble_eq_true rfl) dX3_twistsOf_102 ?_
      refine rr_icmp_ne 112 dX3_twistsOf_105 (by decide) (fun h105 => ?_) (fun h105 => ?_)
      · refine rr_iloadn_3 dX3_twistsOf_112 ?_
        exact rr_iret dX3_twistsOf_113 ⟨by simp_all [sd_tw, sd_rd, sd_told], rfl⟩
      · refine rr_iconst (v := 0) dX3_twistsOf_108 (by decide) ?_
        refine rr_goto 113 dX3_twistsOf_109 (by decide) ?_
        exact rr_iret dX3_twistsOf_113 ⟨by simp_all [sd_tw, sd_rd, sd_told], rfl⟩
    · rw [hs34]
      refine rr_tableIn 114 dX3_twistsOf_34 (by decide) (by decide) rfl (by decide) ?_
      refine rr_aloadn_0 dX3_twistsOf_114 ?_
      refine rr_geti dX3_twistsOf_115 kf_X3_28 ho hk rfl ?_
      refine rr_if_ne 125 dX3_twistsOf_118 (by decide) (fun h118 => ?_) (fun h118 => ?_)
      · refine rr_aloadn_0 dX3_twistsOf_125 ?_
        refine rr_geti dX3_twistsOf_126 kf_X3_28 ho hk rfl ?_
        exact rr_iret dX3_twistsOf_129 ⟨by simp_all [sd_tw, sd_rd, sd_told], rfl⟩
      · refine rr_iloadn_3 dX3_twistsOf_121 ?_
        refine rr_goto 129 dX3_twistsOf_122 (by decide) ?_
        exact rr_iret dX3_twistsOf_129 ⟨by simp_all [sd_tw, sd_rd, sd_told], rfl⟩
    · refine rr_tableOut 130 dX3_twistsOf_34 hs34.1 (by decide) ?_
      refine rr_iloadn_3 dX3_twistsOf_130 ?_
      exact rr_iret dX3_twistsOf_131 ⟨by simp_all [sd_tw, sd_rd, sd_told], rfl⟩
  · refine rr_iloadn_1 dX3_twistsOf_4 ?_
    refine rr_iconst (v := 1) dX3_twistsOf_5 (by decide) ?_
    refine rr_icmp_eq 11 dX3_twistsOf_6 (by decide) (fun h6 => ?_) (fun h6 => ?_)
    · refine rr_iloadn_1 dX3_twistsOf_11 ?_
      refine rr_if_neJ 19 20 (-1) (1) dX3_twistsOf_12 (by decide) (fun h12 k12 => ?_) (fun h12 k12 => ?_) ?_
      · refine rr_iconst (v := (-1)) dX3_twistsOf_19 (by decide) ?_
        exact k12
      · refine rr_iconst (v := 1) dX3_twistsOf_15 (by decide) ?_
        refine rr_goto 20 dX3_twistsOf_16 (by decide) ?_
        exact k12
      refine rr_istoren_3 dX3_twistsOf_20 rfl ?_
      refine rr_aloadn_0 dX3_twistsOf_21 ?_
      refine rr_iconst (v := 1) dX3_twistsOf_22 (by decide) ?_
      refine rr_callViD (c_X3_whoAt N _ _ _ _ ho hk) km_X3_18 rfl rfl ho hk (Nat.le_of_ble_eq_true rfl) dX3_twistsOf_23 ?_
      refine rr_istore_4 dX3_twistsOf_26 rfl ?_
      refine rr_iloadn_2 dX3_twistsOf_28 ?_
      refine rr_iload_4 dX3_twistsOf_29 ?_
      refine rr_callSiD (c_X4_kindOf N _ _ _ _) km_X3_34 rfl rfl (Nat.le_of_ble_eq_true rfl) dX3_twistsOf_31 ?_
      rcases rd_sw_1_5 (sd_kind kb (sd_who (σ o 0) 1)) with hs34 | hs34 | hs34 | hs34 | hs34 | hs34
      · rw [hs34]
        refine rr_tableIn 68 dX3_twistsOf_34 (by decide) (by decide) rfl (by decide) ?_
        refine rr_iloadn_3 dX3_twistsOf_68 ?_
        refine rr_ineg dX3_twistsOf_69 ?_
        exact rr_iret dX3_twistsOf_70 ⟨by simp_all [sd_tw, sd_rd, sd_told], rfl⟩
      · rw [hs34]
        refine rr_tableIn 71 dX3_twistsOf_34 (by decide) (by decide) rfl (by decide) ?_
        refine rr_aloadn_0 dX3_twistsOf_71 ?_
        refine rr_geti dX3_twistsOf_72 kf_X3_31 ho hk rfl ?_
        refine rr_iconst (v := 2) dX3_twistsOf_75 (by decide) ?_
        refine rr_irem dX3_twistsOf_76 (by decide) ?_
        refine rr_if_ne 84 dX3_twistsOf_77 (by decide) (fun h77 => ?_) (fun h77 => ?_)
        · refine rr_iconst (v := 0) dX3_twistsOf_84 (by decide) ?_
          exact rr_iret dX3_twistsOf_85 ⟨by simp_all [sd_tw, sd_rd, sd_told], rfl⟩
        · refine rr_iloadn_3 dX3_twistsOf_80 ?_
          refine rr_goto 85 dX3_twistsOf_81 (by decide) ?_
          exact rr_iret dX3_twistsOf_85 ⟨by simp_all [sd_tw, sd_rd, sd_told], rfl⟩
      · rw [hs34]
        refine rr_tableIn 86 dX3_twistsOf_34 (by decide) (by decide) rfl (by decide) ?_
        refine rr_iconst (v := 2) dX3_twistsOf_86 (by decide) ?_
        refine rr_iloadn_3 dX3_twistsOf_87 ?_
        refine rr_imul dX3_twistsOf_88 ?_
        exact rr_iret dX3_twistsOf_89 ⟨by simp_all [sd_tw, sd_rd, sd_told], rfl⟩
      · rw [hs34]
        refine rr_tableIn 90 dX3_twistsOf_34 (by decide) (by decide) rfl (by decide) ?_
        refine rr_aloadn_0 dX3_twistsOf_90 ?_
        refine rr_iload_4 dX3_twistsOf_91 ?_
        refine rr_callViD (c_X3_ropeOf N _ _ _ _ ho hk) km_X3_38 rfl rfl ho hk (Nat.le_of_ble_eq_true rfl) dX3_twistsOf_93 ?_
        refine rr_aloadn_0 dX3_twistsOf_96 ?_
        refine rr_aloadn_0 dX3_twistsOf_97 ?_
        refine rr_iconst (v := 2) dX3_twistsOf_98 (by decide) ?_
        refine rr_callViD (c_X3_whoAt N _ _ _ _ ho hk) km_X3_18 rfl rfl ho hk (Nat.le_of_ble_eq_true rfl) dX3_twistsOf_99 ?_
        refine rr_callViD (c_X3_ropeOf N _ _ _ _ ho hk) km_X3_38 rfl rfl ho hk (Nat.le_of_ble_eq_true rfl) dX3_twistsOf_102 ?_
        refine rr_icmp_ne 112 dX3_twistsOf_105 (by decide) (fun h105 => ?_) (fun h105 => ?_)
        · refine rr_iloadn_3 dX3_twistsOf_112 ?_
          exact rr_iret dX3_twistsOf_113 ⟨by simp_all [sd_tw, sd_rd, sd_told], rfl⟩
        · refine rr_iconst (v := 0) dX3_twistsOf_108 (by decide) ?_
          refine rr_goto 113 dX3_twistsOf_109 (by decide) ?_
          exact rr_iret dX3_twistsOf_113 ⟨by simp_all [sd_tw, sd_rd, sd_told], rfl⟩
      · rw [hs34]
        refine rr_tableIn 114 dX3_twistsOf_34 (by decide) (by decide) rfl (by decide) ?_
        refine rr_aloadn_0 dX3_twistsOf_114 ?_
        refine rr_geti dX3_twistsOf_115 kf_X3_28 ho hk rfl ?_
        refine rr_if_ne 125 dX3_twistsOf_118 (by decide) (fun h118 => ?_) (fun h118 => ?_)
        · refine rr_aloadn_0 dX3_twistsOf_125 ?_
          refine rr_geti dX3_twistsOf_126 kf_X3_28 ho hk rfl ?_
          exact rr_iret dX3_twistsOf_129 ⟨by simp_all [sd_tw, sd_rd, sd_told], rfl⟩
        · refine rr_iloadn_3 dX3_twistsOf_121 ?_
          refine rr_goto 129 dX3_twistsOf_122 (by decide) ?_
          exact rr_iret dX3_twistsOf_129 ⟨by simp_all [sd_tw, sd_rd, sd_told], rfl⟩
      · refine rr_tableOut 130 dX3_twistsOf_34 hs34.1 (by decide) ?_
        refine rr_iloadn_3 dX3_twistsOf_130 ?_
        exact rr_iret dX3_twistsOf_131 ⟨by simp_all [sd_tw, sd_rd, sd_told], rfl⟩
    · refine rr_iconst (v := 0) dX3_twistsOf_9 (by decide) ?_
      exact rr_iret dX3_twistsOf_10 ⟨by simp_all [sd_tw, sd_rd, sd_told], rfl⟩
set_option maxHeartbeats 4000000 in
set_option maxRecDepth 100000 in
theorem c_X3_step (N d o : Nat) (σ : rd_S) (f kb : Int32) (ho : o < N) (hk : rd_kd o = 3) : rd_T N (d + 2) yX3_step cX3_step 4 (some .boolean) [.ref o, .int f, .int kb] σ (fun r s => (sd_tight (sd_rd σ o) (sd_tw (sd_rd σ o) f kb) → r = some (.int 0) ∧ s = σ) ∧ (¬ sd_tight (sd_rd σ o) (sd_tw (sd_rd σ o) f kb) → r = some (.int 1) ∧ s = sd_wr σ o (sd_go (sd_rd σ o) f (sd_tw (sd_rd σ o) f kb)))) := by
  refine rd_start RX3 [.ref o, .int f, .int kb, .retAddr 0] rfl (by decide +kernel) rfl (Nat.le_of_ble_eq_true rfl) ?_
  refine rr_aloadn_0 dX3_step_0 ?_
  refine rr_iloadn_1 dX3_step_1 ?_
  refine rr_iloadn_2 dX3_step_2 ?_
  refine rr_callViD (c_X3_twistsOf N _ _ _ _ _ ho hk) km_X3_46 rfl rfl ho hk (Nat.le_of_ble_eq_true rfl) dX3_step_3 ?_
  refine rr_istoren_3 dX3_step_6 rfl ?_
  generalize ht : sd_tw (sd_rd σ o) f kb = t
  refine rr_aloadn_0 dX3_step_7 ?_
  refine rr_iloadn_3 dX3_step_8 ?_
  refine rr_callViD (c_X3_isTooTight N _ _ _ _ ho hk) km_X3_49 rfl rfl ho hk (Nat.le_of_ble_eq_true rfl) dX3_step_9 ?_
  by_cases hti : 9999 < sd_abs (σ o 2 + t * σ o 3)
  · rw [if_pos hti]
    refine rr_if_eq 17 dX3_step_12 (by decide) (fun h => absurd h (by decide)) (fun _ => ?_)
    refine rr_iconst (v := 0) dX3_step_15 (by decide) ?_
    exact rr_zret dX3_step_16 (by decide) ⟨fun _ => ⟨rfl, rfl⟩, fun h => absurd hti h⟩
  rw [if_neg hti]
  refine rr_if_eq 17 dX3_step_12 (by decide) (fun h12 => ?_) (fun h12 => absurd rfl h12)
  refine rr_iloadn_1 dX3_step_17 ?_
  refine rr_iconst (v := 2) dX3_step_18 (by decide) ?_
  refine rr_icmp_ne 26 dX3_step_19 (by decide) (fun h19 => ?_) (fun h19 => ?_)
  · refine rr_aloadn_0 dX3_step_26 ?_
    refine rr_dup dX3_step_27 rfl ?_
    refine rr_geti dX3_step_28 kf_X3_25 ho hk rfl ?_
    refine rr_iloadn_3 dX3_step_31 ?_
    refine rr_aloadn_0 dX3_step_32 ?_
    refine rr_geti dX3_step_33 kf_X3_15 ho hk rfl ?_
    refine rr_imul dX3_step_36 ?_
    refine rr_iadd dX3_step_37 ?_
    refine rr_puti dX3_step_38 kf_X3_25 if_3_2 ho hk rfl ?_
    refine rr_iloadn_3 dX3_step_41 ?_
    refine rr_if_eq 58 dX3_step_42 (by decide) (fun h42 => ?_) (fun h42 => ?_)
    · refine rr_iloadn_3 dX3_step_58 ?_
      refine rr_iconst (v := 2) dX3_step_59 (by decide) ?_
      refine rr_irem dX3_step_60 (by decide) ?_
      refine rr_if_eq 70 dX3_step_61 (by decide) (fun h61 => ?_) (fun h61 => ?_)
      · refine rr_aloadn_0 dX3_step_70 ?_
        refine rr_dup dX3_step_71 rfl ?_
        refine rr_geti dX3_step_72 kf_X3_31 ho hk rfl ?_
        refine rr_iconst (v := 1) dX3_step_75 (by decide) ?_
        refine rr_iadd dX3_step_76 ?_
        refine rr_puti dX3_step_77 kf_X3_31 if_3_5 ho hk rfl ?_
        refine rr_iconst (v := 1) dX3_step_80 (by decide) ?_
        exact rr_zret dX3_step_81 (by decide) ⟨fun h => absurd h hti, fun _ => ⟨rfl, by apply sd_ext o <;> intros <;> first | (simp [rd_u2, sd_wr, sd_rd, sd_go, *]; done) | exact absurd (by rw [h42]; decide) h61⟩⟩
      · refine rr_aloadn_0 dX3_step_64 ?_
        refine rr_iconst (v := 1) dX3_step_65 (by decide) ?_
        refine rr_iconst (v := 2) dX3_step_66 (by decide) ?_
        refine rr_callVvD (c_X3_swapPlaces N _ _ _ _ _ ho hk) km_X3_56 rfl rfl ho hk (Nat.le_of_ble_eq_true rfl) dX3_step_67 ?_
        refine rr_aloadn_0 dX3_step_70 ?_
        refine rr_dup dX3_step_71 rfl ?_
        refine rr_geti dX3_step_72 kf_X3_31 ho hk rfl ?_
        refine rr_iconst (v := 1) dX3_step_75 (by decide) ?_
        refine rr_iadd dX3_step_76 ?_
        refine rr_puti dX3_step_77 kf_X3_31 if_3_5 ho hk rfl ?_
        refine rr_iconst (v := 1) dX3_step_80 (by decide) ?_
        exact rr_zret dX3_step_81 (by decide) ⟨fun h => absurd h hti, fun _ => ⟨rfl, by apply sd_ext o <;> intros <;> first | (simp [rd_u2, sd_wr, sd_rd, sd_go, *]; done) | exact absurd (by rw [h42]; decide) h61⟩⟩
    · refine rr_aloadn_0 dX3_step_45 ?_
      refine rr_iloadn_3 dX3_step_46 ?_
      refine rr_if_leJ 54 55 (-1) (1) dX3_step_47 (by decide) (fun h47 k47 => ?_) (fun h47 k47 => ?_) ?_
      · refine rr_iconst (v := (-1)) dX3_step_54 (by decide) ?_
        exact k47
      · refine rr_iconst (v := 1) dX3_step_50 (by decide) ?_
        refine rr_goto 55 dX3_step_51 (by decide) ?_
        exact k47
      refine rr_puti dX3_step_55 kf_X3_28 if_3_4 ho hk rfl ?_
      refine rr_iloadn_3 dX3_step_58 ?_
      refine rr_iconst (v := 2) dX3_step_59 (by decide) ?_
      refine rr_irem dX3_step_60 (by decide) ?_
      refine rr_if_eq 70 dX3_step_61 (by decide) (fun h61 => ?_) (fun h61 => ?_)
      · refine rr_aloadn_0 dX3_step_70 ?_
        refine rr_dup dX3_step_71 rfl ?_
        refine rr_geti dX3_step_72 kf_X3_31 ho hk rfl ?_
        refine rr_iconst (v := 1) dX3_step_75 (by decide) ?_
        refine rr_iadd dX3_step_76 ?_
        refine rr_puti dX3_step_77 kf_X3_31 if_3_5 ho hk rfl ?_
        refine rr_iconst (v := 1) dX3_step_80 (by decide) ?_
        exact rr_zret dX3_step_81 (by decide) ⟨fun h => absurd h hti, fun _ => ⟨rfl, by apply sd_ext o <;> intros <;> first | (simp [rd_u2, sd_wr, sd_rd, sd_go, *]; done) | exact absurd (by rw [h42]; decide) h61⟩⟩
      · refine rr_aloadn_0 dX3_step_64 ?_
        refine rr_iconst (v := 1) dX3_step_65 (by decide) ?_
        refine rr_iconst (v := 2) dX3_step_66 (by decide) ?_
        refine rr_callVvD (c_X3_swapPlaces N _ _ _ _ _ ho hk) km_X3_56 rfl rfl ho hk (Nat.le_of_ble_eq_true rfl) dX3_step_67 ?_
        refine rr_aloadn_0 dX3_step_70 ?_
        refine rr_dup dX3_step_71 rfl ?_
        refine rr_geti dX3_step_72 kf_X3_31 ho hk rfl ?_
        refine rr_iconst (v := 1) dX3_step_75 (by decide) ?_
        refine rr_iadd dX3_step_76 ?_
        refine rr_puti dX3_step_77 kf_X3_31 if_3_5 ho hk rfl ?_
        refine rr_iconst (v := 1) dX3_step_80 (by decide) ?_
        exact rr_zret dX3_step_81 (by decide) ⟨fun h => absurd h hti, fun _ => ⟨rfl, by apply sd_ext o <;> intros <;> first | (simp [rd_u2, sd_wr, sd_rd, sd_go, *]; done) | exact absurd (by rw [h42]; decide) h61⟩⟩
  · refine rr_aloadn_0 dX3_step_22 ?_
    refine rr_callVvD (c_X3_turnAll N _ _ _ ho hk) km_X3_53 rfl rfl ho hk (Nat.le_of_ble_eq_true rfl) dX3_step_23 ?_
    refine rr_aloadn_0 dX3_step_26 ?_
    refine rr_dup dX3_step_27 rfl ?_
    refine rr_geti dX3_step_28 kf_X3_25 ho hk rfl ?_
    refine rr_iloadn_3 dX3_step_31 ?_
    refine rr_aloadn_0 dX3_step_32 ?_
    refine rr_geti dX3_step_33 kf_X3_15 ho hk rfl ?_
    refine rr_imul dX3_step_36 ?_
    refine rr_iadd dX3_step_37 ?_
    refine rr_puti dX3_step_38 kf_X3_25 if_3_2 ho hk rfl ?_
    refine rr_iloadn_3 dX3_step_41 ?_
    refine rr_if_eq 58 dX3_step_42 (by decide) (fun h42 => ?_) (fun h42 => ?_)
    · refine rr_iloadn_3 dX3_step_58 ?_
      refine rr_iconst (v := 2) dX3_step_59 (by decide) ?_
      refine rr_irem dX3_step_60 (by decide) ?_
      refine rr_if_eq 70 dX3_step_61 (by decide) (fun h61 => ?_) (fun h61 => ?_)
      · refine rr_aloadn_0 dX3_step_70 ?_
        refine rr_dup dX3_step_71 rfl ?_
        refine rr_geti dX3_step_72 kf_X3_31 ho hk rfl ?_
        refine rr_iconst (v := 1) dX3_step_75 (by decide) ?_
        refine rr_iadd dX3_step_76 ?_
        refine rr_puti dX3_step_77 kf_X3_31 if_3_5 ho hk rfl ?_
        refine rr_iconst (v := 1) dX3_step_80 (by decide) ?_
        exact rr_zret dX3_step_81 (by decide) ⟨fun h => absurd h hti, fun _ => ⟨rfl, by apply sd_ext o <;> intros <;> first | (simp [rd_u2, sd_wr, sd_rd, sd_go, *]; done) | exact absurd (by rw [h42]; decide) h61⟩⟩
      · refine rr_aloadn_0 dX3_step_64 ?_
        refine rr_iconst (v := 1) dX3_step_65 (by decide) ?_
        refine rr_iconst (v := 2) dX3_step_66 (by decide) ?_
        refine rr_callVvD (c_X3_swapPlaces N _ _ _ _ _ ho hk) km_X3_56 rfl rfl ho hk (Nat.le_of_ble_eq_true rfl) dX3_step_67 ?_
        refine rr_aloadn_0 dX3_step_70 ?_
        refine rr_dup dX3_step_71 rfl ?_
        refine rr_geti dX3_step_72 kf_X3_31 ho hk rfl ?_
        refine rr_iconst (v := 1) dX3_step_75 (by decide) ?_
        refine rr_iadd dX3_step_76 ?_
        refine rr_puti dX3_step_77 kf_X3_31 if_3_5 ho hk rfl ?_
        refine rr_iconst (v := 1) dX3_step_80 (by decide) ?_
        exact rr_zret dX3_step_81 (by decide) ⟨fun h => absurd h hti, fun _ => ⟨rfl, by apply sd_ext o <;> intros <;> first | (simp [rd_u2, sd_wr, sd_rd, sd_go, *]; done) | exact absurd (by rw [h42]; decide) h61⟩⟩
    · refine rr_aloadn_0 dX3_step_45 ?_
      refine rr_iloadn_3 dX3_step_46 ?_
      refine rr_if_leJ 54 55 (-1) (1) dX3_step_47 (by decide) (fun h47 k47 => ?_) (fun h47 k47 => ?_) ?_
      · refine rr_iconst (v := (-1)) dX3_step_54 (by decide) ?_
        exact k47
      · refine rr_iconst (v := 1) dX3_step_50 (by decide) ?_
        refine rr_goto 55 dX3_step_51 (by decide) ?_
        exact k47
      refine rr_puti dX3_step_55 kf_X3_28 if_3_4 ho hk rfl ?_
      refine rr_iloadn_3 dX3_step_58 ?_
      refine rr_iconst (v := 2) dX3_step_59 (by decide) ?_
      refine rr_irem dX3_step_60 (by decide) ?_
      refine rr_if_eq 70 dX3_step_61 (by decide) (fun h61 => ?_) (fun h61 => ?_)
      · refine rr_aloadn_0 dX3_step_70 ?_
        refine rr_dup dX3_step_71 rfl ?_
        refine rr_geti dX3_step_72 kf_X3_31 ho hk rfl ?_
        refine rr_iconst (v := 1) dX3_step_75 (by decide) ?_
        refine rr_iadd dX3_step_76 ?_
        refine rr_puti dX3_step_77 kf_X3_31 if_3_5 ho hk rfl ?_
        refine rr_iconst (v := 1) dX3_step_80 (by decide) ?_
        exact rr_zret dX3_step_81 (by decide) ⟨fun h => absurd h hti, fun _ => ⟨rfl, by apply sd_ext o <;> intros <;> first | (simp [rd_u2, sd_wr, sd_rd, sd_go, *]; done) | exact absurd (by rw [h42]; decide) h61⟩⟩
      · refine rr_aloadn_0 dX3_step_64 ?_
        refine rr_iconst (v := 1) dX3_step_65 (by decide) ?_
        refine rr_iconst (v := 2) dX3_step_66 (by decide) ?_
        refine rr_callVvD (c_X3_swapPlaces N _ _ _ _ _ ho hk) km_X3_56 rfl rfl ho hk (Nat.le_of_ble_eq_true rfl) dX3_step_67 ?_
        refine rr_aloadn_0 dX3_step_70 ?_
        refine rr_dup dX3_step_71 rfl ?_
        refine rr_geti dX3_step_72 kf_X3_31 ho hk rfl ?_
        refine rr_iconst (v := 1) dX3_step_75 (by decide) ?_
        refine rr_iadd dX3_step_76 ?_
        refine rr_puti dX3_step_77 kf_X3_31 if_3_5 ho hk rfl ?_
        refine rr_iconst (v := 1) dX3_step_80 (by decide) ?_
        exact rr_zret dX3_step_81 (by decide) ⟨fun h => absurd h hti, fun _ => ⟨rfl, by apply sd_ext o <;> intros <;> first | (simp [rd_u2, sd_wr, sd_rd, sd_go, *]; done) | exact absurd (by rw [h42]; decide) h61⟩⟩
set_option maxHeartbeats 4000000 in
set_option maxRecDepth 100000 in
theorem c_X3_exchange (N d o : Nat) (σ : rd_S) (i j : Int32) (ho : o < N) (hk : rd_kd o = 3) : rd_T N (d + 2) yX3_exchange cX3_exchange 4 none [.ref o, .int i, .int j] σ (rd_is none (sd_wr σ o (sd_xch (sd_rd σ o) i j))) := by
  refine rd_start RX3 [.ref o, .int i, .int j, .retAddr 0] rfl (by decide +kernel) rfl (Nat.le_of_ble_eq_true rfl) ?_
  refine rr_aloadn_0 dX3_exchange_0 ?_
  refine rr_iloadn_1 dX3_exchange_1 ?_
  refine rr_callViD (c_X3_ropeOf N _ _ _ _ ho hk) km_X3_38 rfl rfl ho hk (Nat.le_of_ble_eq_true rfl) dX3_exchange_2 ?_
  refine rr_aloadn_0 dX3_exchange_5 ?_
  refine rr_iloadn_2 dX3_exchange_6 ?_
  refine rr_callViD (c_X3_ropeOf N _ _ _ _ ho hk) km_X3_38 rfl rfl ho hk (Nat.le_of_ble_eq_true rfl) dX3_exchange_7 ?_
  refine rr_ixor dX3_exchange_10 ?_
  refine rr_istoren_3 dX3_exchange_11 rfl ?_
  refine rr_aloadn_0 dX3_exchange_12 ?_
  refine rr_dup dX3_exchange_13 rfl ?_
  refine rr_geti dX3_exchange_14 kf_X3_22 ho hk rfl ?_
  refine rr_iloadn_3 dX3_exchange_17 ?_
  refine rr_iloadn_1 dX3_exchange_18 ?_
  refine rr_ishl dX3_exchange_19 ?_
  refine rr_iloadn_3 dX3_exchange_20 ?_
  refine rr_iloadn_2 dX3_exchange_21 ?_
  refine rr_ishl dX3_exchange_22 ?_
  refine rr_ior dX3_exchange_23 ?_
  refine rr_ixor dX3_exchange_24 ?_
  refine rr_puti dX3_exchange_25 kf_X3_22 if_3_1 ho hk rfl ?_
  refine rr_aloadn_0 dX3_exchange_28 ?_
  refine rr_aloadn_0 dX3_exchange_29 ?_
  refine rr_iloadn_1 dX3_exchange_30 ?_
  refine rr_callViD (c_X3_placeOf N _ _ _ _ ho hk) km_X3_60 rfl rfl ho hk (Nat.le_of_ble_eq_true rfl) dX3_exchange_31 ?_
  refine rr_aloadn_0 dX3_exchange_34 ?_
  refine rr_iloadn_2 dX3_exchange_35 ?_
  refine rr_callViD (c_X3_placeOf N _ _ _ _ ho hk) km_X3_60 rfl rfl ho hk (Nat.le_of_ble_eq_true rfl) dX3_exchange_36 ?_
  refine rr_callVvD (c_X3_swapPlaces N _ _ _ _ _ ho hk) km_X3_56 rfl rfl ho hk (Nat.le_of_ble_eq_true rfl) dX3_exchange_39 ?_
  exact rr_vret dX3_exchange_42 ⟨rfl, by apply sd_ext o <;> intros <;> simp [rd_u2, sd_wr, sd_rd, sd_xch, *]⟩
end
section
/-! ===== Pile and Search ===== -/
def sd_st (D : sd_D) (f kb : Int32) : Option sd_D := if 9999 < sd_abs (D.2.2.1 + sd_tw D f kb * D.2.2.2.1) then none else some (sd_go D f (sd_tw D f kb))
theorem sd_rd_wr (σ : rd_S) (o : Nat) (D : sd_D) : sd_rd (sd_wr σ o D) o = D := by
  obtain ⟨a, b, c, e, f, g⟩ := D
  simp [sd_rd, sd_wr]
theorem sd_rd_ne {σ : rd_S} {o q : Nat} (D : sd_D) (h : q ≠ o) : sd_rd (sd_wr σ o D) q = sd_rd σ q := by
  simp [sd_rd, sd_wr, h]
theorem sd_wr_wr (σ : rd_S) (o : Nat) (D E : sd_D) : sd_wr (sd_wr σ o D) o E = sd_wr σ o E := by
  apply sd_ext o <;> intros <;> simp_all [sd_wr]
theorem sd_wr_ne {σ : rd_S} {o a b : Nat} (D : sd_D) (h : a ≠ o) : sd_wr σ o D a b = σ a b := by simp [sd_wr, h]
theorem sd_rd_u2 {σ : rd_S} {o k q : Nat} {v : Int32} (h : q ≠ o) : sd_rd (rd_u2 σ o k v) q = sd_rd σ q := by
  simp [sd_rd, rd_u2, h]
theorem c_step_s (N d o : Nat) (σ : rd_S) (f kb : Int32) (ho : o < N) (hk : rd_kd o = 3) {D' : sd_D} (h : sd_st (sd_rd σ o) f kb = some D') : rd_T N (d + 2) yX3_step cX3_step 4 (some .boolean) [.ref o, .int f, .int kb] σ (rd_is (some (.int 1)) (sd_wr σ o D')) := by
  refine (c_X3_step N d o σ f kb ho hk).post (fun r u q => ?_)
  unfold sd_st at h
  split at h
  · cases h
  · rename_i hn
    cases h
    exact q.2 hn
theorem c_step_n (N d o : Nat) (σ : rd_S) (f kb : Int32) (ho : o < N) (hk : rd_kd o = 3) (h : sd_st (sd_rd σ o) f kb = none) : rd_T N (d + 2) yX3_step cX3_step 4 (some .boolean) [.ref o, .int f, .int kb] σ (rd_is (some (.int 0)) σ) := by
  refine (c_X3_step N d o σ f kb ho hk).post (fun r u q => ?_)
  unfold sd_st at h
  split at h
  · rename_i hn
    exact q.1 hn
  · cases h
/-- a pile: its object, its row, its first stand, how many -/
def pl_ok (N o a b c : Nat) : Prop := o < N ∧ rd_kd o = 0 ∧ a < N ∧ rd_kd a = 8 ∧ rd_rf o 0 = a ∧ rd_len a = c ∧ (∀ j, j < c → b + j < N ∧ rd_kd (b + j) = 3 ∧ rd_rf a j = b + j) ∧ 0 < c ∧ c ≤ 8 ∧ (o < b ∨ b + c ≤ o)
theorem pl_past {N : Nat} (h : 33 ≤ N) : pl_ok N 5 6 7 8 := ⟨by omega, rfl, by omega, rfl, rfl, rfl, fun j hj => ⟨by omega, by revert j; decide, rfl⟩, by decide, by decide, by decide⟩
theorem pl_shelf {N : Nat} (h : 33 ≤ N) : pl_ok N 15 16 17 2 := ⟨by omega, rfl, by omega, rfl, rfl, rfl, fun j hj => ⟨by omega, by revert j; decide, rfl⟩, by decide, by decide, by decide⟩
def pl_slot (c nx : Nat) : Nat := if nx < c then nx else 0
theorem nI_lt8 {a b : Nat} (ha : a < 1000) (hb : b < 1000) : nI a < nI b ↔ a < b := nI_ltI (by omega) (by omega)
theorem nI_le8 {a b : Nat} (ha : a < 1000) (hb : b < 1000) : nI a ≤ nI b ↔ a ≤ b := nI_leI (by omega) (by omega)
theorem nI_gt0 {n : Nat} (h0 : 0 < n) (h : n < 1000) : 0 < nI n := (nI_lt8 (a := 0) (by omega) h).mpr h0
theorem nI_eq8 {a b : Nat} (ha : a < 1000) (hb : b < 1000) : nI a = nI b ↔ a = b := nI_eq (by omega) (by omega)
set_option maxHeartbeats 4000000 in
set_option maxRecDepth 100000 in
theorem c_X0_clear (N d o : Nat) (σ : rd_S) (ho : o < N) (hk : rd_kd o = 0) : rd_T N (d + 0) yX0_clear cX0_clear 1 none [.ref o] σ (rd_is none (rd_u2 σ o 2 0)) := by
  refine rd_start RX0 [.ref o] rfl (by decide +kernel) rfl (Nat.le_of_ble_eq_true rfl) ?_
  refine rr_aloadn_0 dX0_clear_0 ?_
  refine rr_iconst (v := 0) dX0_clear_1 (by decide) ?_
  refine rr_puti dX0_clear_2 kf_X0_22 if_0_2 ho hk rfl ?_
  exact rr_vret dX0_clear_5 ⟨rfl, rfl⟩
set_option maxHeartbeats 4000000 in
set_option maxRecDepth 100000 in
theorem c_X0_isFull (N d o a b c : Nat) (σ : rd_S) (hp : pl_ok N o a b c) (sz : Nat) (hs : σ o 2 = nI sz) (hs1 : sz < 1000) : rd_T N (d + 0) yX0_isFull cX0_isFull 1 (some .boolean) [.ref o] σ (rd_is (some (.int (if sz < c then 0 else 1))) σ) := by
  refine rd_start RX0 [.ref o] rfl (by decide +kernel) rfl (Nat.le_of_ble_eq_true rfl) ?_
  obtain ⟨ho, hk, ha, hka, hra, hla, hb, hc0, hc8, hob⟩ := hp
  refine rr_aloadn_0 dX0_isFull_0 ?_
  refine rr_geti dX0_isFull_1 kf_X0_22 ho hk rfl ?_
  rw [hs]
  refine rr_aloadn_0 dX0_isFull_4 ?_
  refine rr_getr a dX0_isFull_5 kf_X0_15 ho hk rfl hra ?_
  refine rr_alen (v := nI c) dX0_isFull_8 ha (by rw [hka]; decide) (by rw [hla]) ?_
  refine rr_icmp_lt 16 dX0_isFull_9 (by decide) (fun h9 => ?_) (fun h9 => ?_)
  · refine rr_iconst (v := 0) dX0_isFull_16 (by decide) ?_
    exact rr_zret dX0_isFull_17 (by decide) ⟨by rw [nI_lt8 hs1 (by omega)] at h9; simp [h9], rfl⟩
  · refine rr_iconst (v := 1) dX0_isFull_12 (by decide) ?_
    refine rr_goto 17 dX0_isFull_13 (by decide) ?_
    exact rr_zret dX0_isFull_17 (by decide) ⟨by rw [nI_lt8 hs1 (by omega)] at h9; simp [h9], rfl⟩
set_option maxHeartbeats 4000000 in
set_option maxRecDepth 100000 in
theorem c_X0_push (N d o a b c : Nat) (σ : rd_S) (hp : pl_ok N o a b c) (q nx sz : Nat) (hq : q < N) (hkq : rd_kd q = 3) (hn : σ o 1 = nI nx) (hn1 : nx ≤ c) (hs : σ o 2 = nI sz) (hs1 : sz ≤ c) : rd_T N (d + 1) yX0_push cX0_push 2 none [.ref o, .ref q] σ (rd_is none (rd_u2 (rd_u2 (sd_wr σ (b + pl_slot c nx) (sd_rd σ q)) o 1 (nI (pl_slot c nx + 1))) o 2 (nI (min (sz + 1) c)))) := by
  refine rd_start RX0 [.ref o, .ref q] rfl (by decide +kernel) rfl (Nat.le_of_ble_eq_true rfl) ?_
  obtain ⟨ho, hk, ha, hka, hra, hla, hb, hc0, hc8, hob⟩ := hp
  have hsl : pl_slot c nx < c := by unfold pl_slot; split <;> omega
  obtain ⟨hb1, hb2, hb3⟩ := hb _ hsl
  have hbo : b + pl_slot c nx ≠ o := by omega
  have hko : q ≠ o := fun h => by rw [h, hk] at hkq; cases hkq
  have K : ∀ τ : rd_S, τ o 1 = nI (pl_slot c nx) → (∀ x y, x ≠ o → τ x y = σ x y) → (∀ y, y ≠ 1 → τ o y = σ o y) → rd_W N (d + 1) RX0 cX0_push 2 none 24 [.ref o, .ref q] [] τ (rd_is none (rd_u2 (rd_u2 (sd_wr σ (b + pl_slot c nx) (sd_rd σ q)) o 1 (nI (pl_slot c nx + 1))) o 2 (nI (min (sz + 1) c)))) := by
    intro τ h1 h2 h3
    have e2 : τ o 2 = nI sz := by rw [h3 2 (by decide)]; exact hs
    have erd : sd_rd τ q = sd_rd σ q := by simp [sd_rd, h2 _ _ hko]
    refine rr_aloadn_0 dX0_push_24 ?_
    refine rr_getr a dX0_push_25 kf_X0_15 ho hk rfl hra ?_
    refine rr_aloadn_0 dX0_push_28 ?_
    refine rr_geti dX0_push_29 kf_X0_26 ho hk rfl ?_
    refine rr_aald (pl_slot c nx) (b + pl_slot c nx) dX0_push_32 ha hka h1 (by rw [hla]; exact hsl) hb3 ?_
    refine rr_aloadn_1 dX0_push_33 ?_
    refine rr_callVvD (c_X3_take N _ _ _ _ hb1 hb2 hq hkq) km_X0_29 rfl rfl hb1 hb2 (Nat.le_of_ble_eq_true rfl) dX0_push_34 ?_
    refine rr_aloadn_0 dX0_push_37 ?_
    refine rr_dup dX0_push_38 rfl ?_
    refine rr_geti dX0_push_39 kf_X0_26 ho hk rfl ?_
    refine rr_iconst (v := 1) dX0_push_42 (by decide) ?_
    rw [show sd_wr τ (b + pl_slot c nx) (sd_rd τ q) o 1 = nI (pl_slot c nx) by rw [sd_wr_ne _ (Ne.symm hbo)]; exact h1]
    refine rr_iadd dX0_push_43 ?_
    refine rr_puti dX0_push_44 kf_X0_26 if_0_1 ho hk rfl ?_
    refine rr_aloadn_0 dX0_push_47 ?_
    refine rr_aloadn_0 dX0_push_48 ?_
    refine rr_geti dX0_push_49 kf_X0_22 ho hk rfl ?_
    refine rr_iconst (v := 1) dX0_push_52 (by decide) ?_
    rw [show ∀ v, rd_u2 (sd_wr τ (b + pl_slot c nx) (sd_rd τ q)) o 1 v o 2 = nI sz from fun v => by simp [rd_u2, sd_wr_ne _ (Ne.symm hbo), e2]]
    refine rr_iadd dX0_push_53 ?_
    refine rr_aloadn_0 dX0_push_54 ?_
    refine rr_getr a dX0_push_55 kf_X0_15 ho hk rfl hra ?_
    refine rr_alen (v := nI c) dX0_push_58 ha (by rw [hka]; decide) (by rw [hla]) ?_
    refine rr_mmin dX0_push_59 kl_X0_33 (Nat.le_of_ble_eq_true rfl) kh_min ?_
    refine rr_puti dX0_push_62 kf_X0_22 if_0_2 ho hk rfl ?_
    refine rr_vret dX0_push_65 ⟨rfl, ?_⟩
    have e3 : (if nI c < nI sz + 1 then nI c else nI sz + 1) = nI (min (sz + 1) c) := by
      rw [nI_1]
      by_cases hlt : c < sz + 1
      · rw [if_pos ((nI_lt8 (by omega) (by omega)).mpr hlt), Nat.min_eq_right (by omega)]
      · rw [if_neg (fun h => hlt ((nI_lt8 (by omega) (by omega)).mp h)), Nat.min_eq_left (by omega)]
    rw [e3, nI_1, erd]
    funext x y
    by_cases hx : x = o
    · subst hx
      by_cases hy : y = 2
      · simp [rd_u2, hy]
      · by_cases hy1 : y = 1
        · simp [rd_u2, hy1]
        · simp [rd_u2, hy, hy1, sd_wr_ne _ (Ne.symm hbo), h3 _ hy1]
    · by_cases hx2 : x = b + pl_slot c nx
      · simp [rd_u2, hx, sd_wr, hx2, h2 _ _ hbo]
      · simp [rd_u2, hx, sd_wr, hx2, h2 _ _ hx]
  refine rr_aloadn_0 dX0_push_0 ?_
  refine rr_geti dX0_push_1 kf_X0_26 ho hk rfl ?_
  rw [hn]
  refine rr_if_lt 19 dX0_push_4 (by decide) (fun h4 => absurd h4 (nI_pos (by omega))) (fun h4 => ?_)
  refine rr_aloadn_0 dX0_push_7 ?_
  refine rr_geti dX0_push_8 kf_X0_26 ho hk rfl ?_
  rw [hn]
  refine rr_aloadn_0 dX0_push_11 ?_
  refine rr_getr a dX0_push_12 kf_X0_15 ho hk rfl hra ?_
  refine rr_alen (v := nI c) dX0_push_15 ha (by rw [hka]; decide) (by rw [hla]) ?_
  refine rr_icmp_lt 24 dX0_push_16 (by decide) (fun h16 => ?_) (fun h16 => ?_)
  · first | exact K _ (by rw [hn]; simp [pl_slot, (nI_lt8 (by omega) (by omega)).mp h16]) (fun _ _ _ => rfl) (fun _ _ => rfl) | exact K _ (by simp [rd_u2, pl_slot, show ¬ nx < c from fun q => h16 ((nI_lt8 (by omega) (by omega)).mpr q)]; rfl) (fun x y hx => by simp [rd_u2, hx]) (fun y hy => by simp [rd_u2, hy])
  · refine rr_aloadn_0 dX0_push_19 ?_
    refine rr_iconst (v := 0) dX0_push_20 (by decide) ?_
    refine rr_puti dX0_push_21 kf_X0_26 if_0_1 ho hk rfl ?_
    first | exact K _ (by rw [hn]; simp [pl_slot, (nI_lt8 (by omega) (by omega)).mp h16]) (fun _ _ _ => rfl) (fun _ _ => rfl) | exact K _ (by simp [rd_u2, pl_slot, show ¬ nx < c from fun q => h16 ((nI_lt8 (by omega) (by omega)).mpr q)]; rfl) (fun x y hx => by simp [rd_u2, hx]) (fun y hy => by simp [rd_u2, hy])
set_option maxHeartbeats 4000000 in
set_option maxRecDepth 100000 in
theorem c_pop_n (N d o a b c : Nat) (σ : rd_S) (hp : pl_ok N o a b c) (q : Nat) (hs : σ o 2 = 0) : rd_T N (d + 0) yX0_pop cX0_pop 2 (some .boolean) [.ref o, .ref q] σ (rd_is (some (.int 0)) σ) := by
  refine rd_start RX0 [.ref o, .ref q] rfl (by decide +kernel) rfl (Nat.le_of_ble_eq_true rfl) ?_
  obtain ⟨ho, hk, ha, hka, hra, hla, hb, hc0, hc8, hob⟩ := hp
  refine rr_aloadn_0 dX0_pop_0 ?_
  refine rr_geti dX0_pop_1 kf_X0_22 ho hk rfl ?_
  rw [hs]
  refine rr_if_gt 9 dX0_pop_4 (by decide) (fun h4 => absurd h4 (by decide)) (fun h4 => ?_)
  refine rr_iconst (v := 0) dX0_pop_7 (by decide) ?_
  exact rr_zret dX0_pop_8 (by decide) ⟨rfl, rfl⟩
def pl_prev (c nx : Nat) : Nat := if 0 < nx then nx - 1 else c - 1
set_option maxHeartbeats 4000000 in
set_option maxRecDepth 100000 in
theorem c_pop_s (N d o a b c : Nat) (σ : rd_S) (hp : pl_ok N o a b c) (q nx sz : Nat) (hq : q < N) (hkq : rd_kd q = 3) (hn : σ o 1 = nI nx) (hn1 : nx ≤ c) (hs : σ o 2 = nI (sz + 1)) (hs1 : sz + 1 ≤ c) (hqb : q < b ∨ b + c ≤ q) : rd_T N (d + 1) yX0_pop cX0_pop 2 (some .boolean) [.ref o, .ref q] σ (rd_is (some (.int 1)) (rd_u2 (sd_wr (rd_u2 σ o 1 (nI (pl_prev c nx))) q (sd_rd σ (b + pl_prev c nx))) o 2 (nI sz))) := by
  refine rd_start RX0 [.ref o, .ref q] rfl (by decide +kernel) rfl (Nat.le_of_ble_eq_true rfl) ?_
  obtain ⟨ho, hk, ha, hka, hra, hla, hb, hc0, hc8, hob⟩ := hp
  have hsl : pl_prev c nx < c := by unfold pl_prev; split <;> omega
  obtain ⟨hb1, hb2, hb3⟩ := hb _ hsl
  have hbo : b + pl_prev c nx ≠ o := by omega
  have hko : q ≠ o := fun h => by rw [h, hk] at hkq; cases hkq
  have K : rd_W N (d + 1) RX0 cX0_pop 2 (some .boolean) 45 [.ref o, .ref q] [.int (nI (pl_prev c nx)), .ref o] σ (rd_is (some (.int 1)) (rd_u2 (sd_wr (rd_u2 σ o 1 (nI (pl_prev c nx))) q (sd_rd σ (b + pl_prev c nx))) o 2 (nI sz))) := by
    refine rr_puti dX0_pop_45 kf_X0_26 if_0_1 ho hk rfl ?_
    refine rr_aloadn_1 dX0_pop_48 ?_
    refine rr_aloadn_0 dX0_pop_49 ?_
    refine rr_getr a dX0_pop_50 kf_X0_15 ho hk rfl hra ?_
    refine rr_aloadn_0 dX0_pop_53 ?_
    refine rr_geti dX0_pop_54 kf_X0_26 ho hk rfl ?_
    refine rr_aald (pl_prev c nx) (b + pl_prev c nx) dX0_pop_57 ha hka (by simp [rd_u2]) (by rw [hla]; exact hsl) hb3 ?_
    refine rr_callVvD (c_X3_take N _ _ _ _ hq hkq hb1 hb2) km_X0_29 rfl rfl hq hkq (Nat.le_of_ble_eq_true rfl) dX0_pop_58 ?_
    refine rr_aloadn_0 dX0_pop_61 ?_
    refine rr_dup dX0_pop_62 rfl ?_
    refine rr_geti dX0_pop_63 kf_X0_22 ho hk rfl ?_
    refine rr_iconst (v := 1) dX0_pop_66 (by decide) ?_
    rw [sd_wr_ne _ (Ne.symm hko), show ∀ v, rd_u2 σ o 1 v o 2 = nI (sz + 1) from fun v => by simp [rd_u2, hs]]
    refine rr_isub dX0_pop_67 ?_
    rw [nI_pred]
    refine rr_puti dX0_pop_68 kf_X0_22 if_0_2 ho hk rfl ?_
    refine rr_iconst (v := 1) dX0_pop_71 (by decide) ?_
    exact rr_zret dX0_pop_72 (by decide) ⟨rfl, by rw [sd_rd_u2 hbo]⟩
  refine rr_aloadn_0 dX0_pop_0 ?_
  refine rr_geti dX0_pop_1 kf_X0_22 ho hk rfl ?_
  refine rr_if_gt 9 dX0_pop_4 (by decide) (fun h4 => ?_) (fun h4 => absurd (by rw [hs]; exact nI_gt0 (by omega) (by omega)) h4)
  refine rr_aloadn_0 dX0_pop_9 ?_
  refine rr_aloadn_0 dX0_pop_10 ?_
  refine rr_geti dX0_pop_11 kf_X0_26 ho hk rfl ?_
  refine rr_if_le 38 dX0_pop_14 (by decide) (fun h14 => ?_) (fun h14 => ?_)
  · refine rr_aloadn_0 dX0_pop_38 ?_
    refine rr_getr a dX0_pop_39 kf_X0_15 ho hk rfl hra ?_
    refine rr_alen (v := nI c) dX0_pop_42 ha (by rw [hka]; decide) (by rw [hla]) ?_
    refine rr_iconst (v := 1) dX0_pop_43 (by decide) ?_
    refine rr_isub dX0_pop_44 ?_
    first | (rw [show nI nx - 1 = nI (pl_prev c nx) by unfold pl_prev; have h0 : 0 < nx := by { rcases Nat.eq_zero_or_pos nx with z | z; { subst z; exact absurd (by rw [hn]; decide) h14 }; { exact z } }; rw [if_pos h0]; obtain ⟨k, rfl⟩ : ∃ k, nx = k + 1 := ⟨nx - 1, by omega⟩; exact nI_pred k]; exact K) | (rw [show nI c - 1 = nI (pl_prev c nx) by unfold pl_prev; have h0 : ¬ 0 < nx := by { intro z; revert h14; rw [hn]; exact nI_nle z (by omega) }; rw [if_neg h0]; obtain ⟨k, rfl⟩ : ∃ k, c = k + 1 := ⟨c - 1, by omega⟩; exact nI_pred k]; exact K)
  · refine rr_aloadn_0 dX0_pop_17 ?_
    refine rr_geti dX0_pop_18 kf_X0_26 ho hk rfl ?_
    refine rr_aloadn_0 dX0_pop_21 ?_
    refine rr_getr a dX0_pop_22 kf_X0_15 ho hk rfl hra ?_
    refine rr_alen (v := nI c) dX0_pop_25 ha (by rw [hka]; decide) (by rw [hla]) ?_
    rw [hn]
    refine rr_icmp_gt 38 dX0_pop_26 (by decide) (fun h26 => absurd ((nI_lt8 (by omega) (by omega)).mp h26) (by omega)) (fun h26 => ?_)
    refine rr_aloadn_0 dX0_pop_29 ?_
    refine rr_geti dX0_pop_30 kf_X0_26 ho hk rfl ?_
    refine rr_iconst (v := 1) dX0_pop_33 (by decide) ?_
    rw [hn]
    refine rr_isub dX0_pop_34 ?_
    refine rr_goto 45 dX0_pop_35 (by decide) ?_
    first | (rw [show nI nx - 1 = nI (pl_prev c nx) by unfold pl_prev; have h0 : 0 < nx := by { rcases Nat.eq_zero_or_pos nx with z | z; { subst z; exact absurd (by rw [hn]; decide) h14 }; { exact z } }; rw [if_pos h0]; obtain ⟨k, rfl⟩ : ∃ k, nx = k + 1 := ⟨nx - 1, by omega⟩; exact nI_pred k]; exact K) | (rw [show nI c - 1 = nI (pl_prev c nx) by unfold pl_prev; have h0 : ¬ 0 < nx := by { intro z; revert h14; rw [hn]; exact nI_nle z (by omega) }; rw [if_neg h0]; obtain ⟨k, rfl⟩ : ∃ k, c = k + 1 := ⟨c - 1, by omega⟩; exact nI_pred k]; exact K)
end
section
/-! ===== Search: rows of figures tried out ===== -/
def sr_at (z gu gl i j : Int32) (D : sd_D) : Bool := if z = 0 then decide (D.2.2.1 = gu ∧ D.2.2.2.1 = gl) else decide (¬ (sd_place D.1 i + sd_place D.1 j) - (sd_place D.1 i + sd_place D.1 j) / 2 * 2 = 0)
def sr_G (σ : rd_S) : sd_D → Bool := sr_at (σ 19 2) (σ 19 3) (σ 19 4) (σ 19 5) (σ 19 6)
/-- nothing but levels above k, and what was found -/
def sr_eq (k : Nat) (s σ : rd_S) : Prop := ∀ a b, ¬ (21 + k < a ∧ a ≤ 28) → s a b = σ a b
def sr_eqf (k : Nat) (s σ : rd_S) : Prop := ∀ a b, ¬ (21 + k < a ∧ a ≤ 28) → ¬ (a = 19 ∧ (b = 7 ∨ b = 8)) → s a b = σ a b
theorem sr_kd {k : Nat} (h : k < 8) : rd_kd (21 + k) = 3 := by revert k; decide
theorem sr_kd1 {k : Nat} (h : k < 7) : rd_kd (21 + (k + 1)) = 3 := sr_kd (by omega)
theorem nI_lt_8 {k : Nat} (h : k < 8) : nI k < 8 := (nI_lt8 (b := 8) (by omega) (by omega)).mpr h
theorem sr_eq.refl (k : Nat) (σ : rd_S) : sr_eq k σ σ := fun _ _ _ => rfl
theorem sr_eq.trans {k : Nat} {a b c : rd_S} (h1 : sr_eq k a b) (h2 : sr_eq k b c) : sr_eq k a c := fun x y h => (h1 x y h).trans (h2 x y h)
theorem sr_eq.up {k j : Nat} {a b : rd_S} (h : sr_eq j a b) (hk : k ≤ j) : sr_eq k a b := fun x y h1 => h x y (by omega)
theorem sr_eq.wr {k : Nat} (σ : rd_S) (D : sd_D) (hk : k < 7) : sr_eq k (sd_wr σ (21 + (k + 1)) D) σ := fun a b h => sd_wr_ne D (by omega)
theorem sr_eq.rd {k o : Nat} {a b : rd_S} (h : sr_eq k a b) (ho : ¬ (21 + k < o ∧ o ≤ 28)) : sd_rd a o = sd_rd b o := by simp [sd_rd, h o _ ho]
theorem sr_eq.G {k : Nat} {a b : rd_S} (h : sr_eq k a b) : sr_G a = sr_G b := by simp [sr_G, h 19 _ (by omega)]
theorem sr_eq.kb {k : Nat} {a b : rd_S} (h : sr_eq k a b) (j : Nat) : a 19 j = b 19 j := h 19 j (by omega)
theorem sr_eqf.refl (k : Nat) (σ : rd_S) : sr_eqf k σ σ := fun _ _ _ _ => rfl
theorem sr_eqf.trans {k : Nat} {a b c : rd_S} (h1 : sr_eqf k a b) (h2 : sr_eqf k b c) : sr_eqf k a c := fun x y h h' => (h1 x y h h').trans (h2 x y h h')
theorem sr_eqf.up {k j : Nat} {a b : rd_S} (h : sr_eqf j a b) (hk : k ≤ j) : sr_eqf k a b := fun x y h1 h2 => h x y (by omega) h2
theorem sr_eqf.of {k : Nat} {a b : rd_S} (h : sr_eq k a b) : sr_eqf k a b := fun x y h1 _ => h x y h1
theorem sr_eqf.rd {k o : Nat} {a b : rd_S} (h : sr_eqf k a b) (ho : ¬ (21 + k < o ∧ o ≤ 28)) (h19 : o ≠ 19) : sd_rd a o = sd_rd b o := by simp [sd_rd, h o _ ho (fun q => h19 q.1)]
theorem sr_eqf.G {k : Nat} {a b : rd_S} (h : sr_eqf k a b) : sr_G a = sr_G b := by
  simp [sr_G, h 19 2 (by omega) (by omega), h 19 3 (by omega) (by omega), h 19 4 (by omega) (by omega), h 19 5 (by omega) (by omega), h 19 6 (by omega) (by omega)]
theorem sr_eqf.kb {k : Nat} {a b : rd_S} (h : sr_eqf k a b) : a 19 1 = b 19 1 := h 19 1 (by omega) (by omega)
set_option maxHeartbeats 4000000 in
set_option maxRecDepth 100000 in
theorem c_X2_aimAtWound (N d : Nat) (σ : rd_S) (hN : 33 ≤ N) (u l : Int32) : rd_T N (d + 0) yX2_aimAtWound cX2_aimAtWound 3 none [.ref 19, .int u, .int l] σ (rd_is none (rd_u2 (rd_u2 (rd_u2 σ 19 2 0) 19 3 u) 19 4 l)) := by
  refine rd_start RX2 [.ref 19, .int u, .int l] rfl (by decide +kernel) rfl (Nat.le_of_ble_eq_true rfl) ?_
  refine rr_aloadn_0 dX2_aimAtWound_0 ?_
  refine rr_iconst (v := 0) dX2_aimAtWound_1 (by decide) ?_
  refine rr_putz dX2_aimAtWound_2 kf_X2_18 (fun C T Nf h => by cases h; exact ⟨rfl, .boolean, rfl, by decide, by decide⟩) (by omega) rfl rfl ?_
  refine rr_aloadn_0 dX2_aimAtWound_5 ?_
  refine rr_iloadn_1 dX2_aimAtWound_6 ?_
  refine rr_puti dX2_aimAtWound_7 kf_X2_22 if_2_3 (by omega) rfl rfl ?_
  refine rr_aloadn_0 dX2_aimAtWound_10 ?_
  refine rr_iloadn_2 dX2_aimAtWound_11 ?_
  refine rr_puti dX2_aimAtWound_12 kf_X2_26 if_2_4 (by omega) rfl rfl ?_
  exact rr_vret dX2_aimAtWound_15 ⟨rfl, rfl⟩
set_option maxHeartbeats 4000000 in
set_option maxRecDepth 100000 in
theorem c_X2_aimAtMeeting (N d : Nat) (σ : rd_S) (hN : 33 ≤ N) (i j : Int32) : rd_T N (d + 0) yX2_aimAtMeeting cX2_aimAtMeeting 3 none [.ref 19, .int i, .int j] σ (rd_is none (rd_u2 (rd_u2 (rd_u2 σ 19 2 1) 19 5 i) 19 6 j)) := by
  refine rd_start RX2 [.ref 19, .int i, .int j] rfl (by decide +kernel) rfl (Nat.le_of_ble_eq_true rfl) ?_
  refine rr_aloadn_0 dX2_aimAtMeeting_0 ?_
  refine rr_iconst (v := 1) dX2_aimAtMeeting_1 (by decide) ?_
  refine rr_putz dX2_aimAtMeeting_2 kf_X2_18 (fun C T Nf h => by cases h; exact ⟨rfl, .boolean, rfl, by decide, by decide⟩) (by omega) rfl rfl ?_
  refine rr_aloadn_0 dX2_aimAtMeeting_5 ?_
  refine rr_iloadn_1 dX2_aimAtMeeting_6 ?_
  refine rr_puti dX2_aimAtMeeting_7 kf_X2_29 if_2_5 (by omega) rfl rfl ?_
  refine rr_aloadn_0 dX2_aimAtMeeting_10 ?_
  refine rr_iloadn_2 dX2_aimAtMeeting_11 ?_
  refine rr_puti dX2_aimAtMeeting_12 kf_X2_32 if_2_6 (by omega) rfl rfl ?_
  exact rr_vret dX2_aimAtMeeting_15 ⟨rfl, rfl⟩
set_option maxHeartbeats 4000000 in
set_option maxRecDepth 100000 in
theorem c_X2_startFrom (N d : Nat) (σ : rd_S) (hN : 33 ≤ N) (q : Nat) (kb : Int32) (hq : q < N) (hkq : rd_kd q = 3) : rd_T N (d + 1) yX2_startFrom cX2_startFrom 3 none [.ref 19, .ref q, .int kb] σ (rd_is none (rd_u2 (rd_u2 (rd_u2 (sd_wr σ 21 (sd_rd σ q)) 19 1 kb) 19 7 8) 19 8 0)) := by
  refine rd_start RX2 [.ref 19, .ref q, .int kb] rfl (by decide +kernel) rfl (Nat.le_of_ble_eq_true rfl) ?_
  refine rr_aloadn_0 dX2_startFrom_0 ?_
  refine rr_getr 20 dX2_startFrom_1 kf_X2_11 (by omega) rfl rfl rfl ?_
  refine rr_iconst (v := 0) dX2_startFrom_4 (by decide) ?_
  refine rr_aald (0) 21 dX2_startFrom_5 (by omega) rfl rfl (by decide) rfl ?_
  refine rr_aloadn_1 dX2_startFrom_6 ?_
  refine rr_callVvD (c_X3_take N _ _ _ _ (by omega) rfl hq hkq) km_X2_35 rfl rfl (by omega) rfl (Nat.le_of_ble_eq_true rfl) dX2_startFrom_7 ?_
  refine rr_aloadn_0 dX2_startFrom_10 ?_
  refine rr_iloadn_2 dX2_startFrom_11 ?_
  refine rr_puti dX2_startFrom_12 kf_X2_39 if_2_1 (by omega) rfl rfl ?_
  refine rr_aloadn_0 dX2_startFrom_15 ?_
  refine rr_bipush (v := 8) dX2_startFrom_16 (by decide) ?_
  refine rr_puti dX2_startFrom_18 kf_X2_42 if_2_7 (by omega) rfl rfl ?_
  refine rr_aloadn_0 dX2_startFrom_21 ?_
  refine rr_iconst (v := 0) dX2_startFrom_22 (by decide) ?_
  refine rr_puti dX2_startFrom_23 kf_X2_45 if_2_8 (by omega) rfl rfl ?_
  exact rr_vret dX2_startFrom_26 ⟨rfl, rfl⟩
set_option maxHeartbeats 4000000 in
set_option maxRecDepth 100000 in
theorem c_X2_isFound (N d : Nat) (σ : rd_S) (hN : 33 ≤ N) : rd_T N (d + 0) yX2_isFound cX2_isFound 1 (some .boolean) [.ref 19] σ (rd_is (some (.int (if σ 19 7 ≤ 7 then 1 else 0))) σ) := by
  refine rd_start RX2 [.ref 19] rfl (by decide +kernel) rfl (Nat.le_of_ble_eq_true rfl) ?_
  refine rr_aloadn_0 dX2_isFound_0 ?_
  refine rr_geti dX2_isFound_1 kf_X2_42 (by omega) rfl rfl ?_
  refine rr_bipush (v := 7) dX2_isFound_4 (by decide) ?_
  refine rr_icmp_gt 13 dX2_isFound_6 (by decide) (fun h6 => ?_) (fun h6 => ?_)
  · refine rr_iconst (v := 0) dX2_isFound_13 (by decide) ?_
    exact rr_zret dX2_isFound_14 (by decide) ⟨by simp [*], rfl⟩
  · refine rr_iconst (v := 1) dX2_isFound_9 (by decide) ?_
    refine rr_goto 14 dX2_isFound_10 (by decide) ?_
    exact rr_zret dX2_isFound_14 (by decide) ⟨by simp [*], rfl⟩
theorem nI_s (k : Nat) : nI k + 1 = nI (k + 1) := nI_1 k
set_option maxHeartbeats 4000000 in
set_option maxRecDepth 100000 in
theorem c_X2_isAtGoal (N d : Nat) (σ : rd_S) (hN : 33 ≤ N) (k : Nat) (hk : k < 8) : rd_T N (d + 2) yX2_isAtGoal cX2_isAtGoal 3 (some .boolean) [.ref 19, .int (nI k)] σ (rd_is (some (.int (if sr_G σ (sd_rd σ (21 + k)) = true then 1 else 0))) σ) := by
  refine rd_start RX2 [.ref 19, .int (nI k), .retAddr 0] rfl (by decide +kernel) rfl (Nat.le_of_ble_eq_true rfl) ?_
  refine rr_iloadn_1 dX2_isAtGoal_0 ?_
  refine rr_if_lt 13 dX2_isAtGoal_1 (by decide) (fun h1 => absurd h1 (nI_pos (by omega))) (fun h1 => ?_)
  refine rr_iloadn_1 dX2_isAtGoal_4 ?_
  refine rr_aloadn_0 dX2_isAtGoal_5 ?_
  refine rr_getr 20 dX2_isAtGoal_6 kf_X2_11 (by omega) rfl rfl rfl ?_
  refine rr_alen (v := 8) dX2_isAtGoal_9 (by omega) (by decide) rfl ?_
  refine rr_icmp_lt 15 dX2_isAtGoal_10 (by decide) (fun h10 => ?_) (fun h10 => absurd (nI_lt_8 hk) h10)
  refine rr_aloadn_0 dX2_isAtGoal_15 ?_
  refine rr_getr 20 dX2_isAtGoal_16 kf_X2_11 (by omega) rfl rfl rfl ?_
  refine rr_iloadn_1 dX2_isAtGoal_19 ?_
  refine rr_aald (k) (21 + k) dX2_isAtGoal_20 (by omega) rfl rfl hk rfl ?_
  refine rr_astoren_2 dX2_isAtGoal_21 rfl ?_
  refine rr_aloadn_0 dX2_isAtGoal_22 ?_
  refine rr_geti dX2_isAtGoal_23 kf_X2_18 (by omega) rfl rfl ?_
  refine rr_if_eq 57 dX2_isAtGoal_26 (by decide) (fun h26 => ?_) (fun h26 => ?_)
  · refine rr_aloadn_2 dX2_isAtGoal_57 ?_
    refine rr_aloadn_0 dX2_isAtGoal_58 ?_
    refine rr_geti dX2_isAtGoal_59 kf_X2_22 (by omega) rfl rfl ?_
    refine rr_aloadn_0 dX2_isAtGoal_62 ?_
    refine rr_geti dX2_isAtGoal_63 kf_X2_26 (by omega) rfl rfl ?_
    refine rr_callViD (c_X3_isWoundAs N _ _ _ _ _ (by omega) (sr_kd hk)) km_X2_52 rfl rfl (by omega) (sr_kd hk) (Nat.le_of_ble_eq_true rfl) dX2_isAtGoal_66 ?_
    exact rr_zret dX2_isAtGoal_69 (by split <;> decide) ⟨by by_cases hq : σ (21 + k) 2 = σ 19 3 ∧ σ (21 + k) 3 = σ 19 4 <;> simp [sr_G, sr_at, sd_rd, h26, hq], rfl⟩
  · refine rr_aloadn_2 dX2_isAtGoal_29 ?_
    refine rr_aloadn_0 dX2_isAtGoal_30 ?_
    refine rr_geti dX2_isAtGoal_31 kf_X2_29 (by omega) rfl rfl ?_
    refine rr_callViD (c_X3_placeOf N _ _ _ _ (by omega) (sr_kd hk)) km_X2_48 rfl rfl (by omega) (sr_kd hk) (Nat.le_of_ble_eq_true rfl) dX2_isAtGoal_34 ?_
    refine rr_aloadn_2 dX2_isAtGoal_37 ?_
    refine rr_aloadn_0 dX2_isAtGoal_38 ?_
    refine rr_geti dX2_isAtGoal_39 kf_X2_32 (by omega) rfl rfl ?_
    refine rr_callViD (c_X3_placeOf N _ _ _ _ (by omega) (sr_kd hk)) km_X2_48 rfl rfl (by omega) (sr_kd hk) (Nat.le_of_ble_eq_true rfl) dX2_isAtGoal_42 ?_
    refine rr_iadd dX2_isAtGoal_45 ?_
    refine rr_iconst (v := 2) dX2_isAtGoal_46 (by decide) ?_
    refine rr_irem dX2_isAtGoal_47 (by decide) ?_
    refine rr_if_eq 55 dX2_isAtGoal_48 (by decide) (fun h48 => ?_) (fun h48 => ?_)
    · refine rr_iconst (v := 0) dX2_isAtGoal_55 (by decide) ?_
      exact rr_zret dX2_isAtGoal_56 (by decide) ⟨by simp_all [sr_G, sr_at, sd_rd], rfl⟩
    · refine rr_iconst (v := 1) dX2_isAtGoal_51 (by decide) ?_
      refine rr_goto 56 dX2_isAtGoal_52 (by decide) ?_
      exact rr_zret dX2_isAtGoal_56 (by decide) ⟨by simp_all [sr_G, sr_at, sd_rd], rfl⟩
set_option maxHeartbeats 4000000 in
set_option maxRecDepth 100000 in
theorem c_X2_greaterPart (N d : Nat) (σ : rd_S) (hN : 33 ≤ N) (k : Nat) (hk : k < 8) : rd_T N (d + 1) yX2_greaterPart cX2_greaterPart 2 (some .int) [.ref 19, .int (nI k)] σ (rd_is (some (.int (if sd_abs (σ (21 + k) 2) < σ (21 + k) 3 then σ (21 + k) 3 else sd_abs (σ (21 + k) 2)))) σ) := by
  refine rd_start RX2 [.ref 19, .int (nI k)] rfl (by decide +kernel) rfl (Nat.le_of_ble_eq_true rfl) ?_
  refine rr_iloadn_1 dX2_greaterPart_0 ?_
  refine rr_if_lt 13 dX2_greaterPart_1 (by decide) (fun h1 => absurd h1 (nI_pos (by omega))) (fun h1 => ?_)
  refine rr_iloadn_1 dX2_greaterPart_4 ?_
  refine rr_aloadn_0 dX2_greaterPart_5 ?_
  refine rr_getr 20 dX2_greaterPart_6 kf_X2_11 (by omega) rfl rfl rfl ?_
  refine rr_alen (v := 8) dX2_greaterPart_9 (by omega) (by decide) rfl ?_
  refine rr_icmp_lt 15 dX2_greaterPart_10 (by decide) (fun h10 => ?_) (fun h10 => absurd (nI_lt_8 hk) h10)
  refine rr_aloadn_0 dX2_greaterPart_15 ?_
  refine rr_getr 20 dX2_greaterPart_16 kf_X2_11 (by omega) rfl rfl rfl ?_
  refine rr_iloadn_1 dX2_greaterPart_19 ?_
  refine rr_aald (k) (21 + k) dX2_greaterPart_20 (by omega) rfl rfl hk rfl ?_
  refine rr_geti dX2_greaterPart_21 kf_X2_59 (by omega) (sr_kd hk) rfl ?_
  refine rr_mabs dX2_greaterPart_24 kl_X2_62 (Nat.le_of_ble_eq_true rfl) kh_abs ?_
  refine rr_aloadn_0 dX2_greaterPart_27 ?_
  refine rr_getr 20 dX2_greaterPart_28 kf_X2_11 (by omega) rfl rfl rfl ?_
  refine rr_iloadn_1 dX2_greaterPart_31 ?_
  refine rr_aald (k) (21 + k) dX2_greaterPart_32 (by omega) rfl rfl hk rfl ?_
  refine rr_geti dX2_greaterPart_33 kf_X2_67 (by omega) (sr_kd hk) rfl ?_
  refine rr_mmax dX2_greaterPart_36 kl_X2_70 (Nat.le_of_ble_eq_true rfl) kh_max ?_
  exact rr_iret dX2_greaterPart_39 ⟨rfl, rfl⟩
set_option maxHeartbeats 4000000 in
set_option maxRecDepth 100000 in
theorem c_goOn_s (N d : Nat) (σ : rd_S) (hN : 33 ≤ N) (k : Nat) (hk : k < 7) (f : Int32) {D : sd_D} (h : sd_st (sd_rd σ (21 + k)) f (σ 19 1) = some D) : rd_T N (d + 3) yX2_goOn cX2_goOn 3 (some .boolean) [.ref 19, .int (nI k), .int f] σ (rd_is (some (.int 1)) (sd_wr σ (21 + (k + 1)) D)) := by
  refine rd_start RX2 [.ref 19, .int (nI k), .int f] rfl (by decide +kernel) rfl (Nat.le_of_ble_eq_true rfl) ?_
  refine rr_iloadn_1 dX2_goOn_0 ?_
  refine rr_if_lt 15 dX2_goOn_1 (by decide) (fun h1 => absurd h1 (nI_pos (by omega))) (fun h1 => ?_)
  refine rr_iloadn_1 dX2_goOn_4 ?_
  refine rr_iconst (v := 1) dX2_goOn_5 (by decide) ?_
  refine rr_iadd dX2_goOn_6 ?_
  rw [nI_s]
  refine rr_aloadn_0 dX2_goOn_7 ?_
  refine rr_getr 20 dX2_goOn_8 kf_X2_11 (by omega) rfl rfl rfl ?_
  refine rr_alen (v := 8) dX2_goOn_11 (by omega) (by decide) rfl ?_
  refine rr_icmp_lt 17 dX2_goOn_12 (by decide) (fun h12 => ?_) (fun h12 => absurd (nI_lt_8 (by omega)) h12)
  refine rr_aloadn_0 dX2_goOn_17 ?_
  refine rr_getr 20 dX2_goOn_18 kf_X2_11 (by omega) rfl rfl rfl ?_
  refine rr_iloadn_1 dX2_goOn_21 ?_
  refine rr_iconst (v := 1) dX2_goOn_22 (by decide) ?_
  refine rr_iadd dX2_goOn_23 ?_
  rw [nI_s]
  refine rr_aald ((k + 1)) (21 + (k + 1)) dX2_goOn_24 (by omega) rfl rfl (Nat.succ_lt_succ hk) rfl ?_
  refine rr_aloadn_0 dX2_goOn_25 ?_
  refine rr_getr 20 dX2_goOn_26 kf_X2_11 (by omega) rfl rfl rfl ?_
  refine rr_iloadn_1 dX2_goOn_29 ?_
  refine rr_aald (k) (21 + k) dX2_goOn_30 (by omega) rfl rfl (Nat.lt_succ_of_lt hk) rfl ?_
  refine rr_callVvD (c_X3_take N _ _ _ _ (by omega) (sr_kd1 hk) (by omega) (sr_kd (by omega))) km_X2_35 rfl rfl (by omega) (sr_kd1 hk) (Nat.le_of_ble_eq_true rfl) dX2_goOn_31 ?_
  refine rr_aloadn_0 dX2_goOn_34 ?_
  refine rr_getr 20 dX2_goOn_35 kf_X2_11 (by omega) rfl rfl rfl ?_
  refine rr_iloadn_1 dX2_goOn_38 ?_
  refine rr_iconst (v := 1) dX2_goOn_39 (by decide) ?_
  refine rr_iadd dX2_goOn_40 ?_
  rw [nI_s]
  refine rr_aald ((k + 1)) (21 + (k + 1)) dX2_goOn_41 (by omega) rfl rfl (Nat.succ_lt_succ hk) rfl ?_
  refine rr_iloadn_2 dX2_goOn_42 ?_
  refine rr_aloadn_0 dX2_goOn_43 ?_
  refine rr_geti dX2_goOn_44 kf_X2_39 (by omega) rfl rfl ?_
  refine rr_callViD (c_step_s N _ _ _ _ _ (by omega) (sr_kd1 hk) (D' := D) (by rw [sd_rd_wr, sd_wr_ne _ (by omega)]; exact h)) km_X2_56 rfl rfl (by omega) (sr_kd1 hk) (Nat.le_of_ble_eq_true rfl) dX2_goOn_47 ?_
  exact rr_zret dX2_goOn_50 (by decide) ⟨rfl, by rw [sd_wr_wr]⟩
set_option maxHeartbeats 4000000 in
set_option maxRecDepth 100000 in
theorem c_goOn_n (N d : Nat) (σ : rd_S) (hN : 33 ≤ N) (k : Nat) (hk : k < 7) (f : Int32) (h : sd_st (sd_rd σ (21 + k)) f (σ 19 1) = none) : rd_T N (d + 3) yX2_goOn cX2_goOn 3 (some .boolean) [.ref 19, .int (nI k), .int f] σ (rd_is (some (.int 0)) (sd_wr σ (21 + (k + 1)) (sd_rd σ (21 + k)))) := by
  refine rd_start RX2 [.ref 19, .int (nI k), .int f] rfl (by decide +kernel) rfl (Nat.le_of_ble_eq_true rfl) ?_
  refine rr_iloadn_1 dX2_goOn_0 ?_
  refine rr_if_lt 15 dX2_goOn_1 (by decide) (fun h1 => absurd h1 (nI_pos (by omega))) (fun h1 => ?_)
  refine rr_iloadn_1 dX2_goOn_4 ?_
  refine rr_iconst (v := 1) dX2_goOn_5 (by decide) ?_
  refine rr_iadd dX2_goOn_6 ?_
  rw [nI_s]
  refine rr_aloadn_0 dX2_goOn_7 ?_
  refine rr_getr 20 dX2_goOn_8 kf_X2_11 (by omega) rfl rfl rfl ?_
  refine rr_alen (v := 8) dX2_goOn_11 (by omega) (by decide) rfl ?_
  refine rr_icmp_lt 17 dX2_goOn_12 (by decide) (fun h12 => ?_) (fun h12 => absurd (nI_lt_8 (by omega)) h12)
  refine rr_aloadn_0 dX2_goOn_17 ?_
  refine rr_getr 20 dX2_goOn_18 kf_X2_11 (by omega) rfl rfl rfl ?_
  refine rr_iloadn_1 dX2_goOn_21 ?_
  refine rr_iconst (v := 1) dX2_goOn_22 (by decide) ?_
  refine rr_iadd dX2_goOn_23 ?_
  rw [nI_s]
  refine rr_aald ((k + 1)) (21 + (k + 1)) dX2_goOn_24 (by omega) rfl rfl (Nat.succ_lt_succ hk) rfl ?_
  refine rr_aloadn_0 dX2_goOn_25 ?_
  refine rr_getr 20 dX2_goOn_26 kf_X2_11 (by omega) rfl rfl rfl ?_
  refine rr_iloadn_1 dX2_goOn_29 ?_
  refine rr_aald (k) (21 + k) dX2_goOn_30 (by omega) rfl rfl (Nat.lt_succ_of_lt hk) rfl ?_
  refine rr_callVvD (c_X3_take N _ _ _ _ (by omega) (sr_kd1 hk) (by omega) (sr_kd (by omega))) km_X2_35 rfl rfl (by omega) (sr_kd1 hk) (Nat.le_of_ble_eq_true rfl) dX2_goOn_31 ?_
  refine rr_aloadn_0 dX2_goOn_34 ?_
  refine rr_getr 20 dX2_goOn_35 kf_X2_11 (by omega) rfl rfl rfl ?_
  refine rr_iloadn_1 dX2_goOn_38 ?_
  refine rr_iconst (v := 1) dX2_goOn_39 (by decide) ?_
  refine rr_iadd dX2_goOn_40 ?_
  rw [nI_s]
  refine rr_aald ((k + 1)) (21 + (k + 1)) dX2_goOn_41 (by omega) rfl rfl (Nat.succ_lt_succ hk) rfl ?_
  refine rr_iloadn_2 dX2_goOn_42 ?_
  refine rr_aloadn_0 dX2_goOn_43 ?_
  refine rr_geti dX2_goOn_44 kf_X2_39 (by omega) rfl rfl ?_
  refine rr_callViD (c_step_n N _ _ _ _ _ (by omega) (sr_kd1 hk) (by rw [sd_rd_wr, sd_wr_ne _ (by omega)]; exact h)) km_X2_56 rfl rfl (by omega) (sr_kd1 hk) (Nat.le_of_ble_eq_true rfl) dX2_goOn_47 ?_
  exact rr_zret dX2_goOn_50 (by decide) ⟨rfl, rfl⟩
set_option maxHeartbeats 4000000 in
set_option maxRecDepth 100000 in
theorem c_X2_better (N d : Nat) (σ : rd_S) (w a b : Int32) : rd_T N (d + 1) yX2_better cX2_better 3 (some .int) [.int w, .int a, .int b] σ (rd_is (some (.int (if w = 0 then (if b < a then b else a) else (if a < b then b else a)))) σ) := by
  refine rd_start RX2 [.int w, .int a, .int b] rfl (by decide +kernel) rfl (Nat.le_of_ble_eq_true rfl) ?_
  refine rr_iloadn_0 dX2_better_0 ?_
  refine rr_if_eq 12 dX2_better_1 (by decide) (fun h1 => ?_) (fun h1 => ?_)
  · refine rr_iloadn_1 dX2_better_12 ?_
    refine rr_iloadn_2 dX2_better_13 ?_
    refine rr_mmin dX2_better_14 kl_X2_99 (Nat.le_of_ble_eq_true rfl) kh_min ?_
    exact rr_iret dX2_better_17 ⟨by simp [*], rfl⟩
  · refine rr_iloadn_1 dX2_better_4 ?_
    refine rr_iloadn_2 dX2_better_5 ?_
    refine rr_mmax dX2_better_6 kl_X2_70 (Nat.le_of_ble_eq_true rfl) kh_max ?_
    refine rr_goto 17 dX2_better_9 (by decide) ?_
    exact rr_iret dX2_better_17 ⟨by simp [*], rfl⟩
/-- how many rows of m more figures lead to the goal -/
def sr_cnt (G : sd_D → Bool) (kb : Int32) : Nat → sd_D → Nat
  | 0, D => if G D = true then 1 else 0
  | m + 1, D => (match sd_st D (nI 0) kb with | none => 0 | some E => sr_cnt G kb m E) + ((match sd_st D (nI 1) kb with | none => 0 | some E => sr_cnt G kb m E) + (match sd_st D (nI 2) kb with | none => 0 | some E => sr_cnt G kb m E))
def sr_c1 (G : sd_D → Bool) (kb : Int32) (m : Nat) (D : sd_D) (f : Nat) : Nat := match sd_st D (nI f) kb with | none => 0 | some E => sr_cnt G kb m E
def sr_sum (F : Nat → Nat) (f : Nat) : Nat → Nat
  | 0 => 0
  | j + 1 => F f + sr_sum F (f + 1) j
theorem sr_cnt_s (G : sd_D → Bool) (kb : Int32) (m : Nat) (D : sd_D) : sr_cnt G kb (m + 1) D = sr_sum (sr_c1 G kb m D) 0 3 := by
  simp [sr_cnt, sr_sum, sr_c1]
set_option maxHeartbeats 4000000 in
set_option maxRecDepth 100000 in
theorem c_X2_rowsFrom (N d n : Nat) (hN : 33 ≤ N) (hn : n ≤ 7) : ∀ (m k : Nat) (σ : rd_S), k + m = n → rd_T N (d + m + 4) yX2_rowsFrom cX2_rowsFrom 5 (some .int) [.ref 19, .int (nI k), .int (nI n)] σ (fun r s => r = some (.int (nI (sr_cnt (sr_G σ) (σ 19 1) m (sd_rd σ (21 + k))))) ∧ sr_eq k s σ) := by
  intro m
  induction m with
  | zero =>
    intro k σ hk
    obtain rfl : k = n := hk
    refine rd_start RX2 [.ref 19, .int (nI k), .int (nI k), .retAddr 0, .retAddr 0] rfl (by decide +kernel) rfl (Nat.le_of_ble_eq_true rfl) ?_
    refine rr_iloadn_1 dX2_rowsFrom_0 ?_
    refine rr_iloadn_2 dX2_rowsFrom_1 ?_
    refine rr_icmp_ge 11 dX2_rowsFrom_2 (by decide) (fun h2 => ?_) (fun h2 => absurd (nI_le (Nat.le_refl k) (by omega)) h2)
    refine rr_aloadn_0 dX2_rowsFrom_11 ?_
    refine rr_iloadn_1 dX2_rowsFrom_12 ?_
    refine rr_callViD (c_X2_isAtGoal N _ _ hN k (by omega)) km_X2_74 rfl rfl (by omega) rfl (Nat.le_of_ble_eq_true rfl) dX2_rowsFrom_13 ?_
    refine rr_if_eq 23 dX2_rowsFrom_16 (by decide) (fun h16 => ?_) (fun h16 => ?_)
    · refine rr_iconst (v := 0) dX2_rowsFrom_23 (by decide) ?_
      exact rr_iret dX2_rowsFrom_24 ⟨by simp_all [sr_cnt] <;> rfl, sr_eq.refl _ _⟩
    · refine rr_iconst (v := 1) dX2_rowsFrom_19 (by decide) ?_
      refine rr_goto 24 dX2_rowsFrom_20 (by decide) ?_
      exact rr_iret dX2_rowsFrom_24 ⟨by simp_all [sr_cnt] <;> rfl, sr_eq.refl _ _⟩
  | succ m ih =>
    intro k σ hk
    refine rd_start RX2 [.ref 19, .int (nI k), .int (nI n), .retAddr 0, .retAddr 0] rfl (by decide +kernel) rfl (Nat.le_of_ble_eq_true rfl) ?_
    have loop : ∀ (j f acc : Nat) (s : rd_S), f + j = 3 → sr_eq k s σ → rd_W N (d + (m + 1) + 4) RX2 cX2_rowsFrom 5 (some .int) 30 [.ref 19, .int (nI k), .int (nI n), .int (nI acc), .int (nI f)] [] s (fun r u => r = some (.int (nI (acc + sr_sum (sr_c1 (sr_G σ) (σ 19 1) m (sd_rd σ (21 + k))) f j))) ∧ sr_eq k u σ) := by
      intro j
      induction j with
      | zero =>
        intro f acc s hf he
        refine rr_iload_4 dX2_rowsFrom_30 ?_
        refine rr_iconst (v := 2) dX2_rowsFrom_32 (by decide) ?_
        refine rr_icmp_gt 63 dX2_rowsFrom_33 (by decide) (fun h33 => ?_) (fun h33 => absurd ((nI_lt8 (a := 2) (b := f) (by omega) (by omega)).mpr (by omega)) h33)
        refine rr_iloadn_3 dX2_rowsFrom_63 ?_
        exact rr_iret dX2_rowsFrom_64 ⟨rfl, he⟩
      | succ j ihj =>
        intro f acc s hf he
        have e1 : sd_rd s (21 + k) = sd_rd σ (21 + k) := he.rd (by omega)
        have e2 : s 19 1 = σ 19 1 := he.kb 1
        refine rr_iload_4 dX2_rowsFrom_30 ?_
        refine rr_iconst (v := 2) dX2_rowsFrom_32 (by decide) ?_
        refine rr_icmp_gt 63 dX2_rowsFrom_33 (by decide) (fun h33 => absurd ((nI_lt8 (a := 2) (b := f) (by omega) (by omega)).mp h33) (by omega)) (fun h33 => ?_)
        rcases hst : sd_st (sd_rd σ (21 + k)) (nI f) (σ 19 1) with _ | E
        · refine rr_aloadn_0 dX2_rowsFrom_36 ?_
          refine rr_iloadn_1 dX2_rowsFrom_37 ?_
          refine rr_iload_4 dX2_rowsFrom_38 ?_
          refine rr_callViD (c_goOn_n N _ _ hN k (by omega) _ (by rw [e1, e2]; exact hst)) km_X2_78 rfl rfl (by omega) rfl (Nat.le_of_ble_eq_true rfl) dX2_rowsFrom_40 ?_
          refine rr_if_eq 57 dX2_rowsFrom_43 (by decide) (fun _ => ?_) (fun h43 => absurd h43 (by decide))
          refine rr_iinc_4 1 dX2_rowsFrom_57 (by decide) rfl ?_
          refine rr_goto 30 dX2_rowsFrom_60 (by decide) ?_
          rw [nI_s f]
          exact (ihj (f + 1) acc _ (by omega) ((sr_eq.wr _ _ (by omega)).trans he)).post (fun r u q => ⟨by rw [q.1]; simp [sr_sum, sr_c1, hst], q.2⟩)
        · refine rr_aloadn_0 dX2_rowsFrom_36 ?_
          refine rr_iloadn_1 dX2_rowsFrom_37 ?_
          refine rr_iload_4 dX2_rowsFrom_38 ?_
          refine rr_callViD (c_goOn_s N _ _ hN k (by omega) _ (D := E) (by rw [e1, e2]; exact hst)) km_X2_78 rfl rfl (by omega) rfl (Nat.le_of_ble_eq_true rfl) dX2_rowsFrom_40 ?_
          refine rr_if_eq 57 dX2_rowsFrom_43 (by decide) (fun h43 => absurd h43 (by decide)) (fun _ => ?_)
          refine rr_iloadn_3 dX2_rowsFrom_46 ?_
          refine rr_aloadn_0 dX2_rowsFrom_47 ?_
          refine rr_iloadn_1 dX2_rowsFrom_48 ?_
          refine rr_iconst (v := 1) dX2_rowsFrom_49 (by decide) ?_
          refine rr_iadd dX2_rowsFrom_50 ?_
          rw [nI_s k]
          refine rr_iloadn_2 dX2_rowsFrom_51 ?_
          refine rr_callSi (ih (k + 1) _ (by omega)) km_X2_85 rfl rfl (Nat.le_of_ble_eq_true rfl) dX2_rowsFrom_52 (fun r52 s52 q52 => ?_)
          obtain ⟨hr, he2⟩ := q52
          cases hr
          have e3 : sr_eq k s52 σ := ((he2.up (by omega)).trans (sr_eq.wr _ _ (by omega))).trans he
          refine rr_iadd dX2_rowsFrom_55 ?_
          rw [sr_eq.G ((sr_eq.wr _ _ (by omega)).trans he), sd_rd_wr, ((sr_eq.wr _ _ (by omega)).trans he).kb 1, nI_add]
          refine rr_istoren_3 dX2_rowsFrom_56 rfl ?_
          refine rr_iinc_4 1 dX2_rowsFrom_57 (by decide) rfl ?_
          refine rr_goto 30 dX2_rowsFrom_60 (by decide) ?_
          rw [nI_s f]
          exact (ihj (f + 1) _ _ (by omega) e3).post (fun r u q => ⟨by rw [q.1]; simp [sr_sum, sr_c1, hst, Nat.add_assoc], q.2⟩)
    refine rr_iloadn_1 dX2_rowsFrom_0 ?_
    refine rr_iloadn_2 dX2_rowsFrom_1 ?_
    refine rr_icmp_ge 11 dX2_rowsFrom_2 (by decide) (fun h2 => absurd ((nI_le8 (by omega) (by omega)).mp h2) (by omega)) (fun h2 => ?_)
    refine rr_iloadn_1 dX2_rowsFrom_5 ?_
    refine rr_bipush (v := 7) dX2_rowsFrom_6 (by decide) ?_
    refine rr_icmp_lt 25 dX2_rowsFrom_8 (by decide) (fun h8 => ?_) (fun h8 => absurd ((nI_lt8 (b := 7) (by omega) (by omega)).mpr (by omega)) h8)
    refine rr_iconst (v := 0) dX2_rowsFrom_25 (by decide) ?_
    refine rr_istoren_3 dX2_rowsFrom_26 rfl ?_
    refine rr_iconst (v := 0) dX2_rowsFrom_27 (by decide) ?_
    refine rr_istore_4 dX2_rowsFrom_28 rfl ?_
    exact (loop 3 0 0 σ rfl (sr_eq.refl _ _)).post (fun r u q => ⟨by rw [q.1, sr_cnt_s, Nat.zero_add], q.2⟩)
end
section
/-! ===== Search: seek, bestFrom, chanceFrom ===== -/
/-- the figure is tried, k figures being done: what is found then, the best being b with the row r -/
def sr_sk (G : sd_D → Bool) (kb : Int32) : Nat → Nat → Int32 → sd_D → Nat × Int32 → Nat × Int32
  | 0, k, row, D, br => if br.1 ≤ k then br else if G D = true then (k, row) else br
  | m + 1, k, row, D, br => if br.1 ≤ k then br else if G D = true then (k, row) else
      (fun (F : Nat → Nat × Int32 → Nat × Int32) => F 2 (F 1 (F 0 br))) (fun f br => if br.1 ≤ k + 1 then br else match sd_st D (nI f) kb with | none => br | some E => sr_sk G kb m (k + 1) (row ||| (nI f <<< ((2 * nI k) &&& 31))) E br)
def sr_s1 (G : sd_D → Bool) (kb : Int32) (m k : Nat) (row : Int32) (D : sd_D) (f : Nat) (br : Nat × Int32) : Nat × Int32 := if br.1 ≤ k + 1 then br else match sd_st D (nI f) kb with | none => br | some E => sr_sk G kb m (k + 1) (row ||| (nI f <<< ((2 * nI k) &&& 31))) E br
def sr_it (F : Nat → Nat × Int32 → Nat × Int32) (f : Nat) : Nat → Nat × Int32 → Nat × Int32
  | 0, br => br
  | j + 1, br => sr_it F (f + 1) j (F f br)
theorem sr_sk_s (G : sd_D → Bool) (kb : Int32) (m k : Nat) (row : Int32) (D : sd_D) (br : Nat × Int32) : sr_sk G kb (m + 1) k row D br = if br.1 ≤ k then br else if G D = true then (k, row) else sr_it (sr_s1 G kb m k row D) 0 3 br := by
  simp [sr_sk, sr_it, sr_s1]
/-- what comes is no worse -/
theorem sr_sk_le (G : sd_D → Bool) (kb : Int32) : ∀ (m k : Nat) (row : Int32) (D : sd_D) (br : Nat × Int32), (sr_sk G kb m k row D br).1 ≤ br.1
  | 0, k, row, D, br => by
    unfold sr_sk
    split
    · exact Nat.le_refl _
    · split
      · simp; omega
      · exact Nat.le_refl _
  | m + 1, k, row, D, br => by
    have h1 : ∀ f br, (sr_s1 G kb m k row D f br).1 ≤ br.1 := by
      intro f br
      unfold sr_s1
      split
      · exact Nat.le_refl _
      · split
        · exact Nat.le_refl _
        · exact sr_sk_le G kb m _ _ _ _
    rw [sr_sk_s]
    split
    · exact Nat.le_refl _
    · split
      · simp; omega
      · simp only [sr_it]
        exact Nat.le_trans (h1 _ _) (Nat.le_trans (h1 _ _) (h1 _ _))
theorem sr_s1_le (G : sd_D → Bool) (kb : Int32) (m k : Nat) (row : Int32) (D : sd_D) (f : Nat) (br : Nat × Int32) : (sr_s1 G kb m k row D f br).1 ≤ br.1 := by
  unfold sr_s1
  split
  · exact Nat.le_refl _
  · split
    · exact Nat.le_refl _
    · exact sr_sk_le G kb m _ _ _ _
set_option maxHeartbeats 4000000 in
set_option maxRecDepth 100000 in
theorem c_X2_seek (N d : Nat) (hN : 33 ≤ N) : ∀ (m k : Nat) (row : Int32) (σ : rd_S) (br : Nat × Int32), k + m = 7 → br.1 ≤ 8 → σ 19 7 = nI br.1 → σ 19 8 = br.2 → rd_T N (d + m + 4) yX2_seek cX2_seek 4 none [.ref 19, .int (nI k), .int row] σ (fun r s => r = none ∧ s 19 7 = nI (sr_sk (sr_G σ) (σ 19 1) m k row (sd_rd σ (21 + k)) br).1 ∧ s 19 8 = (sr_sk (sr_G σ) (σ 19 1) m k row (sd_rd σ (21 + k)) br).2 ∧ sr_eqf k s σ) := by
  intro m
  induction m with
  | zero =>
    intro k row σ br hk hb h7 h8
    obtain rfl : k = 7 := hk
    refine rd_start RX2 [.ref 19, .int (nI 7), .int row, .retAddr 0] rfl (by decide +kernel) rfl (Nat.le_of_ble_eq_true rfl) ?_
    refine rr_iloadn_1 dX2_seek_0 ?_
    refine rr_aloadn_0 dX2_seek_1 ?_
    refine rr_geti dX2_seek_2 kf_X2_42 (by omega) rfl rfl ?_
    rw [h7]
    refine rr_icmp_ge 14 dX2_seek_5 (by decide) (fun h5 => ?_) (fun h5 => ?_)
    · exact rr_vret dX2_seek_14 ⟨rfl, by rw [h7]; simp [sr_sk, (nI_le8 (by omega) (by omega)).mp h5], by rw [h8]; simp [sr_sk, (nI_le8 (by omega) (by omega)).mp h5], sr_eqf.refl _ _⟩
    · refine rr_iloadn_1 dX2_seek_8 ?_
      refine rr_bipush (v := 7) dX2_seek_9 (by decide) ?_
      refine rr_icmp_le 15 dX2_seek_11 (by decide) (fun h11 => ?_) (fun h11 => absurd (by decide) h11)
      refine rr_aloadn_0 dX2_seek_15 ?_
      refine rr_iloadn_1 dX2_seek_16 ?_
      by_cases hg : sr_G σ (sd_rd σ (21 + 7)) = true
      · refine rr_callViD (c_X2_isAtGoal N _ _ hN 7 (by omega)) km_X2_74 rfl rfl (by omega) rfl (Nat.le_of_ble_eq_true rfl) dX2_seek_17 ?_
        rw [if_pos hg]
        refine rr_if_eq 34 dX2_seek_20 (by decide) (fun h20 => absurd h20 (by decide)) (fun h20 => ?_)
        refine rr_aloadn_0 dX2_seek_23 ?_
        refine rr_iloadn_1 dX2_seek_24 ?_
        refine rr_puti dX2_seek_25 kf_X2_42 if_2_7 (by omega) rfl rfl ?_
        refine rr_aloadn_0 dX2_seek_28 ?_
        refine rr_iloadn_2 dX2_seek_29 ?_
        refine rr_puti dX2_seek_30 kf_X2_45 if_2_8 (by omega) rfl rfl ?_
        exact rr_vret dX2_seek_33 ⟨rfl, by simp [rd_u2, sr_sk, hg, show ¬ br.1 ≤ 7 from fun q => h5 ((nI_le8 (by omega) (by omega)).mpr q)], by simp [rd_u2, sr_sk, hg, show ¬ br.1 ≤ 7 from fun q => h5 ((nI_le8 (by omega) (by omega)).mpr q)], fun a b _ h2 => by simp only [rd_u2]; rw [if_neg (by omega), if_neg (by omega)]⟩
      · refine rr_callViD (c_X2_isAtGoal N _ _ hN 7 (by omega)) km_X2_74 rfl rfl (by omega) rfl (Nat.le_of_ble_eq_true rfl) dX2_seek_17 ?_
        rw [if_neg hg]
        refine rr_if_eq 34 dX2_seek_20 (by decide) (fun h20 => ?_) (fun h20 => absurd rfl h20)
        refine rr_iconst (v := 0) dX2_seek_34 (by decide) ?_
        refine rr_istoren_3 dX2_seek_35 rfl ?_
        refine rr_iloadn_3 dX2_seek_36 ?_
        refine rr_iconst (v := 2) dX2_seek_37 (by decide) ?_
        refine rr_icmp_gt 80 dX2_seek_38 (by decide) (fun h38 => absurd h38 (by decide)) (fun _ => ?_)
        refine rr_iloadn_1 dX2_seek_41 ?_
        refine rr_iconst (v := 1) dX2_seek_42 (by decide) ?_
        refine rr_iadd dX2_seek_43 ?_
        refine rr_aloadn_0 dX2_seek_44 ?_
        refine rr_geti dX2_seek_45 kf_X2_42 (by omega) rfl rfl ?_
        rw [h7]
        refine rr_icmp_ge 80 dX2_seek_48 (by decide) (fun h48 => ?_) (fun h48 => absurd ((nI_le8 (a := br.1) (b := 8) (by omega) (by omega)).mpr hb) h48)
        exact rr_vret dX2_seek_80 ⟨rfl, by rw [h7]; simp [sr_sk, hg], by rw [h8]; simp [sr_sk, hg], sr_eqf.refl _ _⟩
  | succ m ih =>
    intro k row σ br hk hb h7 h8
    refine rd_start RX2 [.ref 19, .int (nI k), .int row, .retAddr 0] rfl (by decide +kernel) rfl (Nat.le_of_ble_eq_true rfl) ?_
    have loop : ∀ (j f : Nat) (s : rd_S) (b0 : Nat × Int32), f + j = 3 → b0.1 ≤ 8 → s 19 7 = nI b0.1 → s 19 8 = b0.2 → sr_eqf k s σ → rd_W N (d + (m + 1) + 4) RX2 cX2_seek 4 none 36 [.ref 19, .int (nI k), .int row, .int (nI f)] [] s (fun r u => r = none ∧ u 19 7 = nI (sr_it (sr_s1 (sr_G σ) (σ 19 1) m k row (sd_rd σ (21 + k))) f j b0).1 ∧ u 19 8 = (sr_it (sr_s1 (sr_G σ) (σ 19 1) m k row (sd_rd σ (21 + k))) f j b0).2 ∧ sr_eqf k u σ) := by
      intro j
      induction j with
      | zero =>
        intro f s b0 hf hb0 g7 g8 he
        refine rr_iloadn_3 dX2_seek_36 ?_
        refine rr_iconst (v := 2) dX2_seek_37 (by decide) ?_
        refine rr_icmp_gt 80 dX2_seek_38 (by decide) (fun h38 => ?_) (fun h38 => absurd ((nI_lt8 (a := 2) (b := f) (by omega) (by omega)).mpr (by omega)) h38)
        exact rr_vret dX2_seek_80 ⟨rfl, g7, g8, he⟩
      | succ j ihj =>
        intro f s b0 hf hb0 g7 g8 he
        have e1 : sd_rd s (21 + k) = sd_rd σ (21 + k) := he.rd (by omega) (by omega)
        have e2 : s 19 1 = σ 19 1 := he.kb
        by_cases hbk : b0.1 ≤ k + 1
        · have hz : ∀ j f, sr_it (sr_s1 (sr_G σ) (σ 19 1) m k row (sd_rd σ (21 + k))) f j b0 = b0 := by
            intro j
            induction j with
            | zero => intro f; rfl
            | succ j ih2 => intro f; simp only [sr_it]; rw [show sr_s1 (sr_G σ) (σ 19 1) m k row (sd_rd σ (21 + k)) f b0 = b0 by simp [sr_s1, hbk]]; exact ih2 _
          refine rr_iloadn_3 dX2_seek_36 ?_
          refine rr_iconst (v := 2) dX2_seek_37 (by decide) ?_
          refine rr_icmp_gt 80 dX2_seek_38 (by decide) (fun h38 => absurd ((nI_lt8 (a := 2) (b := f) (by omega) (by omega)).mp h38) (by omega)) (fun h38 => ?_)
          refine rr_iloadn_1 dX2_seek_41 ?_
          refine rr_iconst (v := 1) dX2_seek_42 (by decide) ?_
          refine rr_iadd dX2_seek_43 ?_
          rw [nI_s k]
          refine rr_aloadn_0 dX2_seek_44 ?_
          refine rr_geti dX2_seek_45 kf_X2_42 (by omega) rfl rfl ?_
          rw [g7]
          refine rr_icmp_ge 80 dX2_seek_48 (by decide) (fun h48 => ?_) (fun h48 => absurd ((nI_le8 (by omega) (by omega)).mpr hbk) h48)
          exact rr_vret dX2_seek_80 ⟨rfl, by rw [hz]; exact g7, by rw [hz]; exact g8, he⟩
        have hs1 : ∀ E, sd_st (sd_rd σ (21 + k)) (nI f) (σ 19 1) = E → sr_s1 (sr_G σ) (σ 19 1) m k row (sd_rd σ (21 + k)) f b0 = match E with | none => b0 | some E => sr_sk (sr_G σ) (σ 19 1) m (k + 1) (row ||| (nI f <<< ((2 * nI k) &&& 31))) E b0 := by
          intro E hE
          subst hE
          simp [sr_s1, hbk]
        refine rr_iloadn_3 dX2_seek_36 ?_
        refine rr_iconst (v := 2) dX2_seek_37 (by decide) ?_
        refine rr_icmp_gt 80 dX2_seek_38 (by decide) (fun h38 => absurd ((nI_lt8 (a := 2) (b := f) (by omega) (by omega)).mp h38) (by omega)) (fun h38 => ?_)
        refine rr_iloadn_1 dX2_seek_41 ?_
        refine rr_iconst (v := 1) dX2_seek_42 (by decide) ?_
        refine rr_iadd dX2_seek_43 ?_
        rw [nI_s k]
        refine rr_aloadn_0 dX2_seek_44 ?_
        refine rr_geti dX2_seek_45 kf_X2_42 (by omega) rfl rfl ?_
        rw [g7]
        refine rr_icmp_ge 80 dX2_seek_48 (by decide) (fun h48 => absurd ((nI_le8 (by omega) (by omega)).mp h48) hbk) (fun h48 => ?_)
        rcases hst : sd_st (sd_rd σ (21 + k)) (nI f) (σ 19 1) with _ | E
        · refine rr_aloadn_0 dX2_seek_51 ?_
          refine rr_iloadn_1 dX2_seek_52 ?_
          refine rr_iloadn_3 dX2_seek_53 ?_
          refine rr_callViD (c_goOn_n N _ _ hN k (by omega) _ (by rw [e1, e2]; exact hst)) km_X2_78 rfl rfl (by omega) rfl (Nat.le_of_ble_eq_true rfl) dX2_seek_54 ?_
          refine rr_if_eq 74 dX2_seek_57 (by decide) (fun _ => ?_) (fun h57 => absurd h57 (by decide))
          refine rr_iinc_3 1 dX2_seek_74 (by decide) rfl ?_
          refine rr_goto 36 dX2_seek_77 (by decide) ?_
          rw [nI_s f]
          refine (ihj (f + 1) _ b0 (by omega) hb0 (by rw [sd_wr_ne _ (by omega)]; exact g7) (by rw [sd_wr_ne _ (by omega)]; exact g8) ((sr_eqf.of (sr_eq.wr _ _ (by omega))).trans he)).post (fun r u q => ?_)
          simp only [sr_it, hs1 _ hst]
          exact q
        · refine rr_aloadn_0 dX2_seek_51 ?_
          refine rr_iloadn_1 dX2_seek_52 ?_
          refine rr_iloadn_3 dX2_seek_53 ?_
          refine rr_callViD (c_goOn_s N _ _ hN k (by omega) _ (D := E) (by rw [e1, e2]; exact hst)) km_X2_78 rfl rfl (by omega) rfl (Nat.le_of_ble_eq_true rfl) dX2_seek_54 ?_
          refine rr_if_eq 74 dX2_seek_57 (by decide) (fun h57 => absurd h57 (by decide)) (fun _ => ?_)
          refine rr_aloadn_0 dX2_seek_60 ?_
          refine rr_iloadn_1 dX2_seek_61 ?_
          refine rr_iconst (v := 1) dX2_seek_62 (by decide) ?_
          refine rr_iadd dX2_seek_63 ?_
          rw [nI_s k]
          refine rr_iloadn_2 dX2_seek_64 ?_
          refine rr_iloadn_3 dX2_seek_65 ?_
          refine rr_iconst (v := 2) dX2_seek_66 (by decide) ?_
          refine rr_iloadn_1 dX2_seek_67 ?_
          refine rr_imul dX2_seek_68 ?_
          refine rr_ishl dX2_seek_69 ?_
          refine rr_ior dX2_seek_70 ?_
          refine rr_callSv (ih (k + 1) _ _ b0 (by omega) hb0 (by rw [sd_wr_ne _ (by omega)]; exact g7) (by rw [sd_wr_ne _ (by omega)]; exact g8)) km_X2_81 rfl rfl (Nat.le_of_ble_eq_true rfl) dX2_seek_71 (fun s71 q71 => ?_)
          obtain ⟨-, q7, q8, he2⟩ := q71
          rw [sr_eqf.G ((sr_eqf.of (sr_eq.wr _ _ (by omega))).trans he), sd_rd_wr, ((sr_eqf.of (sr_eq.wr _ _ (by omega))).trans he).kb] at q7 q8
          have e3 : sr_eqf k s71 σ := ((he2.up (by omega)).trans (sr_eqf.of (sr_eq.wr _ _ (by omega)))).trans he
          refine rr_iinc_3 1 dX2_seek_74 (by decide) rfl ?_
          refine rr_goto 36 dX2_seek_77 (by decide) ?_
          rw [nI_s f]
          refine (ihj (f + 1) _ _ (by omega) (Nat.le_trans (sr_sk_le _ _ _ _ _ _ _) hb0) q7 q8 e3).post (fun r u q => ?_)
          simp only [sr_it, hs1 _ hst]
          exact q
    refine rr_iloadn_1 dX2_seek_0 ?_
    refine rr_aloadn_0 dX2_seek_1 ?_
    refine rr_geti dX2_seek_2 kf_X2_42 (by omega) rfl rfl ?_
    rw [h7]
    refine rr_icmp_ge 14 dX2_seek_5 (by decide) (fun h5 => ?_) (fun h5 => ?_)
    · exact rr_vret dX2_seek_14 ⟨rfl, by rw [h7, sr_sk_s, if_pos ((nI_le8 (by omega) (by omega)).mp h5)], by rw [h8, sr_sk_s, if_pos ((nI_le8 (by omega) (by omega)).mp h5)], sr_eqf.refl _ _⟩
    · refine rr_iloadn_1 dX2_seek_8 ?_
      refine rr_bipush (v := 7) dX2_seek_9 (by decide) ?_
      refine rr_icmp_le 15 dX2_seek_11 (by decide) (fun h11 => ?_) (fun h11 => absurd ((nI_le8 (b := 7) (by omega) (by omega)).mpr (by omega)) h11)
      refine rr_aloadn_0 dX2_seek_15 ?_
      refine rr_iloadn_1 dX2_seek_16 ?_
      by_cases hg : sr_G σ (sd_rd σ (21 + k)) = true
      · refine rr_callViD (c_X2_isAtGoal N _ _ hN k (by omega)) km_X2_74 rfl rfl (by omega) rfl (Nat.le_of_ble_eq_true rfl) dX2_seek_17 ?_
        rw [if_pos hg]
        refine rr_if_eq 34 dX2_seek_20 (by decide) (fun h20 => absurd h20 (by decide)) (fun h20 => ?_)
        refine rr_aloadn_0 dX2_seek_23 ?_
        refine rr_iloadn_1 dX2_seek_24 ?_
        refine rr_puti dX2_seek_25 kf_X2_42 if_2_7 (by omega) rfl rfl ?_
        refine rr_aloadn_0 dX2_seek_28 ?_
        refine rr_iloadn_2 dX2_seek_29 ?_
        refine rr_puti dX2_seek_30 kf_X2_45 if_2_8 (by omega) rfl rfl ?_
        exact rr_vret dX2_seek_33 ⟨rfl, by simp [rd_u2, sr_sk_s, hg, show ¬ br.1 ≤ k from fun q => h5 ((nI_le8 (by omega) (by omega)).mpr q)], by simp [rd_u2, sr_sk_s, hg, show ¬ br.1 ≤ k from fun q => h5 ((nI_le8 (by omega) (by omega)).mpr q)], fun a b _ h2 => by simp only [rd_u2]; rw [if_neg (by omega), if_neg (by omega)]⟩
      · refine rr_callViD (c_X2_isAtGoal N _ _ hN k (by omega)) km_X2_74 rfl rfl (by omega) rfl (Nat.le_of_ble_eq_true rfl) dX2_seek_17 ?_
        rw [if_neg hg]
        refine rr_if_eq 34 dX2_seek_20 (by decide) (fun h20 => ?_) (fun h20 => absurd rfl h20)
        refine rr_iconst (v := 0) dX2_seek_34 (by decide) ?_
        refine rr_istoren_3 dX2_seek_35 rfl ?_
        refine (loop 3 0 σ br rfl hb h7 h8 (sr_eqf.refl _ _)).post (fun r u q => ?_)
        rw [sr_sk_s, if_neg (show ¬ br.1 ≤ k from fun q => h5 ((nI_le8 (by omega) (by omega)).mpr q)), if_neg hg]
        exact q
end
section
/-! ===== Search: bestFrom, chanceFrom ===== -/
def sr_mx (a b : Int32) : Int32 := if a < b then b else a
def sr_mn (a b : Int32) : Int32 := if b < a then b else a
def sr_be (w : Bool) (a b : Int32) : Int32 := if w = true then sr_mx a b else sr_mn a b
def sr_gp (D : sd_D) : Int32 := sr_mx (sd_abs D.2.2.1) D.2.2.2.1
/-- a REST, or as it was where that can't be -/
def sr_rest (D : sd_D) (kb : Int32) : sd_D := (sd_st D 3 kb).getD D
def sr_bf (kb : Int32) : Nat → Nat → sd_D → Int32
  | 0, _, D => sr_gp D
  | m + 1, k, D =>
    (fun (b1 : Int32) => match sd_st D (if k % 2 = 0 then 0 else 1) kb with | none => b1 | some E => sr_be (k % 2 == 0) b1 (sr_bf kb m (k + 1) E))
      (match sd_st D 2 kb with | none => sr_bf kb m (k + 1) (sr_rest D kb) | some E => sr_be (k % 2 == 0) (sr_bf kb m (k + 1) (sr_rest D kb)) (sr_bf kb m (k + 1) E))
def sr_ch (G : sd_D → Bool) (kb fg x : Int32) : Nat → Nat → sd_D → Int32
  | 0, _, D => if G D = true then 1 else 0
  | m + 1, k, D => x * sr_ch G kb fg x m (k + 1) (sr_rest D kb) + (10 - x) * sr_ch G kb fg x m (k + 1) ((sd_st D (sd_who fg (nI k)) kb).getD (sr_rest D kb))
theorem nI_mod2 {k : Nat} (h : k < 1000) : nI k - nI k / 2 * 2 = nI (k % 2) := pk_rem (d := 2) (by omega) (by omega) (by omega)
theorem c_goOn_r (N d : Nat) (σ : rd_S) (hN : 33 ≤ N) (k : Nat) (hk : k < 7) : ∃ r, rd_T N (d + 3) yX2_goOn cX2_goOn 3 (some .boolean) [.ref 19, .int (nI k), .int 3] σ (rd_is (some (.int r)) (sd_wr σ (21 + (k + 1)) (sr_rest (sd_rd σ (21 + k)) (σ 19 1)))) := by
  rcases h : sd_st (sd_rd σ (21 + k)) 3 (σ 19 1) with _ | E
  · exact ⟨0, by rw [sr_rest, h]; exact c_goOn_n N d σ hN k hk 3 h⟩
  · exact ⟨1, by rw [sr_rest, h]; exact c_goOn_s N d σ hN k hk 3 h⟩
set_option maxHeartbeats 4000000 in
set_option maxRecDepth 100000 in
theorem c_X2_chanceFrom (N d n : Nat) (hN : 33 ≤ N) (hn : n ≤ 7) (fg x : Int32) : ∀ (m k : Nat) (σ : rd_S), k + m = n → rd_T N (d + m + 4) yX2_chanceFrom cX2_chanceFrom 7 (some .int) [.ref 19, .int (nI k), .int (nI n), .int fg, .int x] σ (fun r s => r = some (.int (sr_ch (sr_G σ) (σ 19 1) fg x m k (sd_rd σ (21 + k)))) ∧ sr_eq k s σ) := by
  intro m
  induction m with
  | zero =>
    intro k σ hk
    obtain rfl : k = n := hk
    refine rd_start RX2 [.ref 19, .int (nI k), .int (nI k), .int fg, .int x, .retAddr 0, .retAddr 0] rfl (by decide +kernel) rfl (Nat.le_of_ble_eq_true rfl) ?_
    refine rr_iloadn_1 dX2_chanceFrom_0 ?_
    refine rr_iloadn_2 dX2_chanceFrom_1 ?_
    refine rr_icmp_ge 11 dX2_chanceFrom_2 (by decide) (fun h2 => ?_) (fun h2 => absurd (nI_le (Nat.le_refl k) (by omega)) h2)
    refine rr_aloadn_0 dX2_chanceFrom_11 ?_
    refine rr_iloadn_1 dX2_chanceFrom_12 ?_
    refine rr_callViD (c_X2_isAtGoal N _ _ hN k (by omega)) km_X2_74 rfl rfl (by omega) rfl (Nat.le_of_ble_eq_true rfl) dX2_chanceFrom_13 ?_
    refine rr_if_eq 23 dX2_chanceFrom_16 (by decide) (fun h16 => ?_) (fun h16 => ?_)
    · refine rr_iconst (v := 0) dX2_chanceFrom_23 (by decide) ?_
      exact rr_iret dX2_chanceFrom_24 ⟨by simp_all [sr_ch], sr_eq.refl _ _⟩
    · refine rr_iconst (v := 1) dX2_chanceFrom_19 (by decide) ?_
      refine rr_goto 24 dX2_chanceFrom_20 (by decide) ?_
      exact rr_iret dX2_chanceFrom_24 ⟨by simp_all [sr_ch], sr_eq.refl _ _⟩
  | succ m ih =>
    intro k σ hk
    refine rd_start RX2 [.ref 19, .int (nI k), .int (nI n), .int fg, .int x, .retAddr 0, .retAddr 0] rfl (by decide +kernel) rfl (Nat.le_of_ble_eq_true rfl) ?_
    have fin : ∀ (s : rd_S) (v : Int32) (D : sd_D), sr_eq k s σ → sd_rd s (21 + (k + 1)) = D → rd_W N (d + (m + 1) + 4) RX2 cX2_chanceFrom 7 (some .int) 65 [.ref 19, .int (nI k), .int (nI n), .int fg, .int x, .int v, .retAddr 0] [] s (fun r u => r = some (.int (x * v + (10 - x) * sr_ch (sr_G σ) (σ 19 1) fg x m (k + 1) D)) ∧ sr_eq k u σ) := by
      intro s v D he hD
      refine rr_aloadn_0 dX2_chanceFrom_65 ?_
      refine rr_iloadn_1 dX2_chanceFrom_66 ?_
      refine rr_iconst (v := 1) dX2_chanceFrom_67 (by decide) ?_
      refine rr_iadd dX2_chanceFrom_68 ?_
      rw [nI_s k]
      refine rr_iloadn_2 dX2_chanceFrom_69 ?_
      refine rr_iloadn_3 dX2_chanceFrom_70 ?_
      refine rr_iload_4 dX2_chanceFrom_71 ?_
      refine rr_callSi (ih (k + 1) _ (by omega)) km_X2_102 rfl rfl (Nat.le_of_ble_eq_true rfl) dX2_chanceFrom_73 (fun r73 s73 q73 => ?_)
      obtain ⟨hr, he2⟩ := q73
      cases hr
      rw [he.G, he.kb 1, hD]
      refine rr_istore_6 dX2_chanceFrom_76 rfl ?_
      refine rr_iload_4 dX2_chanceFrom_78 ?_
      refine rr_iload_5 dX2_chanceFrom_80 ?_
      refine rr_imul dX2_chanceFrom_82 ?_
      refine rr_bipush (v := 10) dX2_chanceFrom_83 (by decide) ?_
      refine rr_iload_4 dX2_chanceFrom_85 ?_
      refine rr_isub dX2_chanceFrom_87 ?_
      refine rr_iload_6 dX2_chanceFrom_88 ?_
      refine rr_imul dX2_chanceFrom_90 ?_
      refine rr_iadd dX2_chanceFrom_91 ?_
      exact rr_iret dX2_chanceFrom_92 ⟨rfl, (he2.up (by omega)).trans he⟩
    refine rr_iloadn_1 dX2_chanceFrom_0 ?_
    refine rr_iloadn_2 dX2_chanceFrom_1 ?_
    refine rr_icmp_ge 11 dX2_chanceFrom_2 (by decide) (fun h2 => absurd ((nI_le8 (by omega) (by omega)).mp h2) (by omega)) (fun h2 => ?_)
    refine rr_iloadn_1 dX2_chanceFrom_5 ?_
    refine rr_bipush (v := 7) dX2_chanceFrom_6 (by decide) ?_
    refine rr_icmp_lt 25 dX2_chanceFrom_8 (by decide) (fun h8 => ?_) (fun h8 => absurd ((nI_lt8 (b := 7) (by omega) (by omega)).mpr (by omega)) h8)
    obtain ⟨r0, hr0⟩ := c_goOn_r N (d + (m + 1)) σ hN k (by omega)
    refine rr_aloadn_0 dX2_chanceFrom_25 ?_
    refine rr_iloadn_1 dX2_chanceFrom_26 ?_
    refine rr_iconst (v := 3) dX2_chanceFrom_27 (by decide) ?_
    refine rr_callViD hr0 km_X2_78 rfl rfl (by omega) rfl (Nat.le_of_ble_eq_true rfl) dX2_chanceFrom_28 ?_
    refine rr_pop dX2_chanceFrom_31 rfl ?_
    refine rr_aloadn_0 dX2_chanceFrom_32 ?_
    refine rr_iloadn_1 dX2_chanceFrom_33 ?_
    refine rr_iconst (v := 1) dX2_chanceFrom_34 (by decide) ?_
    refine rr_iadd dX2_chanceFrom_35 ?_
    rw [nI_s k]
    refine rr_iloadn_2 dX2_chanceFrom_36 ?_
    refine rr_iloadn_3 dX2_chanceFrom_37 ?_
    refine rr_iload_4 dX2_chanceFrom_38 ?_
    refine rr_callSi (ih (k + 1) _ (by omega)) km_X2_102 rfl rfl (Nat.le_of_ble_eq_true rfl) dX2_chanceFrom_40 (fun r40 s40 q40 => ?_)
    obtain ⟨hr, he2⟩ := q40
    cases hr
    have he : sr_eq k s40 σ := (he2.up (by omega)).trans (sr_eq.wr _ _ (by omega))
    rw [(sr_eq.wr σ _ (by omega)).G, (sr_eq.wr σ _ (by omega)).kb 1, sd_rd_wr]
    have e1 : sd_rd s40 (21 + k) = sd_rd σ (21 + k) := he.rd (by omega)
    have e2 : s40 19 1 = σ 19 1 := he.kb 1
    refine rr_istore_5 dX2_chanceFrom_43 rfl ?_
    refine rr_aloadn_0 dX2_chanceFrom_45 ?_
    refine rr_iloadn_1 dX2_chanceFrom_46 ?_
    refine rr_iloadn_3 dX2_chanceFrom_47 ?_
    refine rr_iloadn_1 dX2_chanceFrom_48 ?_
    refine rr_callSiD (c_X4_pairAt N _ _ _ _) km_X2_106 rfl rfl (Nat.le_of_ble_eq_true rfl) dX2_chanceFrom_49 ?_
    rcases hst : sd_st (sd_rd σ (21 + k)) (sd_who fg (nI k)) (σ 19 1) with _ | E
    · obtain ⟨r1, hr1⟩ := c_goOn_r N (d + (m + 1)) (sd_wr s40 (21 + (k + 1)) (sd_rd s40 (21 + k))) hN k (by omega)
      refine rr_callViD (c_goOn_n N _ _ hN k (by omega) _ (by rw [e1, e2]; exact hst)) km_X2_78 rfl rfl (by omega) rfl (Nat.le_of_ble_eq_true rfl) dX2_chanceFrom_52 ?_
      refine rr_if_ne 65 dX2_chanceFrom_55 (by decide) (fun h55 => absurd h55 (by decide)) (fun _ => ?_)
      refine rr_aloadn_0 dX2_chanceFrom_58 ?_
      refine rr_iloadn_1 dX2_chanceFrom_59 ?_
      refine rr_iconst (v := 3) dX2_chanceFrom_60 (by decide) ?_
      refine rr_callViD hr1 km_X2_78 rfl rfl (by omega) rfl (Nat.le_of_ble_eq_true rfl) dX2_chanceFrom_61 ?_
      refine rr_pop dX2_chanceFrom_64 rfl ?_
      refine (fin _ _ _ (by rw [sd_wr_wr]; exact (sr_eq.wr _ _ (by omega)).trans he) (sd_rd_wr _ _ _)).post (fun r u q => ⟨?_, q.2⟩)
      rw [q.1, (sr_eq.wr s40 _ (show k < 7 by omega)).kb 1]
      simp [sr_ch, hst, sd_rd_ne, e1, e2]
    · refine rr_callViD (c_goOn_s N _ _ hN k (by omega) _ (D := E) (by rw [e1, e2]; exact hst)) km_X2_78 rfl rfl (by omega) rfl (Nat.le_of_ble_eq_true rfl) dX2_chanceFrom_52 ?_
      refine rr_if_ne 65 dX2_chanceFrom_55 (by decide) (fun _ => ?_) (fun h55 => absurd h55 (by decide))
      refine (fin _ _ _ ((sr_eq.wr _ _ (by omega)).trans he) (sd_rd_wr _ _ _)).post (fun r u q => ⟨?_, q.2⟩)
      rw [q.1]
      simp [sr_ch, hst]
set_option maxHeartbeats 4000000 in
set_option maxRecDepth 100000 in
theorem c_X2_bestFrom (N d n : Nat) (hN : 33 ≤ N) (hn : n ≤ 7) : ∀ (m k : Nat) (σ : rd_S), k + m = n → rd_T N (d + m + 4) yX2_bestFrom cX2_bestFrom 5 (some .int) [.ref 19, .int (nI k), .int (nI n)] σ (fun r s => r = some (.int (sr_bf (σ 19 1) m k (sd_rd σ (21 + k)))) ∧ sr_eq k s σ) := by
  intro m
  induction m with
  | zero =>
    intro k σ hk
    obtain rfl : k = n := hk
    refine rd_start RX2 [.ref 19, .int (nI k), .int (nI k), .retAddr 0, .retAddr 0] rfl (by decide +kernel) rfl (Nat.le_of_ble_eq_true rfl) ?_
    refine rr_iloadn_1 dX2_bestFrom_0 ?_
    refine rr_iloadn_2 dX2_bestFrom_1 ?_
    refine rr_icmp_ge 11 dX2_bestFrom_2 (by decide) (fun h2 => ?_) (fun h2 => absurd (nI_le (Nat.le_refl k) (by omega)) h2)
    refine rr_aloadn_0 dX2_bestFrom_11 ?_
    refine rr_iloadn_1 dX2_bestFrom_12 ?_
    refine rr_callViD (c_X2_greaterPart N _ _ hN k (by omega)) km_X2_89 rfl rfl (by omega) rfl (Nat.le_of_ble_eq_true rfl) dX2_bestFrom_13 ?_
    exact rr_iret dX2_bestFrom_16 ⟨rfl, sr_eq.refl _ _⟩
  | succ m ih =>
    intro k σ hk
    refine rd_start RX2 [.ref 19, .int (nI k), .int (nI n), .retAddr 0, .retAddr 0] rfl (by decide +kernel) rfl (Nat.le_of_ble_eq_true rfl) ?_
    obtain ⟨w, hw⟩ : ∃ w : Int32, w = if nI k - nI k / 2 * 2 = 0 then 1 else 0 := ⟨_, rfl⟩
    have hw0 : w = if k % 2 = 0 then 1 else 0 := by
      rw [hw, nI_mod2 (by omega)]
      rcases Nat.mod_two_eq_zero_or_one k with h | h <;> simp [h] <;> decide
    have hbe : ∀ a b : Int32, (if w = 0 then (if b < a then b else a) else (if a < b then b else a)) = sr_be (k % 2 == 0) a b := by
      intro a b
      rw [hw0]
      rcases Nat.mod_two_eq_zero_or_one k with h | h <;> simp [h, sr_be, sr_mx, sr_mn]
    have hf : (if w = 0 then (1 : Int32) else 0) = if k % 2 = 0 then 0 else 1 := by
      rw [hw0]
      rcases Nat.mod_two_eq_zero_or_one k with h | h <;> simp [h]
    have last : ∀ (s : rd_S) (v : Int32), sr_eq k s σ → rd_W N (d + (m + 1) + 4) RX2 cX2_bestFrom 5 (some .int) 71 [.ref 19, .int (nI k), .int (nI n), .int w, .int v] [] s (fun r u => r = some (.int (match sd_st (sd_rd σ (21 + k)) (if k % 2 = 0 then 0 else 1) (σ 19 1) with | none => v | some E => sr_be (k % 2 == 0) v (sr_bf (σ 19 1) m (k + 1) E))) ∧ sr_eq k u σ) := by
      intro s v he
      have e1 : sd_rd s (21 + k) = sd_rd σ (21 + k) := he.rd (by omega)
      have e2 : s 19 1 = σ 19 1 := he.kb 1
      refine rr_aloadn_0 dX2_bestFrom_71 ?_
      refine rr_iloadn_1 dX2_bestFrom_72 ?_
      refine rr_iloadn_3 dX2_bestFrom_73 ?_
      refine rr_if_eqJ 81 82 (1) (0) dX2_bestFrom_74 (by decide) (fun h74 k74 => ?_) (fun h74 k74 => ?_) ?_
      · refine rr_iconst (v := 1) dX2_bestFrom_81 (by decide) ?_
        exact k74
      · refine rr_iconst (v := 0) dX2_bestFrom_77 (by decide) ?_
        refine rr_goto 82 dX2_bestFrom_78 (by decide) ?_
        exact k74
      rw [hf]
      rcases hst : sd_st (sd_rd σ (21 + k)) (if k % 2 = 0 then 0 else 1) (σ 19 1) with _ | E
      · refine rr_callViD (c_goOn_n N _ _ hN k (by omega) _ (by rw [e1, e2]; exact hst)) km_X2_78 rfl rfl (by omega) rfl (Nat.le_of_ble_eq_true rfl) dX2_bestFrom_82 ?_
        refine rr_if_eq 104 dX2_bestFrom_85 (by decide) (fun _ => ?_) (fun h85 => absurd h85 (by decide))
        refine rr_iload_4 dX2_bestFrom_104 ?_
        exact rr_iret dX2_bestFrom_106 ⟨rfl, (sr_eq.wr _ _ (by omega)).trans he⟩
      · refine rr_callViD (c_goOn_s N _ _ hN k (by omega) _ (D := E) (by rw [e1, e2]; exact hst)) km_X2_78 rfl rfl (by omega) rfl (Nat.le_of_ble_eq_true rfl) dX2_bestFrom_82 ?_
        refine rr_if_eq 104 dX2_bestFrom_85 (by decide) (fun h85 => absurd h85 (by decide)) (fun _ => ?_)
        refine rr_iloadn_3 dX2_bestFrom_88 ?_
        refine rr_iload_4 dX2_bestFrom_89 ?_
        refine rr_aloadn_0 dX2_bestFrom_91 ?_
        refine rr_iloadn_1 dX2_bestFrom_92 ?_
        refine rr_iconst (v := 1) dX2_bestFrom_93 (by decide) ?_
        refine rr_iadd dX2_bestFrom_94 ?_
        rw [nI_s k]
        refine rr_iloadn_2 dX2_bestFrom_95 ?_
        refine rr_callSi (ih (k + 1) _ (by omega)) km_X2_92 rfl rfl (Nat.le_of_ble_eq_true rfl) dX2_bestFrom_96 (fun r96 s96 q96 => ?_)
        obtain ⟨hr, he2⟩ := q96
        cases hr
        refine rr_callSiD (c_X2_better N _ _ _ _ _) km_X2_95 rfl rfl (Nat.le_of_ble_eq_true rfl) dX2_bestFrom_99 ?_
        rw [hbe, (sr_eq.wr s _ (by omega)).kb 1, sd_rd_wr, e2]
        refine rr_istore_4 dX2_bestFrom_102 rfl ?_
        refine rr_iload_4 dX2_bestFrom_104 ?_
        exact rr_iret dX2_bestFrom_106 ⟨rfl, ((he2.up (by omega)).trans (sr_eq.wr _ _ (by omega))).trans he⟩
    refine rr_iloadn_1 dX2_bestFrom_0 ?_
    refine rr_iloadn_2 dX2_bestFrom_1 ?_
    refine rr_icmp_ge 11 dX2_bestFrom_2 (by decide) (fun h2 => absurd ((nI_le8 (by omega) (by omega)).mp h2) (by omega)) (fun h2 => ?_)
    refine rr_iloadn_1 dX2_bestFrom_5 ?_
    refine rr_bipush (v := 7) dX2_bestFrom_6 (by decide) ?_
    refine rr_icmp_lt 17 dX2_bestFrom_8 (by decide) (fun h8 => ?_) (fun h8 => absurd ((nI_lt8 (b := 7) (by omega) (by omega)).mpr (by omega)) h8)
    refine rr_iloadn_1 dX2_bestFrom_17 ?_
    refine rr_iconst (v := 2) dX2_bestFrom_18 (by decide) ?_
    refine rr_irem dX2_bestFrom_19 (by decide) ?_
    refine rr_if_neJ 27 28 (0) (1) dX2_bestFrom_20 (by decide) (fun h20 k20 => ?_) (fun h20 k20 => ?_) ?_
    · refine rr_iconst (v := 0) dX2_bestFrom_27 (by decide) ?_
      exact k20
    · refine rr_iconst (v := 1) dX2_bestFrom_23 (by decide) ?_
      refine rr_goto 28 dX2_bestFrom_24 (by decide) ?_
      exact k20
    rw [← hw]
    refine rr_istoren_3 dX2_bestFrom_28 rfl ?_
    obtain ⟨r0, hr0⟩ := c_goOn_r N (d + (m + 1)) σ hN k (by omega)
    refine rr_aloadn_0 dX2_bestFrom_29 ?_
    refine rr_iloadn_1 dX2_bestFrom_30 ?_
    refine rr_iconst (v := 3) dX2_bestFrom_31 (by decide) ?_
    refine rr_callViD hr0 km_X2_78 rfl rfl (by omega) rfl (Nat.le_of_ble_eq_true rfl) dX2_bestFrom_32 ?_
    refine rr_pop dX2_bestFrom_35 rfl ?_
    refine rr_aloadn_0 dX2_bestFrom_36 ?_
    refine rr_iloadn_1 dX2_bestFrom_37 ?_
    refine rr_iconst (v := 1) dX2_bestFrom_38 (by decide) ?_
    refine rr_iadd dX2_bestFrom_39 ?_
    rw [nI_s k]
    refine rr_iloadn_2 dX2_bestFrom_40 ?_
    refine rr_callSi (ih (k + 1) _ (by omega)) km_X2_92 rfl rfl (Nat.le_of_ble_eq_true rfl) dX2_bestFrom_41 (fun r41 s41 q41 => ?_)
    obtain ⟨hr, he2⟩ := q41
    cases hr
    have he : sr_eq k s41 σ := (he2.up (by omega)).trans (sr_eq.wr _ _ (by omega))
    rw [(sr_eq.wr σ _ (by omega)).kb 1, sd_rd_wr]
    have e1 : sd_rd s41 (21 + k) = sd_rd σ (21 + k) := he.rd (by omega)
    have e2 : s41 19 1 = σ 19 1 := he.kb 1
    refine rr_istore_4 dX2_bestFrom_44 rfl ?_
    refine rr_aloadn_0 dX2_bestFrom_46 ?_
    refine rr_iloadn_1 dX2_bestFrom_47 ?_
    refine rr_iconst (v := 2) dX2_bestFrom_48 (by decide) ?_
    rcases hst : sd_st (sd_rd σ (21 + k)) 2 (σ 19 1) with _ | E
    · refine rr_callViD (c_goOn_n N _ _ hN k (by omega) _ (by rw [e1, e2]; exact hst)) km_X2_78 rfl rfl (by omega) rfl (Nat.le_of_ble_eq_true rfl) dX2_bestFrom_49 ?_
      refine rr_if_eq 71 dX2_bestFrom_52 (by decide) (fun _ => ?_) (fun h52 => absurd h52 (by decide))
      refine (last _ _ ((sr_eq.wr _ _ (by omega)).trans he)).post (fun r u q => ⟨?_, q.2⟩)
      rw [q.1]
      simp [sr_bf, hst]
    · refine rr_callViD (c_goOn_s N _ _ hN k (by omega) _ (D := E) (by rw [e1, e2]; exact hst)) km_X2_78 rfl rfl (by omega) rfl (Nat.le_of_ble_eq_true rfl) dX2_bestFrom_49 ?_
      refine rr_if_eq 71 dX2_bestFrom_52 (by decide) (fun h52 => absurd h52 (by decide)) (fun _ => ?_)
      refine rr_iloadn_3 dX2_bestFrom_55 ?_
      refine rr_iload_4 dX2_bestFrom_56 ?_
      refine rr_aloadn_0 dX2_bestFrom_58 ?_
      refine rr_iloadn_1 dX2_bestFrom_59 ?_
      refine rr_iconst (v := 1) dX2_bestFrom_60 (by decide) ?_
      refine rr_iadd dX2_bestFrom_61 ?_
      rw [nI_s k]
      refine rr_iloadn_2 dX2_bestFrom_62 ?_
      refine rr_callSi (ih (k + 1) _ (by omega)) km_X2_92 rfl rfl (Nat.le_of_ble_eq_true rfl) dX2_bestFrom_63 (fun r63 s63 q63 => ?_)
      obtain ⟨hr, he3⟩ := q63
      cases hr
      refine rr_callSiD (c_X2_better N _ _ _ _ _) km_X2_95 rfl rfl (Nat.le_of_ble_eq_true rfl) dX2_bestFrom_66 ?_
      rw [hbe, (sr_eq.wr s41 _ (by omega)).kb 1, sd_rd_wr, e2]
      refine rr_istore_4 dX2_bestFrom_69 rfl ?_
      refine (last _ _ (((he3.up (by omega)).trans (sr_eq.wr _ _ (by omega))).trans he)).post (fun r u q => ⟨?_, q.2⟩)
      rw [q.1]
      simp [sr_bf, hst]
end
section
/-! ===== the text: letters t, n of them; its items ===== -/
abbrev ps_X : Type := Nat × Int32 × Int32 × Int32
def ps_l (t : Nat → Int32) (n k : Nat) : Int32 := if k < n then t k else 0
def ps_num (c m : Int32) : Bool := decide (48 ≤ c ∧ c ≤ 48 + m)
def ps_len (t : Nat → Int32) (n a : Nat) : Option Nat :=
  if ps_l t n a = 100 then (if ps_num (ps_l t n (a + 1)) 3 = true ∧ ps_l t n (a + 2) = 44 ∧ ps_num (ps_l t n (a + 3)) 5 = true ∧ ps_l t n (a + 4) = 59 then some 5 else none)
  else if ps_l t n a = 112 then (if ps_num (ps_l t n (a + 1)) 3 = true ∧ ps_l t n (a + 2) = 44 ∧ ps_num (ps_l t n (a + 3)) 3 = true ∧ ps_l t n (a + 4) = 59 then some 5 else none)
  else if ps_l t n a = 114 then (if ps_num (ps_l t n (a + 1)) 3 = true ∧ ps_l t n (a + 2) = 59 then some 3 else none)
  else none
def ps_setp (pb i v : Int32) : Int32 := (pb &&& ((3 <<< ((2 * i) &&& 31)) ^^^ (-1))) ||| (v <<< ((2 * i) &&& 31))
def ps_up (t : Nat → Int32) (n a : Nat) (X : ps_X) : ps_X :=
  if ps_l t n a = 100 then (X.1, sd_withKind X.2.1 (ps_l t n (a + 1) - 48) (ps_l t n (a + 3) - 48), X.2.2.1, X.2.2.2)
  else if ps_l t n a = 112 then (X.1, X.2.1, X.2.2.1, ps_setp X.2.2.2 (ps_l t n (a + 1) - 48) (ps_l t n (a + 3) - 48))
  else (X.1 + 1, X.2.1, X.2.2.1 ||| ((ps_l t n (a + 1) - 48) <<< ((2 * nI X.1) &&& 31)), X.2.2.2)
/-- the items from a on: the place of the first fault, or what is told -/
def ps_run (t : Nat → Int32) (n : Nat) : Nat → Nat → ps_X → Nat ⊕ ps_X
  | 0, _, X => .inr X
  | f + 1, a, X => if n ≤ a then .inr X else match ps_len t n a with
    | none => .inl a
    | some l => if ps_l t n a = 114 ∧ X.1 = 12 then .inl a else ps_run t n f (a + l) (ps_up t n a X)
def ps_0 : ps_X := (0, 0, 0, 228)
theorem ps_len_c {t : Nat → Int32} {n a l : Nat} (h : ps_len t n a = some l) : 3 ≤ l ∧ l ≤ 5 ∧ a + l ≤ n := by
  have key : ∀ k, ps_l t n k = 59 → k < n := by
    intro k hk
    unfold ps_l at hk
    split at hk
    · assumption
    · exact absurd hk (by decide)
  unfold ps_len at h
  split at h
  · split at h
    · rename_i h1; cases h; have := key _ h1.2.2.2; omega
    · cases h
  · split at h
    · split at h
      · rename_i h1; cases h; have := key _ h1.2.2.2; omega
      · cases h
    · split at h
      · split at h
        · rename_i h1; cases h; have := key _ h1.2; omega
        · cases h
      · cases h
theorem rd_neI {x k : Int32} {z : Int} (h : ¬ x = k) (hz : k.toInt = z) : ¬ (z = x.toInt) := fun e => h (Int32.toInt_inj.mp (by rw [← e, hz]))
/-- the text stands at 1 and 2, n letters long -/
def ps_at (σ : rd_S) (n : Nat) : Prop := σ 1 1 = nI n ∧ n ≤ 200
theorem nI_le1k {a b : Nat} (ha : a < 100000) (hb : b < 100000) : nI a ≤ nI b ↔ a ≤ b := nI_leI (by omega) (by omega)
theorem nI_lt1k {a b : Nat} (ha : a < 100000) (hb : b < 100000) : nI a < nI b ↔ a < b := nI_ltI (by omega) (by omega)
set_option maxHeartbeats 4000000 in
set_option maxRecDepth 100000 in
theorem c_X1_clear (N d : Nat) (σ : rd_S) (hN : 33 ≤ N) : rd_T N (d + 0) yX1_clear cX1_clear 1 none [.ref 1] σ (rd_is none (rd_u2 σ 1 1 0)) := by
  refine rd_start RX1 [.ref 1] rfl (by decide +kernel) rfl (Nat.le_of_ble_eq_true rfl) ?_
  refine rr_aloadn_0 dX1_clear_0 ?_
  refine rr_iconst (v := 0) dX1_clear_1 (by decide) ?_
  refine rr_puti dX1_clear_2 kf_X1_15 if_1_1 (by omega) rfl rfl ?_
  exact rr_vret dX1_clear_5 ⟨rfl, rfl⟩
set_option maxHeartbeats 4000000 in
set_option maxRecDepth 100000 in
theorem c_add_s (N d : Nat) (σ : rd_S) (hN : 33 ≤ N) (n : Nat) (hn : ps_at σ n) (h2 : n < 200) (x : Int32) : rd_T N (d + 0) yX1_add cX1_add 2 (some .boolean) [.ref 1, .int x] σ (rd_is (some (.int 1)) (rd_u2 (rd_u2 σ 2 n (vp_nar .byte x.toInt8.toInt32)) 1 1 (nI (n + 1)))) := by
  refine rd_start RX1 [.ref 1, .int x] rfl (by decide +kernel) rfl (Nat.le_of_ble_eq_true rfl) ?_
  obtain ⟨h1, hn2⟩ := hn
  refine rr_aloadn_0 dX1_add_0 ?_
  refine rr_geti dX1_add_1 kf_X1_15 (by omega) rfl rfl ?_
  rw [h1]
  refine rr_if_lt 19 dX1_add_4 (by decide) (fun h4 => absurd h4 (nI_pos (by omega))) (fun h4 => ?_)
  refine rr_aloadn_0 dX1_add_7 ?_
  refine rr_geti dX1_add_8 kf_X1_15 (by omega) rfl rfl ?_
  rw [h1]
  refine rr_aloadn_0 dX1_add_11 ?_
  refine rr_getr 2 dX1_add_12 kf_X1_9 (by omega) rfl rfl rfl ?_
  refine rr_alen (v := nI 200) dX1_add_15 (by omega) (by decide) rfl ?_
  refine rr_icmp_lt 21 dX1_add_16 (by decide) (fun h16 => ?_) (fun h16 => absurd ((nI_lt8 (b := 200) (by omega) (by omega)).mpr h2) h16)
  refine rr_aloadn_0 dX1_add_21 ?_
  refine rr_getr 2 dX1_add_22 kf_X1_9 (by omega) rfl rfl rfl ?_
  refine rr_aloadn_0 dX1_add_25 ?_
  refine rr_geti dX1_add_26 kf_X1_15 (by omega) rfl rfl ?_
  rw [h1]
  refine rr_iloadn_1 dX1_add_29 ?_
  refine rr_i2b dX1_add_30 ?_
  refine rr_bast (n) dX1_add_31 (by omega) rfl rfl h2 ?_
  refine rr_aloadn_0 dX1_add_32 ?_
  refine rr_dup dX1_add_33 rfl ?_
  refine rr_geti dX1_add_34 kf_X1_15 (by omega) rfl rfl ?_
  rw [show ∀ v, rd_u2 σ 2 n v 1 1 = nI n from fun v => by simp [rd_u2, h1]]
  refine rr_iconst (v := 1) dX1_add_37 (by decide) ?_
  refine rr_iadd dX1_add_38 ?_
  rw [nI_s n]
  refine rr_puti dX1_add_39 kf_X1_15 if_1_1 (by omega) rfl rfl ?_
  refine rr_iconst (v := 1) dX1_add_42 (by decide) ?_
  exact rr_zret dX1_add_43 (by decide) ⟨rfl, rfl⟩
set_option maxHeartbeats 4000000 in
set_option maxRecDepth 100000 in
theorem c_add_n (N d : Nat) (σ : rd_S) (hN : 33 ≤ N) (h1 : σ 1 1 = nI 200) (x : Int32) : rd_T N (d + 0) yX1_add cX1_add 2 (some .boolean) [.ref 1, .int x] σ (rd_is (some (.int 0)) σ) := by
  refine rd_start RX1 [.ref 1, .int x] rfl (by decide +kernel) rfl (Nat.le_of_ble_eq_true rfl) ?_
  refine rr_aloadn_0 dX1_add_0 ?_
  refine rr_geti dX1_add_1 kf_X1_15 (by omega) rfl rfl ?_
  rw [h1]
  refine rr_if_lt 19 dX1_add_4 (by decide) (fun h4 => absurd h4 (by decide)) (fun h4 => ?_)
  refine rr_aloadn_0 dX1_add_7 ?_
  refine rr_geti dX1_add_8 kf_X1_15 (by omega) rfl rfl ?_
  rw [h1]
  refine rr_aloadn_0 dX1_add_11 ?_
  refine rr_getr 2 dX1_add_12 kf_X1_9 (by omega) rfl rfl rfl ?_
  refine rr_alen (v := nI 200) dX1_add_15 (by omega) (by decide) rfl ?_
  refine rr_icmp_lt 21 dX1_add_16 (by decide) (fun h16 => absurd h16 (by decide)) (fun h16 => ?_)
  refine rr_iconst (v := 0) dX1_add_19 (by decide) ?_
  exact rr_zret dX1_add_20 (by decide) ⟨rfl, rfl⟩
set_option maxHeartbeats 4000000 in
set_option maxRecDepth 100000 in
theorem c_X1_letterAt (N d : Nat) (σ : rd_S) (hN : 33 ≤ N) (n : Nat) (hn : ps_at σ n) (k : Nat) (hk : k < 1000) : rd_T N (d + 0) yX1_letterAt cX1_letterAt 2 (some .int) [.ref 1, .int (nI k)] σ (rd_is (some (.int (ps_l (σ 2) n k))) σ) := by
  refine rd_start RX1 [.ref 1, .int (nI k)] rfl (by decide +kernel) rfl (Nat.le_of_ble_eq_true rfl) ?_
  obtain ⟨h0, hn2⟩ := hn
  refine rr_iloadn_1 dX1_letterAt_0 ?_
  refine rr_if_lt 30 dX1_letterAt_1 (by decide) (fun h1 => absurd h1 (nI_pos (by omega))) (fun h1 => ?_)
  refine rr_iloadn_1 dX1_letterAt_4 ?_
  refine rr_aloadn_0 dX1_letterAt_5 ?_
  refine rr_geti dX1_letterAt_6 kf_X1_15 (by omega) rfl rfl ?_
  rw [h0]
  refine rr_icmp_ge 30 dX1_letterAt_9 (by decide) (fun h9 => ?_) (fun h9 => ?_)
  · refine rr_iconst (v := 0) dX1_letterAt_30 (by decide) ?_
    exact rr_iret dX1_letterAt_31 ⟨by first | (rw [ps_l, if_neg (Nat.not_lt.mpr ((nI_le8 (by omega) (by omega)).mp h9))]; done) | rw [ps_l, if_pos hkn], rfl⟩
  · have hkn : k < n := Nat.lt_of_not_le (fun q => h9 ((nI_le8 (a := n) (b := k) (by omega) (by omega)).mpr q))
    refine rr_iloadn_1 dX1_letterAt_12 ?_
    refine rr_aloadn_0 dX1_letterAt_13 ?_
    refine rr_getr 2 dX1_letterAt_14 kf_X1_9 (by omega) rfl rfl rfl ?_
    refine rr_alen (v := nI 200) dX1_letterAt_17 (by omega) (by decide) rfl ?_
    refine rr_icmp_ge 30 dX1_letterAt_18 (by decide) (fun h18 => absurd ((nI_le8 (a := 200) (b := k) (by omega) (by omega)).mp h18) (by omega)) (fun h18 => ?_)
    refine rr_aloadn_0 dX1_letterAt_21 ?_
    refine rr_getr 2 dX1_letterAt_22 kf_X1_9 (by omega) rfl rfl rfl ?_
    refine rr_iloadn_1 dX1_letterAt_25 ?_
    refine rr_bald (k) dX1_letterAt_26 (by omega) rfl rfl (show k < 200 by omega) ?_
    refine rr_goto 31 dX1_letterAt_27 (by decide) ?_
    exact rr_iret dX1_letterAt_31 ⟨by first | (rw [ps_l, if_neg (Nat.not_lt.mpr ((nI_le8 (by omega) (by omega)).mp h9))]; done) | rw [ps_l, if_pos hkn], rfl⟩
set_option maxHeartbeats 4000000 in
set_option maxRecDepth 100000 in
theorem c_X1_isNumber (N d : Nat) (σ : rd_S) (hN : 33 ≤ N) (n : Nat) (hn : ps_at σ n) (k : Nat) (hk : k < 1000) (m : Int32) : rd_T N (d + 1) yX1_isNumber cX1_isNumber 4 (some .boolean) [.ref 1, .int (nI k), .int m] σ (rd_is (some (.int (if ps_num (ps_l (σ 2) n k) m = true then 1 else 0))) σ) := by
  refine rd_start RX1 [.ref 1, .int (nI k), .int m, .retAddr 0] rfl (by decide +kernel) rfl (Nat.le_of_ble_eq_true rfl) ?_
  refine rr_aloadn_0 dX1_isNumber_0 ?_
  refine rr_iloadn_1 dX1_isNumber_1 ?_
  refine rr_callViD (c_X1_letterAt N _ _ hN n hn (k) (by omega)) km_X1_23 rfl rfl (by omega) rfl (Nat.le_of_ble_eq_true rfl) dX1_isNumber_2 ?_
  refine rr_istoren_3 dX1_isNumber_5 rfl ?_
  refine rr_iloadn_3 dX1_isNumber_6 ?_
  refine rr_bipush (v := 48) dX1_isNumber_7 (by decide) ?_
  refine rr_icmp_lt 24 dX1_isNumber_9 (by decide) (fun h9 => ?_) (fun h9 => ?_)
  · refine rr_iconst (v := 0) dX1_isNumber_24 (by decide) ?_
    exact rr_zret dX1_isNumber_25 (by decide) ⟨by first | (simp [ps_num, Int32.not_le.mpr h9]; done) | (simp [ps_num, Int32.not_le.mpr h17]; done) | (simp [ps_num, Int32.not_lt.mp h9, Int32.not_lt.mp h17]; done), rfl⟩
  · refine rr_iloadn_3 dX1_isNumber_12 ?_
    refine rr_bipush (v := 48) dX1_isNumber_13 (by decide) ?_
    refine rr_iloadn_2 dX1_isNumber_15 ?_
    refine rr_iadd dX1_isNumber_16 ?_
    refine rr_icmp_gt 24 dX1_isNumber_17 (by decide) (fun h17 => ?_) (fun h17 => ?_)
    · refine rr_iconst (v := 0) dX1_isNumber_24 (by decide) ?_
      exact rr_zret dX1_isNumber_25 (by decide) ⟨by first | (simp [ps_num, Int32.not_le.mpr h9]; done) | (simp [ps_num, Int32.not_le.mpr h17]; done) | (simp [ps_num, Int32.not_lt.mp h9, Int32.not_lt.mp h17]; done), rfl⟩
    · refine rr_iconst (v := 1) dX1_isNumber_20 (by decide) ?_
      refine rr_goto 25 dX1_isNumber_21 (by decide) ?_
      exact rr_zret dX1_isNumber_25 (by decide) ⟨by first | (simp [ps_num, Int32.not_le.mpr h9]; done) | (simp [ps_num, Int32.not_le.mpr h17]; done) | (simp [ps_num, Int32.not_lt.mp h9, Int32.not_lt.mp h17]; done), rfl⟩
theorem nI_a (k j : Nat) : nI k + nI j = nI (k + j) := nI_add k j
set_option maxHeartbeats 4000000 in
set_option maxRecDepth 100000 in
theorem c_X1_endOfPair (N d : Nat) (σ : rd_S) (hN : 33 ≤ N) (n : Nat) (hn : ps_at σ n) (a : Nat) (ha : a < 900) (m : Int32) : rd_T N (d + 2) yX1_endOfPair cX1_endOfPair 4 (some .int) [.ref 1, .int (nI a), .int m] σ (rd_is (some (.int (if ps_num (ps_l (σ 2) n (a + 1)) 3 = true ∧ ps_l (σ 2) n (a + 2) = 44 ∧ ps_num (ps_l (σ 2) n (a + 3)) m = true ∧ ps_l (σ 2) n (a + 4) = 59 then nI (a + 5) else -1))) σ) := by
  refine rd_start RX1 [.ref 1, .int (nI a), .int m, .retAddr 0] rfl (by decide +kernel) rfl (Nat.le_of_ble_eq_true rfl) ?_
  refine rr_aloadn_0 dX1_endOfPair_0 ?_
  refine rr_iloadn_1 dX1_endOfPair_1 ?_
  refine rr_iconst (v := 1) dX1_endOfPair_2 (by decide) ?_
  refine rr_iadd dX1_endOfPair_3 ?_
  rw [show nI a + 1 = nI (a + 1) from nI_add a 1]
  refine rr_iconst (v := 3) dX1_endOfPair_4 (by decide) ?_
  refine rr_callViD (c_X1_isNumber N _ _ hN n hn (a + 1) (by omega) 3) km_X1_71 rfl rfl (by omega) rfl (Nat.le_of_ble_eq_true rfl) dX1_endOfPair_5 ?_
  refine rr_if_eq 50 dX1_endOfPair_8 (by decide) (fun h8 => ?_) (fun h8 => ?_)
  · refine rr_iconst (v := 0) dX1_endOfPair_50 (by decide) ?_
    refine rr_istoren_3 dX1_endOfPair_51 rfl ?_
    refine rr_iloadn_3 dX1_endOfPair_52 ?_
    refine rr_if_eq 62 dX1_endOfPair_53 (by decide) (fun _ => ?_) (fun h53 => absurd h53 (by decide))
    refine rr_iconst (v := (-1)) dX1_endOfPair_62 (by decide) ?_
    exact rr_iret dX1_endOfPair_63 ⟨by simp_all, rfl⟩
  · refine rr_aloadn_0 dX1_endOfPair_11 ?_
    refine rr_iloadn_1 dX1_endOfPair_12 ?_
    refine rr_iconst (v := 2) dX1_endOfPair_13 (by decide) ?_
    refine rr_iadd dX1_endOfPair_14 ?_
    rw [show nI a + 2 = nI (a + 2) from nI_add a 2]
    refine rr_callViD (c_X1_letterAt N _ _ hN n hn (a + 2) (by omega)) km_X1_23 rfl rfl (by omega) rfl (Nat.le_of_ble_eq_true rfl) dX1_endOfPair_15 ?_
    refine rr_bipush (v := 44) dX1_endOfPair_18 (by decide) ?_
    refine rr_icmp_ne 50 dX1_endOfPair_20 (by decide) (fun h20 => ?_) (fun h20 => ?_)
    · refine rr_iconst (v := 0) dX1_endOfPair_50 (by decide) ?_
      refine rr_istoren_3 dX1_endOfPair_51 rfl ?_
      refine rr_iloadn_3 dX1_endOfPair_52 ?_
      refine rr_if_eq 62 dX1_endOfPair_53 (by decide) (fun _ => ?_) (fun h53 => absurd h53 (by decide))
      refine rr_iconst (v := (-1)) dX1_endOfPair_62 (by decide) ?_
      exact rr_iret dX1_endOfPair_63 ⟨by simp_all, rfl⟩
    · refine rr_aloadn_0 dX1_endOfPair_23 ?_
      refine rr_iloadn_1 dX1_endOfPair_24 ?_
      refine rr_iconst (v := 3) dX1_endOfPair_25 (by decide) ?_
      refine rr_iadd dX1_endOfPair_26 ?_
      rw [show nI a + 3 = nI (a + 3) from nI_add a 3]
      refine rr_iloadn_2 dX1_endOfPair_27 ?_
      refine rr_callViD (c_X1_isNumber N _ _ hN n hn (a + 3) (by omega) m) km_X1_71 rfl rfl (by omega) rfl (Nat.le_of_ble_eq_true rfl) dX1_endOfPair_28 ?_
      refine rr_if_eq 50 dX1_endOfPair_31 (by decide) (fun h31 => ?_) (fun h31 => ?_)
      · refine rr_iconst (v := 0) dX1_endOfPair_50 (by decide) ?_
        refine rr_istoren_3 dX1_endOfPair_51 rfl ?_
        refine rr_iloadn_3 dX1_endOfPair_52 ?_
        refine rr_if_eq 62 dX1_endOfPair_53 (by decide) (fun _ => ?_) (fun h53 => absurd h53 (by decide))
        refine rr_iconst (v := (-1)) dX1_endOfPair_62 (by decide) ?_
        exact rr_iret dX1_endOfPair_63 ⟨by simp_all, rfl⟩
      · refine rr_aloadn_0 dX1_endOfPair_34 ?_
        refine rr_iloadn_1 dX1_endOfPair_35 ?_
        refine rr_iconst (v := 4) dX1_endOfPair_36 (by decide) ?_
        refine rr_iadd dX1_endOfPair_37 ?_
        rw [show nI a + 4 = nI (a + 4) from nI_add a 4]
        refine rr_callViD (c_X1_letterAt N _ _ hN n hn (a + 4) (by omega)) km_X1_23 rfl rfl (by omega) rfl (Nat.le_of_ble_eq_true rfl) dX1_endOfPair_38 ?_
        refine rr_bipush (v := 59) dX1_endOfPair_41 (by decide) ?_
        refine rr_icmp_ne 50 dX1_endOfPair_43 (by decide) (fun h43 => ?_) (fun h43 => ?_)
        · refine rr_iconst (v := 0) dX1_endOfPair_50 (by decide) ?_
          refine rr_istoren_3 dX1_endOfPair_51 rfl ?_
          refine rr_iloadn_3 dX1_endOfPair_52 ?_
          refine rr_if_eq 62 dX1_endOfPair_53 (by decide) (fun _ => ?_) (fun h53 => absurd h53 (by decide))
          refine rr_iconst (v := (-1)) dX1_endOfPair_62 (by decide) ?_
          exact rr_iret dX1_endOfPair_63 ⟨by simp_all, rfl⟩
        · refine rr_iconst (v := 1) dX1_endOfPair_46 (by decide) ?_
          refine rr_goto 51 dX1_endOfPair_47 (by decide) ?_
          refine rr_istoren_3 dX1_endOfPair_51 rfl ?_
          refine rr_iloadn_3 dX1_endOfPair_52 ?_
          refine rr_if_eq 62 dX1_endOfPair_53 (by decide) (fun h53 => absurd h53 (by decide)) (fun _ => ?_)
          refine rr_iloadn_1 dX1_endOfPair_56 ?_
          refine rr_iconst (v := 5) dX1_endOfPair_57 (by decide) ?_
          refine rr_iadd dX1_endOfPair_58 ?_
          rw [show nI a + 5 = nI (a + 5) from nI_add a 5]
          refine rr_goto 63 dX1_endOfPair_59 (by decide) ?_
          exact rr_iret dX1_endOfPair_63 ⟨by simp_all, rfl⟩
set_option maxHeartbeats 4000000 in
set_option maxRecDepth 100000 in
theorem c_X1_endOfItem (N d : Nat) (σ : rd_S) (hN : 33 ≤ N) (n : Nat) (hn : ps_at σ n) (a : Nat) (ha : a < 900) : rd_T N (d + 3) yX1_endOfItem cX1_endOfItem 2 (some .int) [.ref 1, .int (nI a)] σ (rd_is (some (.int (match ps_len (σ 2) n a with | none => -1 | some l => nI (a + l)))) σ) := by
  refine rd_start RX1 [.ref 1, .int (nI a)] rfl (by decide +kernel) rfl (Nat.le_of_ble_eq_true rfl) ?_
  refine rr_aloadn_0 dX1_endOfItem_0 ?_
  refine rr_iloadn_1 dX1_endOfItem_1 ?_
  refine rr_callViD (c_X1_letterAt N _ _ hN n hn (a) (by omega)) km_X1_23 rfl rfl (by omega) rfl (Nat.le_of_ble_eq_true rfl) dX1_endOfItem_2 ?_
  by_cases hs5_0 : ps_l (σ 2) n a = 100
  · rw [hs5_0]
    refine rr_lookup 40 dX1_endOfItem_5 (by decide) rfl (by decide) ?_
    refine rr_aloadn_0 dX1_endOfItem_40 ?_
    refine rr_iloadn_1 dX1_endOfItem_41 ?_
    refine rr_iconst (v := 5) dX1_endOfItem_42 (by decide) ?_
    refine rr_callViD (c_X1_endOfPair N _ _ hN n hn a (by omega) 5) km_X1_68 rfl rfl (by omega) rfl (Nat.le_of_ble_eq_true rfl) dX1_endOfItem_43 ?_
    exact rr_iret dX1_endOfItem_46 ⟨by unfold ps_len; rw [if_pos hs5_0]; split <;> rfl, rfl⟩
  by_cases hs5_1 : ps_l (σ 2) n a = 112
  · rw [hs5_1]
    refine rr_lookup 47 dX1_endOfItem_5 (by decide) rfl (by decide) ?_
    refine rr_aloadn_0 dX1_endOfItem_47 ?_
    refine rr_iloadn_1 dX1_endOfItem_48 ?_
    refine rr_iconst (v := 3) dX1_endOfItem_49 (by decide) ?_
    refine rr_callViD (c_X1_endOfPair N _ _ hN n hn a (by omega) 3) km_X1_68 rfl rfl (by omega) rfl (Nat.le_of_ble_eq_true rfl) dX1_endOfItem_50 ?_
    exact rr_iret dX1_endOfItem_53 ⟨by unfold ps_len; rw [if_neg hs5_0, if_pos hs5_1]; split <;> rfl, rfl⟩
  by_cases hs5_2 : ps_l (σ 2) n a = 114
  · rw [hs5_2]
    refine rr_lookup 54 dX1_endOfItem_5 (by decide) rfl (by decide) ?_
    refine rr_aloadn_0 dX1_endOfItem_54 ?_
    refine rr_iloadn_1 dX1_endOfItem_55 ?_
    refine rr_iconst (v := 1) dX1_endOfItem_56 (by decide) ?_
    refine rr_iadd dX1_endOfItem_57 ?_
    rw [show nI a + 1 = nI (a + 1) from nI_add a 1]
    refine rr_iconst (v := 3) dX1_endOfItem_58 (by decide) ?_
    refine rr_callViD (c_X1_isNumber N _ _ hN n hn (a + 1) (by omega) 3) km_X1_71 rfl rfl (by omega) rfl (Nat.le_of_ble_eq_true rfl) dX1_endOfItem_59 ?_
    refine rr_if_eq 83 dX1_endOfItem_62 (by decide) (fun h62 => ?_) (fun h62 => ?_)
    · refine rr_iconst (v := (-1)) dX1_endOfItem_83 (by decide) ?_
      exact rr_iret dX1_endOfItem_84 ⟨by unfold ps_len; rw [if_neg hs5_0, if_neg hs5_1, if_pos hs5_2]; simp_all, rfl⟩
    · refine rr_aloadn_0 dX1_endOfItem_65 ?_
      refine rr_iloadn_1 dX1_endOfItem_66 ?_
      refine rr_iconst (v := 2) dX1_endOfItem_67 (by decide) ?_
      refine rr_iadd dX1_endOfItem_68 ?_
      rw [show nI a + 2 = nI (a + 2) from nI_add a 2]
      refine rr_callViD (c_X1_letterAt N _ _ hN n hn (a + 2) (by omega)) km_X1_23 rfl rfl (by omega) rfl (Nat.le_of_ble_eq_true rfl) dX1_endOfItem_69 ?_
      refine rr_bipush (v := 59) dX1_endOfItem_72 (by decide) ?_
      refine rr_icmp_ne 83 dX1_endOfItem_74 (by decide) (fun h74 => ?_) (fun h74 => ?_)
      · refine rr_iconst (v := (-1)) dX1_endOfItem_83 (by decide) ?_
        exact rr_iret dX1_endOfItem_84 ⟨by unfold ps_len; rw [if_neg hs5_0, if_neg hs5_1, if_pos hs5_2]; simp_all, rfl⟩
      · refine rr_iloadn_1 dX1_endOfItem_77 ?_
        refine rr_iconst (v := 3) dX1_endOfItem_78 (by decide) ?_
        refine rr_iadd dX1_endOfItem_79 ?_
        rw [show nI a + 3 = nI (a + 3) from nI_add a 3]
        refine rr_goto 84 dX1_endOfItem_80 (by decide) ?_
        exact rr_iret dX1_endOfItem_84 ⟨by unfold ps_len; rw [if_neg hs5_0, if_neg hs5_1, if_pos hs5_2]; simp_all, rfl⟩
  refine rr_lookup 85 dX1_endOfItem_5 (off := 80) (by decide) (by simp only [Op.lookupswitch.offset]; rw [if_neg (rd_neI (k := 100) (z := 100) hs5_0 rfl), if_neg (rd_neI (k := 112) (z := 112) hs5_1 rfl), if_neg (rd_neI (k := 114) (z := 114) hs5_2 rfl)]) (by decide) ?_
  refine rr_iconst (v := (-1)) dX1_endOfItem_85 (by decide) ?_
  exact rr_iret dX1_endOfItem_86 ⟨by unfold ps_len; rw [if_neg hs5_0, if_neg hs5_1, if_neg hs5_2], rfl⟩
end
section
theorem c_eoi_n (N d : Nat) (σ : rd_S) (hN : 33 ≤ N) (n : Nat) (hn : ps_at σ n) (a : Nat) (ha : a < 900) (h : ps_len (σ 2) n a = none) : rd_T N (d + 3) yX1_endOfItem cX1_endOfItem 2 (some .int) [.ref 1, .int (nI a)] σ (rd_is (some (.int (-1))) σ) := by
  have := c_X1_endOfItem N d σ hN n hn a ha
  rw [h] at this
  exact this
theorem c_eoi_s (N d : Nat) (σ : rd_S) (hN : 33 ≤ N) (n : Nat) (hn : ps_at σ n) (a : Nat) (ha : a < 900) {l : Nat} (h : ps_len (σ 2) n a = some l) : rd_T N (d + 3) yX1_endOfItem cX1_endOfItem 2 (some .int) [.ref 1, .int (nI a)] σ (rd_is (some (.int (nI (a + l)))) σ) := by
  have := c_X1_endOfItem N d σ hN n hn a ha
  rw [h] at this
  exact this
theorem ps_run_lt {t : Nat → Int32} {n : Nat} : ∀ {f a : Nat} {X : ps_X} {b : Nat}, ps_run t n f a X = .inl b → b < n
  | 0, _, _, _, h => by cases h
  | f + 1, a, X, b, h => by
    unfold ps_run at h
    split at h
    · cases h
    · split at h
      · cases h; omega
      · split at h
        · cases h; omega
        · exact ps_run_lt h
def ps_res : Nat ⊕ ps_X → Int32
  | .inl a => nI a
  | .inr _ => -4
theorem ps_up_1 {t : Nat → Int32} {n a : Nat} {X : ps_X} (h : ps_l t n a = 114) : (ps_up t n a X).1 = X.1 + 1 := by
  simp [ps_up, h]
theorem ps_up_0 {t : Nat → Int32} {n a l : Nat} {X : ps_X} (hl : ps_len t n a = some l) (h : ¬ ps_l t n a = 114) : (ps_up t n a X).1 = X.1 := by
  unfold ps_len at hl
  unfold ps_up
  split
  · rfl
  · rename_i h1
    split
    · rfl
    · rename_i h2
      rw [if_neg h1, if_neg h2, if_neg h] at hl
      cases hl
theorem nI_nm1 {k : Nat} (h : k < 1000) : ¬ nI k = -1 := fun e => nI_pos (n := k) (by omega) (by rw [e]; decide)
set_option maxHeartbeats 4000000 in
set_option maxRecDepth 100000 in
theorem lp_firstFault (N d : Nat) (σ : rd_S) (hN : 33 ≤ N) (n : Nat) (hn : ps_at σ n) : ∀ (fu a it : Nat) (X : ps_X) (w : Value), n < a + fu → a ≤ n → 3 * it ≤ a → X.1 ≤ 12 → rd_W N (d + 4) RX1 cX1_firstFault 5 (some .int) 6 [.ref 1, .int (nI a), .int (nI X.1), .int (nI it), w] [] σ (rd_is (some (.int (ps_res (ps_run (σ 2) n fu a X)))) σ) := by
  intro fu
  induction fu with
  | zero => intro a it X w h1 h2; omega
  | succ fu ih =>
    intro a it X w hfu han hit hX
    have hn2 : n ≤ 200 := hn.2
    have h11 : σ 1 1 = nI n := hn.1
    refine rr_iloadn_3 dX1_firstFault_6 ?_
    refine rr_sipush (v := 200) dX1_firstFault_7 (by decide) ?_
    refine rr_icmp_ge 64 dX1_firstFault_10 (by decide) (fun h10 => absurd ((nI_le8 (a := 200) (b := it) (by omega) (by omega)).mp h10) (by omega)) (fun h10 => ?_)
    refine rr_iloadn_1 dX1_firstFault_13 ?_
    refine rr_aloadn_0 dX1_firstFault_14 ?_
    refine rr_geti dX1_firstFault_15 kf_X1_15 (by omega) rfl rfl ?_
    rw [h11]
    refine rr_icmp_ge 64 dX1_firstFault_18 (by decide) (fun h18 => ?_) (fun h18 => ?_)
    · refine rr_bipush (v := (-4)) dX1_firstFault_64 (by decide) ?_
      exact rr_iret dX1_firstFault_66 ⟨by simp [ps_run, (nI_le8 (a := n) (b := a) (by omega) (by omega)).mp h18, ps_res], rfl⟩
    · have hna : ¬ n ≤ a := fun q => h18 ((nI_le8 (by omega) (by omega)).mpr q)
      rcases hl : ps_len (σ 2) n a with _ | l
      · refine rr_aloadn_0 dX1_firstFault_21 ?_
        refine rr_iloadn_1 dX1_firstFault_22 ?_
        refine rr_callViD (c_eoi_n N _ _ hN n hn a (by omega) hl) km_X1_19 rfl rfl (by omega) rfl (Nat.le_of_ble_eq_true rfl) dX1_firstFault_23 ?_
        refine rr_istore_4 dX1_firstFault_26 rfl ?_
        refine rr_aloadn_0 dX1_firstFault_28 ?_
        refine rr_iloadn_1 dX1_firstFault_29 ?_
        refine rr_callViD (c_X1_letterAt N _ _ hN n hn (a) (by omega)) km_X1_23 rfl rfl (by omega) rfl (Nat.le_of_ble_eq_true rfl) dX1_firstFault_30 ?_
        refine rr_bipush (v := 114) dX1_firstFault_33 (by decide) ?_
        refine rr_icmp_ne 41 dX1_firstFault_35 (by decide) (fun h35 => ?_) (fun h35 => ?_)
        · refine rr_iload_4 dX1_firstFault_41 ?_
          refine rr_iconst (v := (-1)) dX1_firstFault_43 (by decide) ?_
          refine rr_icmp_eq 53 dX1_firstFault_44 (by decide) (fun _ => ?_) (fun h44 => absurd h44 (by decide))
          refine rr_iloadn_1 dX1_firstFault_53 ?_
          exact rr_iret dX1_firstFault_54 ⟨by simp [ps_run, hna, hl, ps_res], rfl⟩
        · refine rr_iinc_2 1 dX1_firstFault_38 (by decide) rfl ?_
          refine rr_iload_4 dX1_firstFault_41 ?_
          refine rr_iconst (v := (-1)) dX1_firstFault_43 (by decide) ?_
          refine rr_icmp_eq 53 dX1_firstFault_44 (by decide) (fun _ => ?_) (fun h44 => absurd h44 (by decide))
          refine rr_iloadn_1 dX1_firstFault_53 ?_
          exact rr_iret dX1_firstFault_54 ⟨by simp [ps_run, hna, hl, ps_res], rfl⟩
      · have hlc := ps_len_c hl
        refine rr_aloadn_0 dX1_firstFault_21 ?_
        refine rr_iloadn_1 dX1_firstFault_22 ?_
        refine rr_callViD (c_eoi_s N _ _ hN n hn a (by omega) hl) km_X1_19 rfl rfl (by omega) rfl (Nat.le_of_ble_eq_true rfl) dX1_firstFault_23 ?_
        refine rr_istore_4 dX1_firstFault_26 rfl ?_
        refine rr_aloadn_0 dX1_firstFault_28 ?_
        refine rr_iloadn_1 dX1_firstFault_29 ?_
        refine rr_callViD (c_X1_letterAt N _ _ hN n hn (a) (by omega)) km_X1_23 rfl rfl (by omega) rfl (Nat.le_of_ble_eq_true rfl) dX1_firstFault_30 ?_
        refine rr_bipush (v := 114) dX1_firstFault_33 (by decide) ?_
        refine rr_icmp_ne 41 dX1_firstFault_35 (by decide) (fun h35 => ?_) (fun h35 => ?_)
        · try rw [nI_s X.1]
          refine rr_iload_4 dX1_firstFault_41 ?_
          refine rr_iconst (v := (-1)) dX1_firstFault_43 (by decide) ?_
          refine rr_icmp_eq 53 dX1_firstFault_44 (by decide) (fun h44 => absurd h44 (nI_nm1 (by omega))) (fun h44 => ?_)
          refine rr_iloadn_2 dX1_firstFault_47 ?_
          refine rr_bipush (v := 12) dX1_firstFault_48 (by decide) ?_
          refine rr_icmp_le 55 dX1_firstFault_50 (by decide) (fun h50 => ?_) (fun h50 => ?_)
          · refine rr_iload_4 dX1_firstFault_55 ?_
            refine rr_istoren_1 dX1_firstFault_57 rfl ?_
            refine rr_iinc_3 1 dX1_firstFault_58 (by decide) rfl ?_
            refine rr_goto 6 dX1_firstFault_61 (by decide) ?_
            rw [nI_s it]
            have e9 : ¬ (ps_l (σ 2) n a = 114 ∧ X.1 = 12) := by first | exact fun q => h35 q.1 | exact fun q => absurd ((nI_le8 (b := 12) (by omega) (by omega)).mp h50) (by omega)
            have e8 : ps_run (σ 2) n (fu + 1) a X = ps_run (σ 2) n fu (a + l) (ps_up (σ 2) n a X) := by simp only [ps_run, if_neg hna, hl, if_neg e9]
            rw [e8]
            first | (have e7 := ps_up_1 (X := X) h35; rw [← e7]; exact ih (a + l) (it + 1) _ _ (by omega) (by omega) (by omega) (by rw [e7]; exact (nI_le8 (b := 12) (by omega) (by omega)).mp h50)) | (have e7 := ps_up_0 (X := X) hl h35; rw [← e7]; exact ih (a + l) (it + 1) _ _ (by omega) (by omega) (by omega) (by rw [e7]; exact hX))
          · refine rr_iloadn_1 dX1_firstFault_53 ?_
            exact rr_iret dX1_firstFault_54 ⟨by first | (exact absurd ((nI_le8 (a := X.1) (b := 12) (by omega) (by omega)).mpr hX) h50) | (have h12 : ¬ X.1 + 1 ≤ 12 := fun q => h50 ((nI_le8 (b := 12) (by omega) (by omega)).mpr q); simp [ps_run, hna, hl, ps_res, h35, show X.1 = 12 by omega]), rfl⟩
        · refine rr_iinc_2 1 dX1_firstFault_38 (by decide) rfl ?_
          try rw [nI_s X.1]
          refine rr_iload_4 dX1_firstFault_41 ?_
          refine rr_iconst (v := (-1)) dX1_firstFault_43 (by decide) ?_
          refine rr_icmp_eq 53 dX1_firstFault_44 (by decide) (fun h44 => absurd h44 (nI_nm1 (by omega))) (fun h44 => ?_)
          refine rr_iloadn_2 dX1_firstFault_47 ?_
          refine rr_bipush (v := 12) dX1_firstFault_48 (by decide) ?_
          refine rr_icmp_le 55 dX1_firstFault_50 (by decide) (fun h50 => ?_) (fun h50 => ?_)
          · refine rr_iload_4 dX1_firstFault_55 ?_
            refine rr_istoren_1 dX1_firstFault_57 rfl ?_
            refine rr_iinc_3 1 dX1_firstFault_58 (by decide) rfl ?_
            refine rr_goto 6 dX1_firstFault_61 (by decide) ?_
            rw [nI_s it]
            have e9 : ¬ (ps_l (σ 2) n a = 114 ∧ X.1 = 12) := by first | exact fun q => h35 q.1 | exact fun q => absurd ((nI_le8 (b := 12) (by omega) (by omega)).mp h50) (by omega)
            have e8 : ps_run (σ 2) n (fu + 1) a X = ps_run (σ 2) n fu (a + l) (ps_up (σ 2) n a X) := by simp only [ps_run, if_neg hna, hl, if_neg e9]
            rw [e8]
            first | (have e7 := ps_up_1 (X := X) h35; rw [← e7]; exact ih (a + l) (it + 1) _ _ (by omega) (by omega) (by omega) (by rw [e7]; exact (nI_le8 (b := 12) (by omega) (by omega)).mp h50)) | (have e7 := ps_up_0 (X := X) hl h35; rw [← e7]; exact ih (a + l) (it + 1) _ _ (by omega) (by omega) (by omega) (by rw [e7]; exact hX))
          · refine rr_iloadn_1 dX1_firstFault_53 ?_
            exact rr_iret dX1_firstFault_54 ⟨by first | (exact absurd ((nI_le8 (a := X.1) (b := 12) (by omega) (by omega)).mpr hX) h50) | (have h12 : ¬ X.1 + 1 ≤ 12 := fun q => h50 ((nI_le8 (b := 12) (by omega) (by omega)).mpr q); simp [ps_run, hna, hl, ps_res, h35, show X.1 = 12 by omega]), rfl⟩
set_option maxHeartbeats 4000000 in
set_option maxRecDepth 100000 in
theorem c_X1_firstFault (N d : Nat) (σ : rd_S) (hN : 33 ≤ N) (n : Nat) (hn : ps_at σ n) : rd_T N (d + 4) yX1_firstFault cX1_firstFault 5 (some .int) [.ref 1] σ (rd_is (some (.int (ps_res (ps_run (σ 2) n 201 0 ps_0)))) σ) := by
  refine rd_start RX1 [.ref 1, .retAddr 0, .retAddr 0, .retAddr 0, .retAddr 0] rfl (by decide +kernel) rfl (Nat.le_of_ble_eq_true rfl) ?_
  refine rr_iconst (v := 0) dX1_firstFault_0 (by decide) ?_
  refine rr_istoren_1 dX1_firstFault_1 rfl ?_
  refine rr_iconst (v := 0) dX1_firstFault_2 (by decide) ?_
  refine rr_istoren_2 dX1_firstFault_3 rfl ?_
  refine rr_iconst (v := 0) dX1_firstFault_4 (by decide) ?_
  refine rr_istoren_3 dX1_firstFault_5 rfl ?_
  exact lp_firstFault N d σ hN n hn 201 0 0 ps_0 _ (by have := hn.2; omega) (by omega) (by omega) (by decide)
def ps_wr (σ : rd_S) (X : ps_X) : rd_S := fun a b => if a = 1 then (if b = 2 then X.2.1 else if b = 3 then X.2.2.1 else if b = 4 then nI X.1 else if b = 5 then X.2.2.2 else σ a b) else σ a b
theorem ps_wr_l (σ : rd_S) (X : ps_X) : ps_wr σ X 2 = σ 2 := by funext b; simp [ps_wr]
theorem ps_wr_at {σ : rd_S} {n : Nat} (X : ps_X) (h : ps_at σ n) : ps_at (ps_wr σ X) n := ⟨by simp [ps_wr, h.1], h.2⟩
theorem ps_wr_wr (σ : rd_S) (X Y : ps_X) : ps_wr (ps_wr σ X) Y = ps_wr σ Y := by
  funext a b
  simp only [ps_wr]
  split
  · split
    · rfl
    · split
      · rfl
      · split
        · rfl
        · split
          · rfl
          · rfl
  · rfl
theorem ps_ext {σ f : rd_S} {X : ps_X} (h : ∀ a b, a ≠ 1 → f a b = σ a b) (h2 : f 1 2 = X.2.1) (h3 : f 1 3 = X.2.2.1) (h4 : f 1 4 = nI X.1) (h5 : f 1 5 = X.2.2.2) (h0 : ∀ b, b ≠ 2 → b ≠ 3 → b ≠ 4 → b ≠ 5 → f 1 b = σ 1 b) : f = ps_wr σ X := by
  funext a b
  simp only [ps_wr]
  by_cases ha : a = 1
  · subst ha
    rw [if_pos rfl]
    by_cases b2 : b = 2
    · subst b2; simpa using h2
    · rw [if_neg b2]
      by_cases b3 : b = 3
      · subst b3; simpa using h3
      · rw [if_neg b3]
        by_cases b4 : b = 4
        · subst b4; simpa using h4
        · rw [if_neg b4]
          by_cases b5 : b = 5
          · subst b5; simpa using h5
          · rw [if_neg b5]; exact h0 b b2 b3 b4 b5
  · rw [if_neg ha]; exact h a b ha
set_option maxHeartbeats 4000000 in
set_option maxRecDepth 100000 in
theorem c_X1_readItem (N d : Nat) (σ : rd_S) (hN : 33 ≤ N) (n : Nat) (hn : ps_at σ n) (a : Nat) (ha : a < 900) (X : ps_X) : rd_T N (d + 1) yX1_readItem cX1_readItem 4 none [.ref 1, .int (nI a)] (ps_wr σ X) (rd_is none (ps_wr σ (ps_up (σ 2) n a X))) := by
  refine rd_start RX1 [.ref 1, .int (nI a), .retAddr 0, .retAddr 0] rfl (by decide +kernel) rfl (Nat.le_of_ble_eq_true rfl) ?_
  have hn1 := ps_wr_at X hn
  refine rr_aloadn_0 dX1_readItem_0 ?_
  refine rr_iloadn_1 dX1_readItem_1 ?_
  refine rr_iconst (v := 1) dX1_readItem_2 (by decide) ?_
  refine rr_iadd dX1_readItem_3 ?_
  rw [show nI a + 1 = nI (a + 1) from nI_add a 1]
  refine rr_callViD (c_X1_letterAt N _ _ hN n hn1 (a + 1) (by omega)) km_X1_23 rfl rfl (by omega) rfl (Nat.le_of_ble_eq_true rfl) dX1_readItem_4 ?_
  refine rr_bipush (v := 48) dX1_readItem_7 (by decide) ?_
  refine rr_isub dX1_readItem_9 ?_
  refine rr_istoren_2 dX1_readItem_10 rfl ?_
  refine rr_aloadn_0 dX1_readItem_11 ?_
  refine rr_iloadn_1 dX1_readItem_12 ?_
  refine rr_iconst (v := 3) dX1_readItem_13 (by decide) ?_
  refine rr_iadd dX1_readItem_14 ?_
  rw [show nI a + 3 = nI (a + 3) from nI_add a 3]
  refine rr_callViD (c_X1_letterAt N _ _ hN n hn1 (a + 3) (by omega)) km_X1_23 rfl rfl (by omega) rfl (Nat.le_of_ble_eq_true rfl) dX1_readItem_15 ?_
  refine rr_bipush (v := 48) dX1_readItem_18 (by decide) ?_
  refine rr_isub dX1_readItem_20 ?_
  refine rr_istoren_3 dX1_readItem_21 rfl ?_
  refine rr_aloadn_0 dX1_readItem_22 ?_
  refine rr_iloadn_1 dX1_readItem_23 ?_
  refine rr_callViD (c_X1_letterAt N _ _ hN n hn1 a (by omega)) km_X1_23 rfl rfl (by omega) rfl (Nat.le_of_ble_eq_true rfl) dX1_readItem_24 ?_
  by_cases hs27_0 : ps_l (ps_wr σ X 2) n a = 100
  · rw [hs27_0]
    refine rr_lookup 52 dX1_readItem_27 (by decide) rfl (by decide) ?_
    refine rr_aloadn_0 dX1_readItem_52 ?_
    refine rr_aloadn_0 dX1_readItem_53 ?_
    refine rr_geti dX1_readItem_54 kf_X1_49 (by omega) rfl rfl ?_
    refine rr_iloadn_2 dX1_readItem_57 ?_
    refine rr_iloadn_3 dX1_readItem_58 ?_
    refine rr_callSiD (c_X4_withKind N _ _ _ _ _) km_X1_64 rfl rfl (Nat.le_of_ble_eq_true rfl) dX1_readItem_59 ?_
    refine rr_puti dX1_readItem_62 kf_X1_49 if_1_2 (by omega) rfl rfl ?_
    refine rr_goto 120 dX1_readItem_65 (by decide) ?_
    exact rr_vret dX1_readItem_120 ⟨rfl, by rw [ps_wr_l] at *; apply ps_ext <;> intros <;> simp [rd_u2, ps_wr, ps_up, ps_setp, nI_s, *]⟩
  by_cases hs27_1 : ps_l (ps_wr σ X 2) n a = 112
  · rw [hs27_1]
    refine rr_lookup 68 dX1_readItem_27 (by decide) rfl (by decide) ?_
    refine rr_aloadn_0 dX1_readItem_68 ?_
    refine rr_aloadn_0 dX1_readItem_69 ?_
    refine rr_geti dX1_readItem_70 kf_X1_37 (by omega) rfl rfl ?_
    refine rr_iconst (v := 3) dX1_readItem_73 (by decide) ?_
    refine rr_iconst (v := 2) dX1_readItem_74 (by decide) ?_
    refine rr_iloadn_2 dX1_readItem_75 ?_
    refine rr_imul dX1_readItem_76 ?_
    refine rr_ishl dX1_readItem_77 ?_
    refine rr_iconst (v := (-1)) dX1_readItem_78 (by decide) ?_
    refine rr_ixor dX1_readItem_79 ?_
    refine rr_iand dX1_readItem_80 ?_
    refine rr_iloadn_3 dX1_readItem_81 ?_
    refine rr_iconst (v := 2) dX1_readItem_82 (by decide) ?_
    refine rr_iloadn_2 dX1_readItem_83 ?_
    refine rr_imul dX1_readItem_84 ?_
    refine rr_ishl dX1_readItem_85 ?_
    refine rr_ior dX1_readItem_86 ?_
    refine rr_puti dX1_readItem_87 kf_X1_37 if_1_5 (by omega) rfl rfl ?_
    refine rr_goto 120 dX1_readItem_90 (by decide) ?_
    exact rr_vret dX1_readItem_120 ⟨rfl, by rw [ps_wr_l] at *; apply ps_ext <;> intros <;> simp [rd_u2, ps_wr, ps_up, ps_setp, nI_s, *]⟩
  refine rr_lookup 93 dX1_readItem_27 (off := 66) (by decide) (by simp only [Op.lookupswitch.offset]; rw [if_neg (rd_neI (k := 100) (z := 100) hs27_0 rfl), if_neg (rd_neI (k := 112) (z := 112) hs27_1 rfl)]) (by decide) ?_
  refine rr_aloadn_0 dX1_readItem_93 ?_
  refine rr_dup dX1_readItem_94 rfl ?_
  refine rr_geti dX1_readItem_95 kf_X1_52 (by omega) rfl rfl ?_
  refine rr_iloadn_2 dX1_readItem_98 ?_
  refine rr_iconst (v := 2) dX1_readItem_99 (by decide) ?_
  refine rr_aloadn_0 dX1_readItem_100 ?_
  refine rr_geti dX1_readItem_101 kf_X1_55 (by omega) rfl rfl ?_
  refine rr_imul dX1_readItem_104 ?_
  refine rr_ishl dX1_readItem_105 ?_
  refine rr_ior dX1_readItem_106 ?_
  refine rr_puti dX1_readItem_107 kf_X1_52 if_1_3 (by omega) rfl rfl ?_
  refine rr_aloadn_0 dX1_readItem_110 ?_
  refine rr_dup dX1_readItem_111 rfl ?_
  refine rr_geti dX1_readItem_112 kf_X1_55 (by omega) rfl rfl ?_
  refine rr_iconst (v := 1) dX1_readItem_115 (by decide) ?_
  refine rr_iadd dX1_readItem_116 ?_
  refine rr_puti dX1_readItem_117 kf_X1_55 if_1_4 (by omega) rfl rfl ?_
  exact rr_vret dX1_readItem_120 ⟨rfl, by rw [ps_wr_l] at *; apply ps_ext <;> intros <;> simp [rd_u2, ps_wr, ps_up, ps_setp, nI_s, *]⟩
set_option maxHeartbeats 4000000 in
set_option maxRecDepth 100000 in
theorem lp_readItems (N d : Nat) (σ : rd_S) (hN : 33 ≤ N) (n : Nat) (hn : ps_at σ n) : ∀ (fu a it : Nat) (X Y : ps_X), n < a + fu → a ≤ n → 3 * it ≤ a → ps_run (σ 2) n fu a X = .inr Y → rd_W N (d + 2) RX1 cX1_readItems 3 none 26 [.ref 1, .int (nI a), .int (nI it)] [] (ps_wr σ X) (rd_is none (ps_wr σ Y)) := by
  intro fu
  induction fu with
  | zero => intro a it X Y h1 h2; omega
  | succ fu ih =>
    intro a it X Y hfu han hit hrun
    have hn2 : n ≤ 200 := hn.2
    have h11 : ps_wr σ X 1 1 = nI n := (ps_wr_at X hn).1
    have hn3 := ps_wr_at (ps_up (σ 2) n a X) hn
    refine rr_iloadn_2 dX1_readItems_26 ?_
    refine rr_sipush (v := 200) dX1_readItems_27 (by decide) ?_
    refine rr_icmp_ge 70 dX1_readItems_30 (by decide) (fun h30 => absurd ((nI_le8 (a := 200) (b := it) (by omega) (by omega)).mp h30) (by omega)) (fun h30 => ?_)
    refine rr_iloadn_1 dX1_readItems_33 ?_
    refine rr_aloadn_0 dX1_readItems_34 ?_
    refine rr_geti dX1_readItems_35 kf_X1_15 (by omega) rfl rfl ?_
    rw [h11]
    refine rr_icmp_ge 70 dX1_readItems_38 (by decide) (fun h38 => ?_) (fun h38 => ?_)
    · exact rr_vret dX1_readItems_70 ⟨rfl, by rw [ps_run, if_pos ((nI_le8 (a := n) (b := a) (by omega) (by omega)).mp h38)] at hrun; cases hrun; rfl⟩
    · have hna : ¬ n ≤ a := fun q => h38 ((nI_le8 (by omega) (by omega)).mpr q)
      rw [ps_run, if_neg hna] at hrun
      refine rr_aloadn_0 dX1_readItems_41 ?_
      refine rr_iloadn_1 dX1_readItems_42 ?_
      rcases hl : ps_len (σ 2) n a with _ | l
      · rw [hl] at hrun
        cases hrun
      · have hlc := ps_len_c hl
        rw [hl] at hrun
        refine rr_callVvD (c_X1_readItem N _ _ hN n hn a (by omega) X) km_X1_60 rfl rfl (by omega) rfl (Nat.le_of_ble_eq_true rfl) dX1_readItems_43 ?_
        refine rr_iloadn_1 dX1_readItems_46 ?_
        refine rr_aloadn_0 dX1_readItems_47 ?_
        refine rr_iloadn_1 dX1_readItems_48 ?_
        refine rr_callViD (c_X1_letterAt N _ _ hN n hn3 a (by omega)) km_X1_23 rfl rfl (by omega) rfl (Nat.le_of_ble_eq_true rfl) dX1_readItems_49 ?_
        rw [ps_wr_l]
        refine rr_bipush (v := 114) dX1_readItems_52 (by decide) ?_
        refine rr_icmp_ne 61 dX1_readItems_54 (by decide) (fun h54 => ?_) (fun h54 => ?_)
        · refine rr_iconst (v := 5) dX1_readItems_61 (by decide) ?_
          refine rr_iadd dX1_readItems_62 ?_
          refine rr_istoren_1 dX1_readItems_63 rfl ?_
          refine rr_iinc_2 1 dX1_readItems_64 (by decide) rfl ?_
          refine rr_goto 26 dX1_readItems_67 (by decide) ?_
          rw [nI_s it]
          have e9 : ¬ (ps_l (σ 2) n a = 114 ∧ X.1 = 12) := by intro q; simp only [if_pos q] at hrun; cases hrun
          simp only [if_neg e9] at hrun
          have hl2 := hl
          unfold ps_len at hl2
          first | (rw [show nI a + 3 = nI (a + 3) from nI_add a 3, show a + 3 = a + l by (rw [h54] at hl2; simp at hl2; omega)]; exact ih _ _ _ _ (by omega) (by omega) (by omega) hrun) | (rw [show nI a + 5 = nI (a + 5) from nI_add a 5, show a + 5 = a + l by (simp only [if_neg h54] at hl2; split at hl2 <;> split at hl2 <;> simp at hl2 <;> omega)]; exact ih _ _ _ _ (by omega) (by omega) (by omega) hrun)
        · refine rr_iconst (v := 3) dX1_readItems_57 (by decide) ?_
          refine rr_goto 62 dX1_readItems_58 (by decide) ?_
          refine rr_iadd dX1_readItems_62 ?_
          refine rr_istoren_1 dX1_readItems_63 rfl ?_
          refine rr_iinc_2 1 dX1_readItems_64 (by decide) rfl ?_
          refine rr_goto 26 dX1_readItems_67 (by decide) ?_
          rw [nI_s it]
          have e9 : ¬ (ps_l (σ 2) n a = 114 ∧ X.1 = 12) := by intro q; simp only [if_pos q] at hrun; cases hrun
          simp only [if_neg e9] at hrun
          have hl2 := hl
          unfold ps_len at hl2
          first | (rw [show nI a + 3 = nI (a + 3) from nI_add a 3, show a + 3 = a + l by (rw [h54] at hl2; simp at hl2; omega)]; exact ih _ _ _ _ (by omega) (by omega) (by omega) hrun) | (rw [show nI a + 5 = nI (a + 5) from nI_add a 5, show a + 5 = a + l by (simp only [if_neg h54] at hl2; split at hl2 <;> split at hl2 <;> simp at hl2 <;> omega)]; exact ih _ _ _ _ (by omega) (by omega) (by omega) hrun)
set_option maxHeartbeats 4000000 in
set_option maxRecDepth 100000 in
theorem c_X1_readItems (N d : Nat) (σ : rd_S) (hN : 33 ≤ N) (n : Nat) (hn : ps_at σ n) (Y : ps_X) (hY : ps_run (σ 2) n 201 0 ps_0 = .inr Y) : rd_T N (d + 2) yX1_readItems cX1_readItems 3 none [.ref 1] σ (rd_is none (ps_wr σ Y)) := by
  refine rd_start RX1 [.ref 1, .retAddr 0, .retAddr 0] rfl (by decide +kernel) rfl (Nat.le_of_ble_eq_true rfl) ?_
  refine rr_aloadn_0 dX1_readItems_0 ?_
  refine rr_iconst (v := 0) dX1_readItems_1 (by decide) ?_
  refine rr_puti dX1_readItems_2 kf_X1_49 if_1_2 (by omega) rfl rfl ?_
  refine rr_aloadn_0 dX1_readItems_5 ?_
  refine rr_iconst (v := 0) dX1_readItems_6 (by decide) ?_
  refine rr_puti dX1_readItems_7 kf_X1_52 if_1_3 (by omega) rfl rfl ?_
  refine rr_aloadn_0 dX1_readItems_10 ?_
  refine rr_iconst (v := 0) dX1_readItems_11 (by decide) ?_
  refine rr_puti dX1_readItems_12 kf_X1_55 if_1_4 (by omega) rfl rfl ?_
  refine rr_aloadn_0 dX1_readItems_15 ?_
  refine rr_sipush (v := 228) dX1_readItems_16 (by decide) ?_
  refine rr_puti dX1_readItems_19 kf_X1_37 if_1_5 (by omega) rfl rfl ?_
  refine rr_iconst (v := 0) dX1_readItems_22 (by decide) ?_
  refine rr_istoren_1 dX1_readItems_23 rfl ?_
  refine rr_iconst (v := 0) dX1_readItems_24 (by decide) ?_
  refine rr_istoren_2 dX1_readItems_25 rfl ?_
  rw [show rd_u2 (rd_u2 (rd_u2 (rd_u2 σ 1 2 0) 1 3 0) 1 4 0) 1 5 228 = ps_wr σ ps_0 by apply ps_ext <;> intros <;> first | (simp [rd_u2, ps_0, *]; done) | rfl]
  exact lp_readItems N d σ hN n hn 201 0 0 ps_0 Y (by have := hn.2; omega) (by omega) (by omega) hY
def bc_1 (x : Int32) : Int32 := x - ((x.toUInt32 >>> ((1 : Int32).toUInt32 &&& Int32.toUInt32 31)).toInt32 &&& 1431655765)
def bc_2 (x : Int32) : Int32 := (x &&& 858993459) + ((x.toUInt32 >>> ((2 : Int32).toUInt32 &&& Int32.toUInt32 31)).toInt32 &&& 858993459)
def bc_3 (x : Int32) : Int32 := (x + (x.toUInt32 >>> ((4 : Int32).toUInt32 &&& Int32.toUInt32 31)).toInt32) &&& 252645135
def bc_4 (x : Int32) : Int32 := x + (x.toUInt32 >>> ((8 : Int32).toUInt32 &&& Int32.toUInt32 31)).toInt32
def bc_5 (x : Int32) : Int32 := x + (x.toUInt32 >>> ((16 : Int32).toUInt32 &&& Int32.toUInt32 31)).toInt32
def bc_c (x : Int32) : Int32 := bc_5 (bc_4 (bc_3 (bc_2 (bc_1 x)))) &&& 63
set_option maxHeartbeats 4000000 in
set_option maxRecDepth 100000 in
theorem c_J6_bitCount_0f7a4 (N d : Nat) (σ : rd_S) (x : Int32) : rd_T N (d + 0) yJ6_bitCount_0f7a4 cJ6_bitCount_0f7a4 1 (some .int) [.int x] σ (rd_is (some (.int (bc_c x))) σ) := by
  refine rd_start RJ6 [.int x] rfl (by decide +kernel) rfl (Nat.le_of_ble_eq_true rfl) ?_
  refine rr_iloadn_0 dJ6_bitCount_0f7a4_0 ?_
  refine rr_iloadn_0 dJ6_bitCount_0f7a4_1 ?_
  refine rr_iconst (v := 1) dJ6_bitCount_0f7a4_2 (by decide) ?_
  refine rr_iushr dJ6_bitCount_0f7a4_3 ?_
  refine rr_ldcw dJ6_bitCount_0f7a4_4 kc_J6_265 ?_
  refine rr_iand dJ6_bitCount_0f7a4_7 ?_
  refine rr_isub dJ6_bitCount_0f7a4_8 ?_
  refine rr_istoren_0 dJ6_bitCount_0f7a4_9 rfl ?_
  refine rr_iloadn_0 dJ6_bitCount_0f7a4_10 ?_
  refine rr_ldcw dJ6_bitCount_0f7a4_11 kc_J6_266 ?_
  refine rr_iand dJ6_bitCount_0f7a4_14 ?_
  refine rr_iloadn_0 dJ6_bitCount_0f7a4_15 ?_
  refine rr_iconst (v := 2) dJ6_bitCount_0f7a4_16 (by decide) ?_
  refine rr_iushr dJ6_bitCount_0f7a4_17 ?_
  refine rr_ldcw dJ6_bitCount_0f7a4_18 kc_J6_266 ?_
  refine rr_iand dJ6_bitCount_0f7a4_21 ?_
  refine rr_iadd dJ6_bitCount_0f7a4_22 ?_
  refine rr_istoren_0 dJ6_bitCount_0f7a4_23 rfl ?_
  refine rr_iloadn_0 dJ6_bitCount_0f7a4_24 ?_
  refine rr_iloadn_0 dJ6_bitCount_0f7a4_25 ?_
  refine rr_iconst (v := 4) dJ6_bitCount_0f7a4_26 (by decide) ?_
  refine rr_iushr dJ6_bitCount_0f7a4_27 ?_
  refine rr_iadd dJ6_bitCount_0f7a4_28 ?_
  refine rr_ldcw dJ6_bitCount_0f7a4_29 kc_J6_267 ?_
  refine rr_iand dJ6_bitCount_0f7a4_32 ?_
  refine rr_istoren_0 dJ6_bitCount_0f7a4_33 rfl ?_
  refine rr_iloadn_0 dJ6_bitCount_0f7a4_34 ?_
  refine rr_iloadn_0 dJ6_bitCount_0f7a4_35 ?_
  refine rr_bipush (v := 8) dJ6_bitCount_0f7a4_36 (by decide) ?_
  refine rr_iushr dJ6_bitCount_0f7a4_38 ?_
  refine rr_iadd dJ6_bitCount_0f7a4_39 ?_
  refine rr_istoren_0 dJ6_bitCount_0f7a4_40 rfl ?_
  refine rr_iloadn_0 dJ6_bitCount_0f7a4_41 ?_
  refine rr_iloadn_0 dJ6_bitCount_0f7a4_42 ?_
  refine rr_bipush (v := 16) dJ6_bitCount_0f7a4_43 (by decide) ?_
  refine rr_iushr dJ6_bitCount_0f7a4_45 ?_
  refine rr_iadd dJ6_bitCount_0f7a4_46 ?_
  refine rr_istoren_0 dJ6_bitCount_0f7a4_47 rfl ?_
  refine rr_iloadn_0 dJ6_bitCount_0f7a4_48 ?_
  refine rr_bipush (v := 63) dJ6_bitCount_0f7a4_49 (by decide) ?_
  refine rr_iand dJ6_bitCount_0f7a4_51 ?_
  exact rr_iret dJ6_bitCount_0f7a4_52 ⟨rfl, rfl⟩
def ps_ord (pb : Int32) : Int32 := ((((0 : Int32) ||| ((0 : Int32) <<< ((2 * sd_who pb 0) &&& 31))) ||| ((1 : Int32) <<< ((2 * sd_who pb 1) &&& 31))) ||| ((2 : Int32) <<< ((2 * sd_who pb 2) &&& 31))) ||| ((3 : Int32) <<< ((2 * sd_who pb 3) &&& 31))
def ps_tak (pb : Int32) : Int32 := ((((0 : Int32) ||| ((1 : Int32) <<< (sd_who pb 0 &&& 31))) ||| ((1 : Int32) <<< (sd_who pb 1 &&& 31))) ||| ((1 : Int32) <<< (sd_who pb 2 &&& 31))) ||| ((1 : Int32) <<< (sd_who pb 3 &&& 31))
set_option maxHeartbeats 4000000 in
set_option maxRecDepth 100000 in
theorem c_X1_orderBits (N d : Nat) (σ : rd_S) (hN : 33 ≤ N) : rd_T N (d + 1) yX1_orderBits cX1_orderBits 3 (some .int) [.ref 1] σ (rd_is (some (.int (ps_ord (σ 1 5)))) σ) := by
  refine rd_start RX1 [.ref 1, .retAddr 0, .retAddr 0] rfl (by decide +kernel) rfl (Nat.le_of_ble_eq_true rfl) ?_
  refine rr_iconst (v := 0) dX1_orderBits_0 (by decide) ?_
  refine rr_istoren_1 dX1_orderBits_1 rfl ?_
  refine rr_iconst (v := 0) dX1_orderBits_2 (by decide) ?_
  refine rr_istoren_2 dX1_orderBits_3 rfl ?_
  refine rr_iloadn_2 dX1_orderBits_4 ?_
  refine rr_iconst (v := 4) dX1_orderBits_5 (by decide) ?_
  refine rr_icmp_ge 30 dX1_orderBits_6 (by decide) (fun h6 => absurd h6 (by decide)) (fun _ => ?_)
  refine rr_iloadn_1 dX1_orderBits_9 ?_
  refine rr_iloadn_2 dX1_orderBits_10 ?_
  refine rr_iconst (v := 2) dX1_orderBits_11 (by decide) ?_
  refine rr_aloadn_0 dX1_orderBits_12 ?_
  refine rr_geti dX1_orderBits_13 kf_X1_37 (by omega) rfl rfl ?_
  refine rr_iloadn_2 dX1_orderBits_16 ?_
  refine rr_callSiD (c_X4_pairAt N _ _ _ _) km_X1_40 rfl rfl (Nat.le_of_ble_eq_true rfl) dX1_orderBits_17 ?_
  refine rr_imul dX1_orderBits_20 ?_
  refine rr_ishl dX1_orderBits_21 ?_
  refine rr_ior dX1_orderBits_22 ?_
  refine rr_istoren_1 dX1_orderBits_23 rfl ?_
  refine rr_iincC_2 1 1 dX1_orderBits_24 (by decide) (by decide) rfl ?_
  refine rr_goto 4 dX1_orderBits_27 (by decide) ?_
  refine rr_iloadn_2 dX1_orderBits_4 ?_
  refine rr_iconst (v := 4) dX1_orderBits_5 (by decide) ?_
  refine rr_icmp_ge 30 dX1_orderBits_6 (by decide) (fun h6_1 => absurd h6_1 (by decide)) (fun _ => ?_)
  refine rr_iloadn_1 dX1_orderBits_9 ?_
  refine rr_iloadn_2 dX1_orderBits_10 ?_
  refine rr_iconst (v := 2) dX1_orderBits_11 (by decide) ?_
  refine rr_aloadn_0 dX1_orderBits_12 ?_
  refine rr_geti dX1_orderBits_13 kf_X1_37 (by omega) rfl rfl ?_
  refine rr_iloadn_2 dX1_orderBits_16 ?_
  refine rr_callSiD (c_X4_pairAt N _ _ _ _) km_X1_40 rfl rfl (Nat.le_of_ble_eq_true rfl) dX1_orderBits_17 ?_
  refine rr_imul dX1_orderBits_20 ?_
  refine rr_ishl dX1_orderBits_21 ?_
  refine rr_ior dX1_orderBits_22 ?_
  refine rr_istoren_1 dX1_orderBits_23 rfl ?_
  refine rr_iincC_2 1 2 dX1_orderBits_24 (by decide) (by decide) rfl ?_
  refine rr_goto 4 dX1_orderBits_27 (by decide) ?_
  refine rr_iloadn_2 dX1_orderBits_4 ?_
  refine rr_iconst (v := 4) dX1_orderBits_5 (by decide) ?_
  refine rr_icmp_ge 30 dX1_orderBits_6 (by decide) (fun h6_2 => absurd h6_2 (by decide)) (fun _ => ?_)
  refine rr_iloadn_1 dX1_orderBits_9 ?_
  refine rr_iloadn_2 dX1_orderBits_10 ?_
  refine rr_iconst (v := 2) dX1_orderBits_11 (by decide) ?_
  refine rr_aloadn_0 dX1_orderBits_12 ?_
  refine rr_geti dX1_orderBits_13 kf_X1_37 (by omega) rfl rfl ?_
  refine rr_iloadn_2 dX1_orderBits_16 ?_
  refine rr_callSiD (c_X4_pairAt N _ _ _ _) km_X1_40 rfl rfl (Nat.le_of_ble_eq_true rfl) dX1_orderBits_17 ?_
  refine rr_imul dX1_orderBits_20 ?_
  refine rr_ishl dX1_orderBits_21 ?_
  refine rr_ior dX1_orderBits_22 ?_
  refine rr_istoren_1 dX1_orderBits_23 rfl ?_
  refine rr_iincC_2 1 3 dX1_orderBits_24 (by decide) (by decide) rfl ?_
  refine rr_goto 4 dX1_orderBits_27 (by decide) ?_
  refine rr_iloadn_2 dX1_orderBits_4 ?_
  refine rr_iconst (v := 4) dX1_orderBits_5 (by decide) ?_
  refine rr_icmp_ge 30 dX1_orderBits_6 (by decide) (fun h6_3 => absurd h6_3 (by decide)) (fun _ => ?_)
  refine rr_iloadn_1 dX1_orderBits_9 ?_
  refine rr_iloadn_2 dX1_orderBits_10 ?_
  refine rr_iconst (v := 2) dX1_orderBits_11 (by decide) ?_
  refine rr_aloadn_0 dX1_orderBits_12 ?_
  refine rr_geti dX1_orderBits_13 kf_X1_37 (by omega) rfl rfl ?_
  refine rr_iloadn_2 dX1_orderBits_16 ?_
  refine rr_callSiD (c_X4_pairAt N _ _ _ _) km_X1_40 rfl rfl (Nat.le_of_ble_eq_true rfl) dX1_orderBits_17 ?_
  refine rr_imul dX1_orderBits_20 ?_
  refine rr_ishl dX1_orderBits_21 ?_
  refine rr_ior dX1_orderBits_22 ?_
  refine rr_istoren_1 dX1_orderBits_23 rfl ?_
  refine rr_iincC_2 1 4 dX1_orderBits_24 (by decide) (by decide) rfl ?_
  refine rr_goto 4 dX1_orderBits_27 (by decide) ?_
  refine rr_iloadn_2 dX1_orderBits_4 ?_
  refine rr_iconst (v := 4) dX1_orderBits_5 (by decide) ?_
  refine rr_icmp_ge 30 dX1_orderBits_6 (by decide) (fun _ => ?_) (fun h6_4 => absurd h6_4 (by decide))
  refine rr_iloadn_1 dX1_orderBits_30 ?_
  exact rr_iret dX1_orderBits_31 ⟨rfl, rfl⟩
set_option maxHeartbeats 4000000 in
set_option maxRecDepth 100000 in
theorem c_X1_areApart (N d : Nat) (σ : rd_S) (hN : 33 ≤ N) : rd_T N (d + 1) yX1_areApart cX1_areApart 3 (some .boolean) [.ref 1] σ (rd_is (some (.int (if bc_c (ps_tak (σ 1 5)) = 4 then 1 else 0))) σ) := by
  refine rd_start RX1 [.ref 1, .retAddr 0, .retAddr 0] rfl (by decide +kernel) rfl (Nat.le_of_ble_eq_true rfl) ?_
  refine rr_iconst (v := 0) dX1_areApart_0 (by decide) ?_
  refine rr_istoren_1 dX1_areApart_1 rfl ?_
  refine rr_iconst (v := 0) dX1_areApart_2 (by decide) ?_
  refine rr_istoren_2 dX1_areApart_3 rfl ?_
  refine rr_iloadn_2 dX1_areApart_4 ?_
  refine rr_iconst (v := 4) dX1_areApart_5 (by decide) ?_
  refine rr_icmp_ge 28 dX1_areApart_6 (by decide) (fun h6 => absurd h6 (by decide)) (fun _ => ?_)
  refine rr_iloadn_1 dX1_areApart_9 ?_
  refine rr_iconst (v := 1) dX1_areApart_10 (by decide) ?_
  refine rr_aloadn_0 dX1_areApart_11 ?_
  refine rr_geti dX1_areApart_12 kf_X1_37 (by omega) rfl rfl ?_
  refine rr_iloadn_2 dX1_areApart_15 ?_
  refine rr_callSiD (c_X4_pairAt N _ _ _ _) km_X1_40 rfl rfl (Nat.le_of_ble_eq_true rfl) dX1_areApart_16 ?_
  refine rr_ishl dX1_areApart_19 ?_
  refine rr_ior dX1_areApart_20 ?_
  refine rr_istoren_1 dX1_areApart_21 rfl ?_
  refine rr_iincC_2 1 1 dX1_areApart_22 (by decide) (by decide) rfl ?_
  refine rr_goto 4 dX1_areApart_25 (by decide) ?_
  refine rr_iloadn_2 dX1_areApart_4 ?_
  refine rr_iconst (v := 4) dX1_areApart_5 (by decide) ?_
  refine rr_icmp_ge 28 dX1_areApart_6 (by decide) (fun h6_1 => absurd h6_1 (by decide)) (fun _ => ?_)
  refine rr_iloadn_1 dX1_areApart_9 ?_
  refine rr_iconst (v := 1) dX1_areApart_10 (by decide) ?_
  refine rr_aloadn_0 dX1_areApart_11 ?_
  refine rr_geti dX1_areApart_12 kf_X1_37 (by omega) rfl rfl ?_
  refine rr_iloadn_2 dX1_areApart_15 ?_
  refine rr_callSiD (c_X4_pairAt N _ _ _ _) km_X1_40 rfl rfl (Nat.le_of_ble_eq_true rfl) dX1_areApart_16 ?_
  refine rr_ishl dX1_areApart_19 ?_
  refine rr_ior dX1_areApart_20 ?_
  refine rr_istoren_1 dX1_areApart_21 rfl ?_
  refine rr_iincC_2 1 2 dX1_areApart_22 (by decide) (by decide) rfl ?_
  refine rr_goto 4 dX1_areApart_25 (by decide) ?_
  refine rr_iloadn_2 dX1_areApart_4 ?_
  refine rr_iconst (v := 4) dX1_areApart_5 (by decide) ?_
  refine rr_icmp_ge 28 dX1_areApart_6 (by decide) (fun h6_2 => absurd h6_2 (by decide)) (fun _ => ?_)
  refine rr_iloadn_1 dX1_areApart_9 ?_
  refine rr_iconst (v := 1) dX1_areApart_10 (by decide) ?_
  refine rr_aloadn_0 dX1_areApart_11 ?_
  refine rr_geti dX1_areApart_12 kf_X1_37 (by omega) rfl rfl ?_
  refine rr_iloadn_2 dX1_areApart_15 ?_
  refine rr_callSiD (c_X4_pairAt N _ _ _ _) km_X1_40 rfl rfl (Nat.le_of_ble_eq_true rfl) dX1_areApart_16 ?_
  refine rr_ishl dX1_areApart_19 ?_
  refine rr_ior dX1_areApart_20 ?_
  refine rr_istoren_1 dX1_areApart_21 rfl ?_
  refine rr_iincC_2 1 3 dX1_areApart_22 (by decide) (by decide) rfl ?_
  refine rr_goto 4 dX1_areApart_25 (by decide) ?_
  refine rr_iloadn_2 dX1_areApart_4 ?_
  refine rr_iconst (v := 4) dX1_areApart_5 (by decide) ?_
  refine rr_icmp_ge 28 dX1_areApart_6 (by decide) (fun h6_3 => absurd h6_3 (by decide)) (fun _ => ?_)
  refine rr_iloadn_1 dX1_areApart_9 ?_
  refine rr_iconst (v := 1) dX1_areApart_10 (by decide) ?_
  refine rr_aloadn_0 dX1_areApart_11 ?_
  refine rr_geti dX1_areApart_12 kf_X1_37 (by omega) rfl rfl ?_
  refine rr_iloadn_2 dX1_areApart_15 ?_
  refine rr_callSiD (c_X4_pairAt N _ _ _ _) km_X1_40 rfl rfl (Nat.le_of_ble_eq_true rfl) dX1_areApart_16 ?_
  refine rr_ishl dX1_areApart_19 ?_
  refine rr_ior dX1_areApart_20 ?_
  refine rr_istoren_1 dX1_areApart_21 rfl ?_
  refine rr_iincC_2 1 4 dX1_areApart_22 (by decide) (by decide) rfl ?_
  refine rr_goto 4 dX1_areApart_25 (by decide) ?_
  refine rr_iloadn_2 dX1_areApart_4 ?_
  refine rr_iconst (v := 4) dX1_areApart_5 (by decide) ?_
  refine rr_icmp_ge 28 dX1_areApart_6 (by decide) (fun _ => ?_) (fun h6_4 => absurd h6_4 (by decide))
  refine rr_iloadn_1 dX1_areApart_28 ?_
  refine rr_callSiD (c_J6_bitCount_0f7a4 N _ _ _) km_X1_44 rfl rfl (Nat.le_of_ble_eq_true rfl) dX1_areApart_29 ?_
  refine rr_iconst (v := 4) dX1_areApart_32 (by decide) ?_
  refine rr_icmp_ne 40 dX1_areApart_33 (by decide) (fun h33 => ?_) (fun h33 => ?_)
  · refine rr_iconst (v := 0) dX1_areApart_40 (by decide) ?_
    exact rr_zret dX1_areApart_41 (by decide) ⟨by simp_all [ps_tak], rfl⟩
  · refine rr_iconst (v := 1) dX1_areApart_36 (by decide) ?_
    refine rr_goto 41 dX1_areApart_37 (by decide) ?_
    exact rr_zret dX1_areApart_41 (by decide) ⟨by simp_all [ps_tak], rfl⟩
set_option maxHeartbeats 4000000 in
set_option maxRecDepth 100000 in
theorem c_tells_n (N d : Nat) (σ : rd_S) (hN : 33 ≤ N) (n : Nat) (hn : ps_at σ n) (h : n = 0 ∨ ∃ a, ps_run (σ 2) n 201 0 ps_0 = .inl a) : rd_T N (d + 5) yX1_tellsDance cX1_tellsDance 1 (some .boolean) [.ref 1] σ (rd_is (some (.int 0)) σ) := by
  refine rd_start RX1 [.ref 1] rfl (by decide +kernel) rfl (Nat.le_of_ble_eq_true rfl) ?_
  have h11 := hn.1
  have hn2 := hn.2
  refine rr_aloadn_0 dX1_tellsDance_0 ?_
  refine rr_geti dX1_tellsDance_1 kf_X1_15 (by omega) rfl rfl ?_
  rw [h11]
  refine rr_if_eq 16 dX1_tellsDance_4 (by decide) (fun h4 => ?_) (fun h4 => ?_)
  · refine rr_iconst (v := 0) dX1_tellsDance_16 (by decide) ?_
    exact rr_zret dX1_tellsDance_17 (by decide) ⟨rfl, rfl⟩
  · refine rr_aloadn_0 dX1_tellsDance_7 ?_
    refine rr_callViD (c_X1_firstFault N _ _ hN n hn) km_X1_26 rfl rfl (by omega) rfl (Nat.le_of_ble_eq_true rfl) dX1_tellsDance_8 ?_
    refine rr_bipush (v := (-4)) dX1_tellsDance_11 (by decide) ?_
    refine rr_icmp_eq 18 dX1_tellsDance_13 (by decide) (fun h13 => by (rcases h with h | ⟨a, h⟩; { exact absurd (by rw [h]; rfl) h4 }; { rw [h] at h13; exact absurd h13 (fun e => nI_pos (n := a) (by have := ps_run_lt h; omega) (by rw [show nI a = -4 from e]; decide)) })) (fun h13 => ?_)
    refine rr_iconst (v := 0) dX1_tellsDance_16 (by decide) ?_
    exact rr_zret dX1_tellsDance_17 (by decide) ⟨rfl, rfl⟩
set_option maxHeartbeats 4000000 in
set_option maxRecDepth 100000 in
theorem c_tells_s (N d : Nat) (σ : rd_S) (hN : 33 ≤ N) (n : Nat) (hn : ps_at σ n) (h0 : n ≠ 0) (Y : ps_X) (h : ps_run (σ 2) n 201 0 ps_0 = .inr Y) : rd_T N (d + 5) yX1_tellsDance cX1_tellsDance 1 (some .boolean) [.ref 1] σ (rd_is (some (.int (if bc_c (ps_tak Y.2.2.2) = 4 then 1 else 0))) (ps_wr σ Y)) := by
  refine rd_start RX1 [.ref 1] rfl (by decide +kernel) rfl (Nat.le_of_ble_eq_true rfl) ?_
  have h11 := hn.1
  have hn2 := hn.2
  refine rr_aloadn_0 dX1_tellsDance_0 ?_
  refine rr_geti dX1_tellsDance_1 kf_X1_15 (by omega) rfl rfl ?_
  rw [h11]
  refine rr_if_eq 16 dX1_tellsDance_4 (by decide) (fun h4 => absurd h4 (nI_ne0 (by omega) (by omega))) (fun h4 => ?_)
  refine rr_aloadn_0 dX1_tellsDance_7 ?_
  refine rr_callViD (c_X1_firstFault N _ _ hN n hn) km_X1_26 rfl rfl (by omega) rfl (Nat.le_of_ble_eq_true rfl) dX1_tellsDance_8 ?_
  rw [h]
  refine rr_bipush (v := (-4)) dX1_tellsDance_11 (by decide) ?_
  refine rr_icmp_eq 18 dX1_tellsDance_13 (by decide) (fun h13 => ?_) (fun h13 => absurd rfl h13)
  refine rr_aloadn_0 dX1_tellsDance_18 ?_
  refine rr_callVvD (c_X1_readItems N _ _ hN n hn Y h) km_X1_30 rfl rfl (by omega) rfl (Nat.le_of_ble_eq_true rfl) dX1_tellsDance_19 ?_
  refine rr_aloadn_0 dX1_tellsDance_22 ?_
  refine rr_callViD (c_X1_areApart N _ _ hN) km_X1_33 rfl rfl (by omega) rfl (Nat.le_of_ble_eq_true rfl) dX1_tellsDance_23 ?_
  exact rr_zret dX1_tellsDance_26 (by split <;> decide) ⟨by simp [ps_wr], rfl⟩
end
section
/-! ===== RopeDance: what the calls share ===== -/
def hp_rg (lo hi : Int) (i : Int32) : Bool := decide (lo ≤ i.toInt ∧ i.toInt ≤ hi)
theorem hp_m1 : (-1 : Int32).toInt = -1 := rfl
theorem hp_m99 : (-99 : Int32).toInt = -99 := rfl
theorem hp_l0 : (0 : Int32).toInt = 0 := rfl
theorem hp_l1 : (1 : Int32).toInt = 1 := rfl
theorem hp_l2 : (2 : Int32).toInt = 2 := rfl
theorem hp_l3 : (3 : Int32).toInt = 3 := rfl
theorem hp_l4 : (4 : Int32).toInt = 4 := rfl
theorem hp_l5 : (5 : Int32).toInt = 5 := rfl
theorem hp_l6 : (6 : Int32).toInt = 6 := rfl
theorem hp_l7 : (7 : Int32).toInt = 7 := rfl
theorem hp_l8 : (8 : Int32).toInt = 8 := rfl
theorem hp_l9 : (9 : Int32).toInt = 9 := rfl
theorem hp_l10 : (10 : Int32).toInt = 10 := rfl
theorem hp_l11 : (11 : Int32).toInt = 11 := rfl
theorem hp_l12 : (12 : Int32).toInt = 12 := rfl
theorem hp_l60 : (60 : Int32).toInt = 60 := rfl
theorem hp_l99 : (99 : Int32).toInt = 99 := rfl
theorem hp_l126 : (126 : Int32).toInt = 126 := rfl
theorem hp_l32 : (32 : Int32).toInt = 32 := rfl
theorem hp_l9999 : (9999 : Int32).toInt = 9999 := rfl
set_option maxHeartbeats 4000000 in
set_option maxRecDepth 100000 in
theorem c_X4_isDancer (N d : Nat) (σ : rd_S) (i : Int32) : rd_T N (d + 0) yX4_isDancer cX4_isDancer 1 (some .boolean) [.int i] σ (rd_is (some (.int (if hp_rg 0 3 i = true then 1 else 0))) σ) := by
  refine rd_start RX4 [.int i] rfl (by decide +kernel) rfl (Nat.le_of_ble_eq_true rfl) ?_
  refine rr_iloadn_0 dX4_isDancer_0 ?_
  refine rr_if_lt 13 dX4_isDancer_1 (by decide) (fun h1 => ?_) (fun h1 => ?_)
  · refine rr_iconst (v := 0) dX4_isDancer_13 (by decide) ?_
    exact rr_zret dX4_isDancer_14 (by decide) ⟨by first | (rw [if_pos (by simp only [hp_rg, decide_eq_true_eq, Int32.lt_iff_toInt_lt, Int32.le_iff_toInt_le, hp_m1, hp_m99, hp_l0, hp_l1, hp_l2, hp_l3, hp_l4, hp_l5, hp_l6, hp_l7, hp_l8, hp_l9, hp_l10, hp_l11, hp_l12, hp_l60, hp_l99, hp_l126, hp_l32, hp_l9999] at *; omega)]; done) | (rw [if_neg (by simp only [hp_rg, decide_eq_true_eq, Int32.lt_iff_toInt_lt, Int32.le_iff_toInt_le, hp_m1, hp_m99, hp_l0, hp_l1, hp_l2, hp_l3, hp_l4, hp_l5, hp_l6, hp_l7, hp_l8, hp_l9, hp_l10, hp_l11, hp_l12, hp_l60, hp_l99, hp_l126, hp_l32, hp_l9999] at *; omega)]; done), rfl⟩
  · refine rr_iloadn_0 dX4_isDancer_4 ?_
    refine rr_iconst (v := 4) dX4_isDancer_5 (by decide) ?_
    refine rr_icmp_ge 13 dX4_isDancer_6 (by decide) (fun h6 => ?_) (fun h6 => ?_)
    · refine rr_iconst (v := 0) dX4_isDancer_13 (by decide) ?_
      exact rr_zret dX4_isDancer_14 (by decide) ⟨by first | (rw [if_pos (by simp only [hp_rg, decide_eq_true_eq, Int32.lt_iff_toInt_lt, Int32.le_iff_toInt_le, hp_m1, hp_m99, hp_l0, hp_l1, hp_l2, hp_l3, hp_l4, hp_l5, hp_l6, hp_l7, hp_l8, hp_l9, hp_l10, hp_l11, hp_l12, hp_l60, hp_l99, hp_l126, hp_l32, hp_l9999] at *; omega)]; done) | (rw [if_neg (by simp only [hp_rg, decide_eq_true_eq, Int32.lt_iff_toInt_lt, Int32.le_iff_toInt_le, hp_m1, hp_m99, hp_l0, hp_l1, hp_l2, hp_l3, hp_l4, hp_l5, hp_l6, hp_l7, hp_l8, hp_l9, hp_l10, hp_l11, hp_l12, hp_l60, hp_l99, hp_l126, hp_l32, hp_l9999] at *; omega)]; done), rfl⟩
    · refine rr_iconst (v := 1) dX4_isDancer_9 (by decide) ?_
      refine rr_goto 14 dX4_isDancer_10 (by decide) ?_
      exact rr_zret dX4_isDancer_14 (by decide) ⟨by first | (rw [if_pos (by simp only [hp_rg, decide_eq_true_eq, Int32.lt_iff_toInt_lt, Int32.le_iff_toInt_le, hp_m1, hp_m99, hp_l0, hp_l1, hp_l2, hp_l3, hp_l4, hp_l5, hp_l6, hp_l7, hp_l8, hp_l9, hp_l10, hp_l11, hp_l12, hp_l60, hp_l99, hp_l126, hp_l32, hp_l9999] at *; omega)]; done) | (rw [if_neg (by simp only [hp_rg, decide_eq_true_eq, Int32.lt_iff_toInt_lt, Int32.le_iff_toInt_le, hp_m1, hp_m99, hp_l0, hp_l1, hp_l2, hp_l3, hp_l4, hp_l5, hp_l6, hp_l7, hp_l8, hp_l9, hp_l10, hp_l11, hp_l12, hp_l60, hp_l99, hp_l126, hp_l32, hp_l9999] at *; omega)]; done), rfl⟩
set_option maxHeartbeats 4000000 in
set_option maxRecDepth 100000 in
theorem c_X4_isRowIndex (N d : Nat) (σ : rd_S) (i : Int32) : rd_T N (d + 0) yX4_isRowIndex cX4_isRowIndex 1 (some .boolean) [.int i] σ (rd_is (some (.int (if hp_rg (-1) 6 i = true then 1 else 0))) σ) := by
  refine rd_start RX4 [.int i] rfl (by decide +kernel) rfl (Nat.le_of_ble_eq_true rfl) ?_
  refine rr_iloadn_0 dX4_isRowIndex_0 ?_
  refine rr_iconst (v := (-1)) dX4_isRowIndex_1 (by decide) ?_
  refine rr_icmp_lt 15 dX4_isRowIndex_2 (by decide) (fun h2 => ?_) (fun h2 => ?_)
  · refine rr_iconst (v := 0) dX4_isRowIndex_15 (by decide) ?_
    exact rr_zret dX4_isRowIndex_16 (by decide) ⟨by first | (rw [if_pos (by simp only [hp_rg, decide_eq_true_eq, Int32.lt_iff_toInt_lt, Int32.le_iff_toInt_le, hp_m1, hp_m99, hp_l0, hp_l1, hp_l2, hp_l3, hp_l4, hp_l5, hp_l6, hp_l7, hp_l8, hp_l9, hp_l10, hp_l11, hp_l12, hp_l60, hp_l99, hp_l126, hp_l32, hp_l9999] at *; omega)]; done) | (rw [if_neg (by simp only [hp_rg, decide_eq_true_eq, Int32.lt_iff_toInt_lt, Int32.le_iff_toInt_le, hp_m1, hp_m99, hp_l0, hp_l1, hp_l2, hp_l3, hp_l4, hp_l5, hp_l6, hp_l7, hp_l8, hp_l9, hp_l10, hp_l11, hp_l12, hp_l60, hp_l99, hp_l126, hp_l32, hp_l9999] at *; omega)]; done), rfl⟩
  · refine rr_iloadn_0 dX4_isRowIndex_5 ?_
    refine rr_bipush (v := 7) dX4_isRowIndex_6 (by decide) ?_
    refine rr_icmp_ge 15 dX4_isRowIndex_8 (by decide) (fun h8 => ?_) (fun h8 => ?_)
    · refine rr_iconst (v := 0) dX4_isRowIndex_15 (by decide) ?_
      exact rr_zret dX4_isRowIndex_16 (by decide) ⟨by first | (rw [if_pos (by simp only [hp_rg, decide_eq_true_eq, Int32.lt_iff_toInt_lt, Int32.le_iff_toInt_le, hp_m1, hp_m99, hp_l0, hp_l1, hp_l2, hp_l3, hp_l4, hp_l5, hp_l6, hp_l7, hp_l8, hp_l9, hp_l10, hp_l11, hp_l12, hp_l60, hp_l99, hp_l126, hp_l32, hp_l9999] at *; omega)]; done) | (rw [if_neg (by simp only [hp_rg, decide_eq_true_eq, Int32.lt_iff_toInt_lt, Int32.le_iff_toInt_le, hp_m1, hp_m99, hp_l0, hp_l1, hp_l2, hp_l3, hp_l4, hp_l5, hp_l6, hp_l7, hp_l8, hp_l9, hp_l10, hp_l11, hp_l12, hp_l60, hp_l99, hp_l126, hp_l32, hp_l9999] at *; omega)]; done), rfl⟩
    · refine rr_iconst (v := 1) dX4_isRowIndex_11 (by decide) ?_
      refine rr_goto 16 dX4_isRowIndex_12 (by decide) ?_
      exact rr_zret dX4_isRowIndex_16 (by decide) ⟨by first | (rw [if_pos (by simp only [hp_rg, decide_eq_true_eq, Int32.lt_iff_toInt_lt, Int32.le_iff_toInt_le, hp_m1, hp_m99, hp_l0, hp_l1, hp_l2, hp_l3, hp_l4, hp_l5, hp_l6, hp_l7, hp_l8, hp_l9, hp_l10, hp_l11, hp_l12, hp_l60, hp_l99, hp_l126, hp_l32, hp_l9999] at *; omega)]; done) | (rw [if_neg (by simp only [hp_rg, decide_eq_true_eq, Int32.lt_iff_toInt_lt, Int32.le_iff_toInt_le, hp_m1, hp_m99, hp_l0, hp_l1, hp_l2, hp_l3, hp_l4, hp_l5, hp_l6, hp_l7, hp_l8, hp_l9, hp_l10, hp_l11, hp_l12, hp_l60, hp_l99, hp_l126, hp_l32, hp_l9999] at *; omega)]; done), rfl⟩
set_option maxHeartbeats 4000000 in
set_option maxRecDepth 100000 in
theorem c_X4_isRowLength (N d : Nat) (σ : rd_S) (i : Int32) : rd_T N (d + 0) yX4_isRowLength cX4_isRowLength 1 (some .boolean) [.int i] σ (rd_is (some (.int (if hp_rg 0 12 i = true then 1 else 0))) σ) := by
  refine rd_start RX4 [.int i] rfl (by decide +kernel) rfl (Nat.le_of_ble_eq_true rfl) ?_
  refine rr_iloadn_0 dX4_isRowLength_0 ?_
  refine rr_if_lt 14 dX4_isRowLength_1 (by decide) (fun h1 => ?_) (fun h1 => ?_)
  · refine rr_iconst (v := 0) dX4_isRowLength_14 (by decide) ?_
    exact rr_zret dX4_isRowLength_15 (by decide) ⟨by first | (rw [if_pos (by simp only [hp_rg, decide_eq_true_eq, Int32.lt_iff_toInt_lt, Int32.le_iff_toInt_le, hp_m1, hp_m99, hp_l0, hp_l1, hp_l2, hp_l3, hp_l4, hp_l5, hp_l6, hp_l7, hp_l8, hp_l9, hp_l10, hp_l11, hp_l12, hp_l60, hp_l99, hp_l126, hp_l32, hp_l9999] at *; omega)]; done) | (rw [if_neg (by simp only [hp_rg, decide_eq_true_eq, Int32.lt_iff_toInt_lt, Int32.le_iff_toInt_le, hp_m1, hp_m99, hp_l0, hp_l1, hp_l2, hp_l3, hp_l4, hp_l5, hp_l6, hp_l7, hp_l8, hp_l9, hp_l10, hp_l11, hp_l12, hp_l60, hp_l99, hp_l126, hp_l32, hp_l9999] at *; omega)]; done), rfl⟩
  · refine rr_iloadn_0 dX4_isRowLength_4 ?_
    refine rr_bipush (v := 12) dX4_isRowLength_5 (by decide) ?_
    refine rr_icmp_gt 14 dX4_isRowLength_7 (by decide) (fun h7 => ?_) (fun h7 => ?_)
    · refine rr_iconst (v := 0) dX4_isRowLength_14 (by decide) ?_
      exact rr_zret dX4_isRowLength_15 (by decide) ⟨by first | (rw [if_pos (by simp only [hp_rg, decide_eq_true_eq, Int32.lt_iff_toInt_lt, Int32.le_iff_toInt_le, hp_m1, hp_m99, hp_l0, hp_l1, hp_l2, hp_l3, hp_l4, hp_l5, hp_l6, hp_l7, hp_l8, hp_l9, hp_l10, hp_l11, hp_l12, hp_l60, hp_l99, hp_l126, hp_l32, hp_l9999] at *; omega)]; done) | (rw [if_neg (by simp only [hp_rg, decide_eq_true_eq, Int32.lt_iff_toInt_lt, Int32.le_iff_toInt_le, hp_m1, hp_m99, hp_l0, hp_l1, hp_l2, hp_l3, hp_l4, hp_l5, hp_l6, hp_l7, hp_l8, hp_l9, hp_l10, hp_l11, hp_l12, hp_l60, hp_l99, hp_l126, hp_l32, hp_l9999] at *; omega)]; done), rfl⟩
    · refine rr_iconst (v := 1) dX4_isRowLength_10 (by decide) ?_
      refine rr_goto 15 dX4_isRowLength_11 (by decide) ?_
      exact rr_zret dX4_isRowLength_15 (by decide) ⟨by first | (rw [if_pos (by simp only [hp_rg, decide_eq_true_eq, Int32.lt_iff_toInt_lt, Int32.le_iff_toInt_le, hp_m1, hp_m99, hp_l0, hp_l1, hp_l2, hp_l3, hp_l4, hp_l5, hp_l6, hp_l7, hp_l8, hp_l9, hp_l10, hp_l11, hp_l12, hp_l60, hp_l99, hp_l126, hp_l32, hp_l9999] at *; omega)]; done) | (rw [if_neg (by simp only [hp_rg, decide_eq_true_eq, Int32.lt_iff_toInt_lt, Int32.le_iff_toInt_le, hp_m1, hp_m99, hp_l0, hp_l1, hp_l2, hp_l3, hp_l4, hp_l5, hp_l6, hp_l7, hp_l8, hp_l9, hp_l10, hp_l11, hp_l12, hp_l60, hp_l99, hp_l126, hp_l32, hp_l9999] at *; omega)]; done), rfl⟩
set_option maxHeartbeats 4000000 in
set_option maxRecDepth 100000 in
theorem c_X4_areTwo (N d : Nat) (σ : rd_S) (i j : Int32) : rd_T N (d + 1) yX4_areTwo cX4_areTwo 2 (some .boolean) [.int i, .int j] σ (rd_is (some (.int (if hp_rg 0 3 i = true ∧ hp_rg 0 3 j = true ∧ ¬ i = j then 1 else 0))) σ) := by
  refine rd_start RX4 [.int i, .int j] rfl (by decide +kernel) rfl (Nat.le_of_ble_eq_true rfl) ?_
  refine rr_iloadn_0 dX4_areTwo_0 ?_
  refine rr_callSiD (c_X4_isDancer N _ _ _) km_X4_93 rfl rfl (Nat.le_of_ble_eq_true rfl) dX4_areTwo_1 ?_
  refine rr_if_eq 23 dX4_areTwo_4 (by decide) (fun h4 => ?_) (fun h4 => ?_)
  · refine rr_iconst (v := 0) dX4_areTwo_23 (by decide) ?_
    exact rr_zret dX4_areTwo_24 (by decide) ⟨by simp_all, rfl⟩
  · refine rr_iloadn_1 dX4_areTwo_7 ?_
    refine rr_callSiD (c_X4_isDancer N _ _ _) km_X4_93 rfl rfl (Nat.le_of_ble_eq_true rfl) dX4_areTwo_8 ?_
    refine rr_if_eq 23 dX4_areTwo_11 (by decide) (fun h11 => ?_) (fun h11 => ?_)
    · refine rr_iconst (v := 0) dX4_areTwo_23 (by decide) ?_
      exact rr_zret dX4_areTwo_24 (by decide) ⟨by simp_all, rfl⟩
    · refine rr_iloadn_0 dX4_areTwo_14 ?_
      refine rr_iloadn_1 dX4_areTwo_15 ?_
      refine rr_icmp_eq 23 dX4_areTwo_16 (by decide) (fun h16 => ?_) (fun h16 => ?_)
      · refine rr_iconst (v := 0) dX4_areTwo_23 (by decide) ?_
        exact rr_zret dX4_areTwo_24 (by decide) ⟨by simp_all, rfl⟩
      · refine rr_iconst (v := 1) dX4_areTwo_19 (by decide) ?_
        refine rr_goto 24 dX4_areTwo_20 (by decide) ?_
        exact rr_zret dX4_areTwo_24 (by decide) ⟨by simp_all, rfl⟩
set_option maxHeartbeats 4000000 in
set_option maxRecDepth 100000 in
theorem c_X4_drawOf (N d : Nat) (σ : rd_S) (z k : Int32) : rd_T N (d + 0) yX4_drawOf cX4_drawOf 4 (some .int) [.int z, .int k] σ (rd_is (some (.int ((fun x : Int64 => x * x - x * x / 65521 * 65521) (7919 * z.toInt64 + 6151 * k.toInt64 + 1)).toInt32)) σ) := by
  refine rd_start RX4 [.int z, .int k, .retAddr 0, .retAddr 0] rfl (by decide +kernel) rfl (Nat.le_of_ble_eq_true rfl) ?_
  refine rr_ldc2 dX4_drawOf_0 kc_X4_279 ?_
  refine rr_iloadn_0 dX4_drawOf_3 ?_
  refine rr_i2l dX4_drawOf_4 ?_
  refine rr_lmul dX4_drawOf_5 ?_
  refine rr_ldc2 dX4_drawOf_6 kc_X4_281 ?_
  refine rr_iloadn_1 dX4_drawOf_9 ?_
  refine rr_i2l dX4_drawOf_10 ?_
  refine rr_lmul dX4_drawOf_11 ?_
  refine rr_ladd dX4_drawOf_12 ?_
  refine rr_lconst (v := 1) dX4_drawOf_13 (by decide) ?_
  refine rr_ladd dX4_drawOf_14 ?_
  refine rr_lstoren_2 dX4_drawOf_15 rfl ?_
  refine rr_lloadn_2 dX4_drawOf_16 ?_
  refine rr_lloadn_2 dX4_drawOf_17 ?_
  refine rr_lmul dX4_drawOf_18 ?_
  refine rr_ldc2 dX4_drawOf_19 kc_X4_283 ?_
  refine rr_lrem dX4_drawOf_22 (by decide) ?_
  refine rr_l2i dX4_drawOf_23 ?_
  exact rr_iret dX4_drawOf_24 ⟨rfl, rfl⟩
theorem cd_half {x y k : Nat} (hy : y < 2 ^ (k + 1)) (hy0 : 0 < y) (h0 : 0 < x % y) : y % (x % y) < 2 ^ k := by
  have h1 : x % y < y := Nat.mod_lt _ hy0
  have h2 : y % (x % y) < x % y := Nat.mod_lt _ h0
  have h3 : y % (x % y) ≤ y - x % y := by
    rw [Nat.mod_eq_sub_mod (Nat.le_of_lt h1)]
    exact Nat.mod_le _ _
  rw [Nat.pow_succ] at hy
  omega
theorem nI_rem {a b : Nat} (ha : a < 2 ^ 31) (h0 : 0 < b) (hb : b < 2 ^ 31) : nI a - nI a / nI b * nI b = nI (a % b) := pk_rem ha h0 hb
set_option maxHeartbeats 4000000 in
set_option maxRecDepth 100000 in
theorem lp_common (N d : Nat) (σ : rd_S) (w0 w1 : Int32) : ∀ (k j x y : Nat) (w : Value), y < 2 ^ k → k ≤ 31 → x < 2 ^ 31 → j + 2 * k ≤ 100 → rd_W N d RX4 cX4_commonDivisor 6 (some .int) 7 [.int w0, .int w1, .int (nI x), .int (nI y), .int (nI j), w] [] σ (rd_is (some (.int (nI (Nat.gcd x y)))) σ) := by
  intro k
  induction k with
  | zero =>
    intro j x y w hy hk hx hj
    obtain rfl : y = 0 := by simpa using hy
    refine rr_iload_4 dX4_commonDivisor_7 ?_
    refine rr_bipush (v := 100) dX4_commonDivisor_9 (by decide) ?_
    refine rr_icmp_ge 34 dX4_commonDivisor_11 (by decide) (fun h11 => ?_) (fun h11 => ?_)
    · refine rr_iloadn_2 dX4_commonDivisor_34 ?_
      exact rr_iret dX4_commonDivisor_35 ⟨by simp, rfl⟩
    · refine rr_iloadn_3 dX4_commonDivisor_14 ?_
      refine rr_if_eq 34 dX4_commonDivisor_15 (by decide) (fun h15 => ?_) (fun h15 => absurd rfl h15)
      refine rr_iloadn_2 dX4_commonDivisor_34 ?_
      exact rr_iret dX4_commonDivisor_35 ⟨by simp, rfl⟩
  | succ k ih =>
    intro j x y w hy hk hx hj
    have hk31 : 2 ^ (k + 1) ≤ 2 ^ 31 := Nat.pow_le_pow_right (by decide) hk
    rcases Nat.eq_zero_or_pos y with rfl | hy0
    · skip
      refine rr_iload_4 dX4_commonDivisor_7 ?_
      refine rr_bipush (v := 100) dX4_commonDivisor_9 (by decide) ?_
      refine rr_icmp_ge 34 dX4_commonDivisor_11 (by decide) (fun h11 => ?_) (fun h11 => ?_)
      · refine rr_iloadn_2 dX4_commonDivisor_34 ?_
        exact rr_iret dX4_commonDivisor_35 ⟨by simp, rfl⟩
      · refine rr_iloadn_3 dX4_commonDivisor_14 ?_
        refine rr_if_eq 34 dX4_commonDivisor_15 (by decide) (fun h15 => ?_) (fun h15 => absurd rfl h15)
        refine rr_iloadn_2 dX4_commonDivisor_34 ?_
        exact rr_iret dX4_commonDivisor_35 ⟨by simp, rfl⟩
    · have hr : x % y < y := Nat.mod_lt _ hy0
      have hg : Nat.gcd x y = Nat.gcd y (x % y) := by rw [Nat.gcd_comm x y, Nat.gcd_rec y x, Nat.gcd_comm]
      have fin : ∀ (j x : Nat) (w : Value), rd_W N d RX4 cX4_commonDivisor 6 (some .int) 7 [.int w0, .int w1, .int (nI x), .int (nI 0), .int (nI j), w] [] σ (rd_is (some (.int (nI (Nat.gcd x 0)))) σ) := by
        intro j x w
        refine rr_iload_4 dX4_commonDivisor_7 ?_
        refine rr_bipush (v := 100) dX4_commonDivisor_9 (by decide) ?_
        refine rr_icmp_ge 34 dX4_commonDivisor_11 (by decide) (fun h11 => ?_) (fun h11 => ?_)
        · refine rr_iloadn_2 dX4_commonDivisor_34 ?_
          exact rr_iret dX4_commonDivisor_35 ⟨by simp, rfl⟩
        · refine rr_iloadn_3 dX4_commonDivisor_14 ?_
          refine rr_if_eq 34 dX4_commonDivisor_15 (by decide) (fun h15 => ?_) (fun h15 => absurd rfl h15)
          refine rr_iloadn_2 dX4_commonDivisor_34 ?_
          exact rr_iret dX4_commonDivisor_35 ⟨by simp, rfl⟩
      have two : ∀ (j x y : Nat) (w : Value), x < 2 ^ 31 → y < 2 ^ 31 → 0 < y → x % y < 2 ^ k → j + 1 + 2 * k ≤ 100 → rd_W N d RX4 cX4_commonDivisor 6 (some .int) 7 [.int w0, .int w1, .int (nI x), .int (nI y), .int (nI j), w] [] σ (rd_is (some (.int (nI (Nat.gcd x y)))) σ) := by
        intro j x y w hx hyb hy0 hh hj
        have hg : Nat.gcd x y = Nat.gcd y (x % y) := by rw [Nat.gcd_comm x y, Nat.gcd_rec y x, Nat.gcd_comm]
        refine rr_iload_4 dX4_commonDivisor_7 ?_
        refine rr_bipush (v := 100) dX4_commonDivisor_9 (by decide) ?_
        refine rr_icmp_ge 34 dX4_commonDivisor_11 (by decide) (fun h11 => absurd ((nI_le8 (a := 100) (b := j) (by omega) (by omega)).mp h11) (by omega)) (fun h11 => ?_)
        refine rr_iloadn_3 dX4_commonDivisor_14 ?_
        refine rr_if_eq 34 dX4_commonDivisor_15 (by decide) (fun h15 => absurd h15 (nI_ne0 hy0 (by omega))) (fun h15 => ?_)
        refine rr_iloadn_2 dX4_commonDivisor_18 ?_
        refine rr_iloadn_3 dX4_commonDivisor_19 ?_
        refine rr_irem dX4_commonDivisor_20 (nI_ne0 hy0 (by omega)) ?_
        rw [nI_rem hx hy0 (by omega)]
        refine rr_istore_5 dX4_commonDivisor_21 rfl ?_
        refine rr_iloadn_3 dX4_commonDivisor_23 ?_
        refine rr_istoren_2 dX4_commonDivisor_24 rfl ?_
        refine rr_iload_5 dX4_commonDivisor_25 ?_
        refine rr_istoren_3 dX4_commonDivisor_27 rfl ?_
        refine rr_iinc_4 1 dX4_commonDivisor_28 (by decide) rfl ?_
        refine rr_goto 7 dX4_commonDivisor_31 (by decide) ?_
        rw [nI_s j, hg]
        exact ih (j + 1) y (x % y) _ hh (by omega) hyb (by omega)
      refine rr_iload_4 dX4_commonDivisor_7 ?_
      refine rr_bipush (v := 100) dX4_commonDivisor_9 (by decide) ?_
      refine rr_icmp_ge 34 dX4_commonDivisor_11 (by decide) (fun h11 => absurd ((nI_le8 (a := 100) (b := j) (by omega) (by omega)).mp h11) (by omega)) (fun h11 => ?_)
      refine rr_iloadn_3 dX4_commonDivisor_14 ?_
      refine rr_if_eq 34 dX4_commonDivisor_15 (by decide) (fun h15 => absurd h15 (nI_ne0 hy0 (by omega))) (fun h15 => ?_)
      refine rr_iloadn_2 dX4_commonDivisor_18 ?_
      refine rr_iloadn_3 dX4_commonDivisor_19 ?_
      refine rr_irem dX4_commonDivisor_20 (nI_ne0 hy0 (by omega)) ?_
      rw [nI_rem hx hy0 (by omega)]
      refine rr_istore_5 dX4_commonDivisor_21 rfl ?_
      refine rr_iloadn_3 dX4_commonDivisor_23 ?_
      refine rr_istoren_2 dX4_commonDivisor_24 rfl ?_
      refine rr_iload_5 dX4_commonDivisor_25 ?_
      refine rr_istoren_3 dX4_commonDivisor_27 rfl ?_
      refine rr_iinc_4 1 dX4_commonDivisor_28 (by decide) rfl ?_
      refine rr_goto 7 dX4_commonDivisor_31 (by decide) ?_
      rw [nI_s j, hg]
      rcases Nat.eq_zero_or_pos (x % y) with hr0 | hr0
      · rw [hr0]
        exact fin (j + 1) y _
      · exact two (j + 1) y (x % y) _ (by omega) (by omega) hr0 (cd_half hy hy0 hr0) (by omega)
set_option maxHeartbeats 4000000 in
set_option maxRecDepth 100000 in
theorem c_X4_commonDivisor (N d : Nat) (σ : rd_S) (x y : Nat) (hx : x < 2 ^ 31) (hy : y < 2 ^ 31) : rd_T N (d + 0) yX4_commonDivisor cX4_commonDivisor 6 (some .int) [.int (nI x), .int (nI y)] σ (rd_is (some (.int (nI (Nat.gcd x y)))) σ) := by
  refine rd_start RX4 [.int (nI x), .int (nI y), .retAddr 0, .retAddr 0, .retAddr 0, .retAddr 0] rfl (by decide +kernel) rfl (Nat.le_of_ble_eq_true rfl) ?_
  refine rr_iloadn_0 dX4_commonDivisor_0 ?_
  refine rr_istoren_2 dX4_commonDivisor_1 rfl ?_
  refine rr_iloadn_1 dX4_commonDivisor_2 ?_
  refine rr_istoren_3 dX4_commonDivisor_3 rfl ?_
  refine rr_iconst (v := 0) dX4_commonDivisor_4 (by decide) ?_
  refine rr_istore_4 dX4_commonDivisor_5 rfl ?_
  exact lp_common N d σ _ _ 31 0 x y _ hy (by decide) hx (by decide)
def hp_fr (u l : Int32) : Bool := decide ((l.toInt = 0 ∧ u.toInt = 1) ∨ (-99 ≤ u.toInt ∧ u.toInt ≤ 99 ∧ 1 ≤ l.toInt ∧ l.toInt ≤ 99 ∧ Nat.gcd u.toInt.natAbs l.toInt.natAbs = 1))
theorem hp_abs {x : Int32} (h : -2147483648 < x.toInt) : sd_abs x = nI x.toInt.natAbs := by
  apply Int32.toInt_inj.mp
  have hr := Int32.toInt_lt x
  rw [nI_toInt (by omega)]
  unfold sd_abs
  split
  · rename_i h0
    have h0 : (0 : Int32).toInt ≤ x.toInt := Int32.le_iff_toInt_le.mp h0
    have : (0 : Int32).toInt = 0 := rfl
    omega
  · rename_i h0
    have h0 : ¬ (0 : Int32).toInt ≤ x.toInt := fun q => h0 (Int32.le_iff_toInt_le.mpr q)
    have e0 : (0 : Int32).toInt = 0 := rfl
    rw [Int32.toInt_sub, e0]
    have : (0 - x.toInt).bmod (2 ^ 32) = 0 - x.toInt := by
      apply Int.bmod_eq_of_le <;> omega
    omega
theorem hp_nI {x : Int32} (h : 0 ≤ x.toInt) : x = nI x.toInt.natAbs := by
  apply Int32.toInt_inj.mp
  have hr := Int32.toInt_lt x
  rw [nI_toInt (by omega)]
  omega
def hp_frI (u l : Int) : Prop := (l = 0 ∧ u = 1) ∨ (-99 ≤ u ∧ u ≤ 99 ∧ 1 ≤ l ∧ l ≤ 99 ∧ Nat.gcd u.natAbs l.natAbs = 1)
set_option maxHeartbeats 4000000 in
set_option maxRecDepth 100000 in
theorem c_X4_isFraction (N d : Nat) (σ : rd_S) (u l : Int32) : rd_T N (d + 1) yX4_isFraction cX4_isFraction 2 (some .boolean) [.int u, .int l] σ (rd_is (some (.int (if hp_fr u l = true then 1 else 0))) σ) := by
  refine rd_start RX4 [.int u, .int l] rfl (by decide +kernel) rfl (Nat.le_of_ble_eq_true rfl) ?_
  refine rr_iloadn_1 dX4_isFraction_0 ?_
  refine rr_if_ne 15 dX4_isFraction_1 (by decide) (fun h1 => ?_) (fun h1 => ?_)
  · refine rr_iloadn_0 dX4_isFraction_15 ?_
    refine rr_bipush (v := (-99)) dX4_isFraction_16 (by decide) ?_
    refine rr_icmp_lt 54 dX4_isFraction_18 (by decide) (fun h18 => ?_) (fun h18 => ?_)
    · refine rr_iconst (v := 0) dX4_isFraction_54 (by decide) ?_
      exact rr_zret dX4_isFraction_55 (by decide) ⟨by simp only [Int32.lt_iff_toInt_lt, Int32.le_iff_toInt_le, hp_m1, hp_m99, hp_l0, hp_l1, hp_l2, hp_l3, hp_l4, hp_l5, hp_l6, hp_l7, hp_l8, hp_l9, hp_l10, hp_l11, hp_l12, hp_l60, hp_l99, hp_l126, hp_l32, hp_l9999, ← Int32.toInt_inj] at *; first | (rw [if_pos (by simp only [hp_fr, decide_eq_true_eq]; omega)]; done) | (rw [if_neg (by simp only [hp_fr, decide_eq_true_eq]; omega)]; done), rfl⟩
    · refine rr_iloadn_0 dX4_isFraction_21 ?_
      refine rr_bipush (v := 99) dX4_isFraction_22 (by decide) ?_
      refine rr_icmp_gt 54 dX4_isFraction_24 (by decide) (fun h24 => ?_) (fun h24 => ?_)
      · refine rr_iconst (v := 0) dX4_isFraction_54 (by decide) ?_
        exact rr_zret dX4_isFraction_55 (by decide) ⟨by simp only [Int32.lt_iff_toInt_lt, Int32.le_iff_toInt_le, hp_m1, hp_m99, hp_l0, hp_l1, hp_l2, hp_l3, hp_l4, hp_l5, hp_l6, hp_l7, hp_l8, hp_l9, hp_l10, hp_l11, hp_l12, hp_l60, hp_l99, hp_l126, hp_l32, hp_l9999, ← Int32.toInt_inj] at *; first | (rw [if_pos (by simp only [hp_fr, decide_eq_true_eq]; omega)]; done) | (rw [if_neg (by simp only [hp_fr, decide_eq_true_eq]; omega)]; done), rfl⟩
      · refine rr_iloadn_1 dX4_isFraction_27 ?_
        refine rr_iconst (v := 1) dX4_isFraction_28 (by decide) ?_
        refine rr_icmp_lt 54 dX4_isFraction_29 (by decide) (fun h29 => ?_) (fun h29 => ?_)
        · refine rr_iconst (v := 0) dX4_isFraction_54 (by decide) ?_
          exact rr_zret dX4_isFraction_55 (by decide) ⟨by simp only [Int32.lt_iff_toInt_lt, Int32.le_iff_toInt_le, hp_m1, hp_m99, hp_l0, hp_l1, hp_l2, hp_l3, hp_l4, hp_l5, hp_l6, hp_l7, hp_l8, hp_l9, hp_l10, hp_l11, hp_l12, hp_l60, hp_l99, hp_l126, hp_l32, hp_l9999, ← Int32.toInt_inj] at *; first | (rw [if_pos (by simp only [hp_fr, decide_eq_true_eq]; omega)]; done) | (rw [if_neg (by simp only [hp_fr, decide_eq_true_eq]; omega)]; done), rfl⟩
        · refine rr_iloadn_1 dX4_isFraction_32 ?_
          refine rr_bipush (v := 99) dX4_isFraction_33 (by decide) ?_
          refine rr_icmp_gt 54 dX4_isFraction_35 (by decide) (fun h35 => ?_) (fun h35 => ?_)
          · refine rr_iconst (v := 0) dX4_isFraction_54 (by decide) ?_
            exact rr_zret dX4_isFraction_55 (by decide) ⟨by simp only [Int32.lt_iff_toInt_lt, Int32.le_iff_toInt_le, hp_m1, hp_m99, hp_l0, hp_l1, hp_l2, hp_l3, hp_l4, hp_l5, hp_l6, hp_l7, hp_l8, hp_l9, hp_l10, hp_l11, hp_l12, hp_l60, hp_l99, hp_l126, hp_l32, hp_l9999, ← Int32.toInt_inj] at *; first | (rw [if_pos (by simp only [hp_fr, decide_eq_true_eq]; omega)]; done) | (rw [if_neg (by simp only [hp_fr, decide_eq_true_eq]; omega)]; done), rfl⟩
          · simp only [Int32.lt_iff_toInt_lt, Int32.le_iff_toInt_le, hp_m1, hp_m99, hp_l0, hp_l1, hp_l2, hp_l3, hp_l4, hp_l5, hp_l6, hp_l7, hp_l8, hp_l9, hp_l10, hp_l11, hp_l12, hp_l60, hp_l99, hp_l126, hp_l32, hp_l9999, ← Int32.toInt_inj] at h1 h18 h24 h29 h35
            refine rr_iloadn_0 dX4_isFraction_38 ?_
            refine rr_mabs dX4_isFraction_39 kl_X4_285 (Nat.le_of_ble_eq_true rfl) kh_abs ?_
            refine rr_iloadn_1 dX4_isFraction_42 ?_
            rw [show (if 0 ≤ u then u else 0 - u) = nI u.toInt.natAbs from hp_abs (by omega), show (Value.int l) = Value.int (nI l.toInt.natAbs) from congrArg Value.int (hp_nI (by omega))]
            refine rr_callSiD (c_X4_commonDivisor N _ _ _ _ (by omega) (by omega)) km_X4_223 rfl rfl (Nat.le_of_ble_eq_true rfl) dX4_isFraction_43 ?_
            refine rr_iconst (v := 1) dX4_isFraction_46 (by decide) ?_
            have hgb := Nat.gcd_le_right u.toInt.natAbs (show 0 < l.toInt.natAbs by omega)
            have hge : nI (Nat.gcd u.toInt.natAbs l.toInt.natAbs) = 1 ↔ Nat.gcd u.toInt.natAbs l.toInt.natAbs = 1 := nI_eq8 (b := 1) (by omega) (by omega)
            refine rr_icmp_ne 54 dX4_isFraction_47 (by decide) (fun h47 => ?_) (fun h47 => ?_)
            · refine rr_iconst (v := 0) dX4_isFraction_54 (by decide) ?_
              exact rr_zret dX4_isFraction_55 (by decide) ⟨by simp only [Int32.lt_iff_toInt_lt, Int32.le_iff_toInt_le, hp_m1, hp_m99, hp_l0, hp_l1, hp_l2, hp_l3, hp_l4, hp_l5, hp_l6, hp_l7, hp_l8, hp_l9, hp_l10, hp_l11, hp_l12, hp_l60, hp_l99, hp_l126, hp_l32, hp_l9999, ← Int32.toInt_inj] at *; first | (rw [if_pos (by simp only [hp_fr, decide_eq_true_eq]; omega)]; done) | (rw [if_neg (by simp only [hp_fr, decide_eq_true_eq]; omega)]; done), rfl⟩
            · refine rr_iconst (v := 1) dX4_isFraction_50 (by decide) ?_
              refine rr_goto 55 dX4_isFraction_51 (by decide) ?_
              exact rr_zret dX4_isFraction_55 (by decide) ⟨by simp only [Int32.lt_iff_toInt_lt, Int32.le_iff_toInt_le, hp_m1, hp_m99, hp_l0, hp_l1, hp_l2, hp_l3, hp_l4, hp_l5, hp_l6, hp_l7, hp_l8, hp_l9, hp_l10, hp_l11, hp_l12, hp_l60, hp_l99, hp_l126, hp_l32, hp_l9999, ← Int32.toInt_inj] at *; first | (rw [if_pos (by simp only [hp_fr, decide_eq_true_eq]; omega)]; done) | (rw [if_neg (by simp only [hp_fr, decide_eq_true_eq]; omega)]; done), rfl⟩
  · refine rr_iloadn_0 dX4_isFraction_4 ?_
    refine rr_iconst (v := 1) dX4_isFraction_5 (by decide) ?_
    refine rr_icmp_ne 13 dX4_isFraction_6 (by decide) (fun h6 => ?_) (fun h6 => ?_)
    · refine rr_iconst (v := 0) dX4_isFraction_13 (by decide) ?_
      exact rr_zret dX4_isFraction_14 (by decide) ⟨by simp only [← Int32.toInt_inj, hp_m1, hp_m99, hp_l0, hp_l1, hp_l2, hp_l3, hp_l4, hp_l5, hp_l6, hp_l7, hp_l8, hp_l9, hp_l10, hp_l11, hp_l12, hp_l60, hp_l99, hp_l126, hp_l32, hp_l9999] at *; first | (rw [if_pos (by simp only [hp_fr, decide_eq_true_eq]; omega)]; done) | (rw [if_neg (by simp only [hp_fr, decide_eq_true_eq]; omega)]; done), rfl⟩
    · refine rr_iconst (v := 1) dX4_isFraction_9 (by decide) ?_
      refine rr_goto 14 dX4_isFraction_10 (by decide) ?_
      exact rr_zret dX4_isFraction_14 (by decide) ⟨by simp only [← Int32.toInt_inj, hp_m1, hp_m99, hp_l0, hp_l1, hp_l2, hp_l3, hp_l4, hp_l5, hp_l6, hp_l7, hp_l8, hp_l9, hp_l10, hp_l11, hp_l12, hp_l60, hp_l99, hp_l126, hp_l32, hp_l9999] at *; first | (rw [if_pos (by simp only [hp_fr, decide_eq_true_eq]; omega)]; done) | (rw [if_neg (by simp only [hp_fr, decide_eq_true_eq]; omega)]; done), rfl⟩
end
section
set_option maxHeartbeats 4000000 in
set_option maxRecDepth 100000 in
theorem c_X4_takeScript (N d : Nat) (σ : rd_S) (hN : 33 ≤ N) : rd_T N (d + 2) yX4_takeScript cX4_takeScript 1 none [.ref 0] σ (rd_is none (rd_u2 (rd_u2 (rd_u2 (sd_wr (rd_u2 (rd_u2 (rd_u2 σ 0 11 (σ 1 2)) 0 12 (σ 1 3)) 0 13 (σ 1 4)) 3 (sd_begin (ps_ord (σ 1 5)))) 0 10 0) 5 2 0) 15 2 0)) := by
  refine rd_start RX4 [.ref 0] rfl (by decide +kernel) rfl (Nat.le_of_ble_eq_true rfl) ?_
  refine rr_aloadn_0 dX4_takeScript_0 ?_
  refine rr_aloadn_0 dX4_takeScript_1 ?_
  refine rr_getr 1 dX4_takeScript_2 kf_X4_10 (by omega) rfl rfl rfl ?_
  refine rr_geti dX4_takeScript_5 kf_X4_236 (by omega) rfl rfl ?_
  refine rr_puti dX4_takeScript_8 kf_X4_96 if_4_11 (by omega) rfl rfl ?_
  refine rr_aloadn_0 dX4_takeScript_11 ?_
  refine rr_aloadn_0 dX4_takeScript_12 ?_
  refine rr_getr 1 dX4_takeScript_13 kf_X4_10 (by omega) rfl rfl rfl ?_
  refine rr_geti dX4_takeScript_16 kf_X4_239 (by omega) rfl rfl ?_
  refine rr_puti dX4_takeScript_19 kf_X4_120 if_4_12 (by omega) rfl rfl ?_
  refine rr_aloadn_0 dX4_takeScript_22 ?_
  refine rr_aloadn_0 dX4_takeScript_23 ?_
  refine rr_getr 1 dX4_takeScript_24 kf_X4_10 (by omega) rfl rfl rfl ?_
  refine rr_geti dX4_takeScript_27 kf_X4_242 (by omega) rfl rfl ?_
  refine rr_puti dX4_takeScript_30 kf_X4_90 if_4_13 (by omega) rfl rfl ?_
  refine rr_aloadn_0 dX4_takeScript_33 ?_
  refine rr_getr 3 dX4_takeScript_34 kf_X4_19 (by omega) rfl rfl rfl ?_
  refine rr_aloadn_0 dX4_takeScript_37 ?_
  refine rr_getr 1 dX4_takeScript_38 kf_X4_10 (by omega) rfl rfl rfl ?_
  refine rr_callViD (c_X1_orderBits N _ _ hN) km_X4_243 rfl rfl (by omega) rfl (Nat.le_of_ble_eq_true rfl) dX4_takeScript_41 ?_
  refine rr_callVvD (c_X3_begin N _ _ _ _ (by omega) rfl) km_X4_208 rfl rfl (by omega) rfl (Nat.le_of_ble_eq_true rfl) dX4_takeScript_44 ?_
  refine rr_aloadn_0 dX4_takeScript_47 ?_
  refine rr_iconst (v := 0) dX4_takeScript_48 (by decide) ?_
  refine rr_puti dX4_takeScript_49 kf_X4_190 if_4_10 (by omega) rfl rfl ?_
  refine rr_aloadn_0 dX4_takeScript_52 ?_
  refine rr_getr 5 dX4_takeScript_53 kf_X4_31 (by omega) rfl rfl rfl ?_
  refine rr_callVvD (c_X0_clear N _ _ _ (by omega) rfl) km_X4_232 rfl rfl (by omega) rfl (Nat.le_of_ble_eq_true rfl) dX4_takeScript_56 ?_
  refine rr_aloadn_0 dX4_takeScript_59 ?_
  refine rr_getr 15 dX4_takeScript_60 kf_X4_35 (by omega) rfl rfl rfl ?_
  refine rr_callVvD (c_X0_clear N _ _ _ (by omega) rfl) km_X4_232 rfl rfl (by omega) rfl (Nat.le_of_ble_eq_true rfl) dX4_takeScript_63 ?_
  exact rr_vret dX4_takeScript_66 ⟨rfl, by simp [rd_u2]⟩
def fe_br (σ : rd_S) : Nat × Int32 := sr_sk (sr_G σ) (σ 0 11) 7 0 0 (sd_rd σ 3) (8, 0)
def fe_eq (s σ : rd_S) : Prop := ∀ a b, ¬ (21 ≤ a ∧ a ≤ 28) → a ≠ 19 → s a b = σ a b
theorem nI_min (a b : Nat) (ha : a < 1000) (hb : b < 1000) : (if nI b < nI a then nI b else nI a) = nI (min a b) := by
  by_cases h : b < a
  · rw [if_pos ((nI_lt8 hb ha).mpr h), Nat.min_eq_right (by omega)]
  · rw [if_neg (fun q => h ((nI_lt8 hb ha).mp q)), Nat.min_eq_left (by omega)]
set_option maxHeartbeats 4000000 in
set_option maxRecDepth 100000 in
theorem c_X4_figureOfFewest (N d : Nat) (σ : rd_S) (hN : 33 ≤ N) (k : Int32) : rd_T N (d + 12) yX4_figureOfFewest cX4_figureOfFewest 2 (some .int) [.ref 0, .int k] σ (fun r s => r = some (.int (if (fe_br σ).1 ≤ 7 ∧ k < nI (fe_br σ).1 then (if 0 ≤ k then sd_who (fe_br σ).2 k else nI (fe_br σ).1) else -4)) ∧ fe_eq s σ) := by
  refine rd_start RX4 [.ref 0, .int k] rfl (by decide +kernel) rfl (Nat.le_of_ble_eq_true rfl) ?_
  have hle : (fe_br σ).1 ≤ 8 := sr_sk_le _ _ _ _ _ _ _
  refine rr_aloadn_0 dX4_figureOfFewest_0 ?_
  refine rr_getr 19 dX4_figureOfFewest_1 kf_X4_41 (by omega) rfl rfl rfl ?_
  refine rr_aloadn_0 dX4_figureOfFewest_4 ?_
  refine rr_getr 3 dX4_figureOfFewest_5 kf_X4_19 (by omega) rfl rfl rfl ?_
  refine rr_aloadn_0 dX4_figureOfFewest_8 ?_
  refine rr_geti dX4_figureOfFewest_9 kf_X4_96 (by omega) rfl rfl ?_
  refine rr_callVvD (c_X2_startFrom N _ _ hN 3 _ (by omega) rfl) km_X4_169 rfl rfl (by omega) rfl (Nat.le_of_ble_eq_true rfl) dX4_figureOfFewest_12 ?_
  refine rr_aloadn_0 dX4_figureOfFewest_15 ?_
  refine rr_getr 19 dX4_figureOfFewest_16 kf_X4_41 (by omega) rfl rfl rfl ?_
  refine rr_iconst (v := 0) dX4_figureOfFewest_19 (by decide) ?_
  refine rr_iconst (v := 0) dX4_figureOfFewest_20 (by decide) ?_
  refine rr_callSv (c_X2_seek N d hN 7 0 0 _ (8, 0) rfl (by decide) (by simp [rd_u2]; rfl) (by simp [rd_u2])) km_X4_246 rfl rfl (Nat.le_of_ble_eq_true rfl) dX4_figureOfFewest_21 (fun s21 q21 => ?_)
  obtain ⟨-, q7, q8, he⟩ := q21
  have e0 : ∀ τ : rd_S, τ = rd_u2 (rd_u2 (rd_u2 (sd_wr σ 21 (sd_rd σ 3)) 19 1 (σ 0 11)) 19 7 8) 19 8 0 → sr_sk (sr_G τ) (τ 19 1) 7 0 0 (sd_rd τ (21 + 0)) (8, 0) = fe_br σ := by
    intro τ hτ
    have g1 : sr_G τ = sr_G σ := by subst hτ; simp [sr_G, rd_u2, sd_wr]
    have g2 : τ 19 1 = σ 0 11 := by subst hτ; simp [rd_u2]
    have g3 : sd_rd τ (21 + 0) = sd_rd σ 3 := by subst hτ; simp [sd_rd, rd_u2, sd_wr]
    rw [g1, g2, g3]; rfl
  rw [e0 _ rfl] at q7 q8
  have hf : fe_eq s21 σ := by
    intro a b h1 h2
    rw [he a b (by omega) (by omega)]
    simp [rd_u2, sd_wr, h2, show a ≠ 21 by omega]
  refine rr_aloadn_0 dX4_figureOfFewest_24 ?_
  refine rr_getr 19 dX4_figureOfFewest_25 kf_X4_41 (by omega) rfl rfl rfl ?_
  refine rr_callViD (c_X2_isFound N _ _ hN) km_X4_250 rfl rfl (by omega) rfl (Nat.le_of_ble_eq_true rfl) dX4_figureOfFewest_28 ?_
  rw [q7]
  by_cases hq7 : (fe_br σ).1 ≤ 7
  · rw [if_pos (show nI (fe_br σ).1 ≤ 7 from (nI_le8 (b := 7) (by omega) (by omega)).mpr hq7)]
    refine rr_if_eq 45 dX4_figureOfFewest_31 (by decide) (fun h31 => absurd h31 (by decide)) (fun h31 => ?_)
    refine rr_iloadn_1 dX4_figureOfFewest_34 ?_
    refine rr_aloadn_0 dX4_figureOfFewest_35 ?_
    refine rr_getr 19 dX4_figureOfFewest_36 kf_X4_41 (by omega) rfl rfl rfl ?_
    refine rr_geti dX4_figureOfFewest_39 kf_X4_253 (by omega) rfl rfl ?_
    rw [q7]
    refine rr_icmp_lt 48 dX4_figureOfFewest_42 (by decide) (fun h42 => ?_) (fun h42 => ?_)
    · refine rr_iloadn_1 dX4_figureOfFewest_48 ?_
      refine rr_if_ge 62 dX4_figureOfFewest_49 (by decide) (fun h49 => ?_) (fun h49 => ?_)
      · refine rr_aloadn_0 dX4_figureOfFewest_62 ?_
        refine rr_getr 19 dX4_figureOfFewest_63 kf_X4_41 (by omega) rfl rfl rfl ?_
        refine rr_geti dX4_figureOfFewest_66 kf_X4_256 (by omega) rfl rfl ?_
        rw [q8]
        refine rr_iloadn_1 dX4_figureOfFewest_69 ?_
        refine rr_callSiD (c_X4_pairAt N _ _ _ _) km_X4_123 rfl rfl (Nat.le_of_ble_eq_true rfl) dX4_figureOfFewest_70 ?_
        exact rr_iret dX4_figureOfFewest_73 ⟨by rw [if_pos ⟨hq7, h42⟩]; first | (rw [if_pos h49]; done) | (rw [if_neg h49]), hf⟩
      · refine rr_aloadn_0 dX4_figureOfFewest_52 ?_
        refine rr_getr 19 dX4_figureOfFewest_53 kf_X4_41 (by omega) rfl rfl rfl ?_
        refine rr_geti dX4_figureOfFewest_56 kf_X4_253 (by omega) rfl rfl ?_
        rw [q7]
        refine rr_goto 73 dX4_figureOfFewest_59 (by decide) ?_
        exact rr_iret dX4_figureOfFewest_73 ⟨by rw [if_pos ⟨hq7, h42⟩]; first | (rw [if_pos h49]; done) | (rw [if_neg h49]), hf⟩
    · refine rr_bipush (v := (-4)) dX4_figureOfFewest_45 (by decide) ?_
      exact rr_iret dX4_figureOfFewest_47 ⟨by first | (rw [if_neg (fun q => h31 (by first | exact (nI_le8 (b := 7) (by omega) (by omega)).mpr q.1))]; done) | (rw [if_neg (fun q => h42 q.2)]; done), hf⟩
  · rw [if_neg (show ¬ nI (fe_br σ).1 ≤ 7 from fun q => hq7 ((nI_le8 (b := 7) (by omega) (by omega)).mp q))]
    refine rr_if_eq 45 dX4_figureOfFewest_31 (by decide) (fun h31 => ?_) (fun h31 => absurd rfl h31)
    refine rr_bipush (v := (-4)) dX4_figureOfFewest_45 (by decide) ?_
    exact rr_iret dX4_figureOfFewest_47 ⟨by rw [if_neg (fun q => hq7 q.1)], hf⟩
/-- the row's figures from the k-th on, m of them, danced: could all be, and what stands then -/
def tr_go (fg kb : Int32) : Nat → Nat → sd_D → Bool × sd_D
  | 0, _, D => (true, D)
  | m + 1, k, D => match sd_st D (sd_who fg (nI k)) kb with
    | none => (false, D)
    | some E => tr_go fg kb m (k + 1) E
set_option maxHeartbeats 4000000 in
set_option maxRecDepth 100000 in
theorem lp_tryRow (N d : Nat) (hN : 33 ≤ N) (σ : rd_S) (n kb : Int32) : ∀ (m k : Nat) (D : sd_D), k + m < 1000 → rd_W N (d + 3) RX4 cX4_tryRow 5 (some .boolean) 23 [.ref 0, .int n, .int kb, .int (nI (k + m)), .int (nI k)] [] (sd_wr σ 4 D) (rd_is (some (.int (if (tr_go (σ 0 12) kb m k D).1 = true then 1 else 0))) (sd_wr σ 4 (tr_go (σ 0 12) kb m k D).2)) := by
  intro m
  induction m with
  | zero =>
    intro k D hk
    refine rr_iload_4 dX4_tryRow_23 ?_
    refine rr_iloadn_3 dX4_tryRow_25 ?_
    refine rr_icmp_ge 57 dX4_tryRow_26 (by decide) (fun h26 => ?_) (fun h26 => absurd (nI_le (Nat.le_refl _) (by omega)) h26)
    refine rr_iconst (v := 1) dX4_tryRow_57 (by decide) ?_
    exact rr_zret dX4_tryRow_58 (by decide) ⟨by simp [tr_go], by simp [tr_go]⟩
  | succ m ih =>
    intro k D hk
    refine rr_iload_4 dX4_tryRow_23 ?_
    refine rr_iloadn_3 dX4_tryRow_25 ?_
    refine rr_icmp_ge 57 dX4_tryRow_26 (by decide) (fun h26 => absurd ((nI_le8 (by omega) (by omega)).mp h26) (by omega)) (fun h26 => ?_)
    refine rr_aloadn_0 dX4_tryRow_29 ?_
    refine rr_getr 4 dX4_tryRow_30 kf_X4_23 (by omega) rfl rfl rfl ?_
    refine rr_aloadn_0 dX4_tryRow_33 ?_
    refine rr_geti dX4_tryRow_34 kf_X4_120 (by omega) rfl rfl ?_
    rw [show ∀ b, sd_wr σ 4 D 0 b = σ 0 b from fun b => sd_wr_ne D (by decide)]
    refine rr_iload_4 dX4_tryRow_37 ?_
    refine rr_callSiD (c_X4_pairAt N _ _ _ _) km_X4_123 rfl rfl (Nat.le_of_ble_eq_true rfl) dX4_tryRow_39 ?_
    refine rr_iloadn_2 dX4_tryRow_42 ?_
    rcases hst : sd_st D (sd_who (σ 0 12) (nI k)) kb with _ | E
    · refine rr_callViD (c_step_n N _ _ _ _ _ (by omega) rfl (by rw [sd_rd_wr]; exact hst)) km_X4_136 rfl rfl (by omega) rfl (Nat.le_of_ble_eq_true rfl) dX4_tryRow_43 ?_
      refine rr_if_ne 51 dX4_tryRow_46 (by decide) (fun h46 => absurd h46 (by decide)) (fun _ => ?_)
      refine rr_iconst (v := 0) dX4_tryRow_49 (by decide) ?_
      exact rr_zret dX4_tryRow_50 (by decide) ⟨by simp [tr_go, hst], by simp [tr_go, hst]⟩
    · refine rr_callViD (c_step_s N _ _ _ _ _ (by omega) rfl (D' := E) (by rw [sd_rd_wr]; exact hst)) km_X4_136 rfl rfl (by omega) rfl (Nat.le_of_ble_eq_true rfl) dX4_tryRow_43 ?_
      refine rr_if_ne 51 dX4_tryRow_46 (by decide) (fun _ => ?_) (fun h46 => absurd h46 (by decide))
      refine rr_iinc_4 1 dX4_tryRow_51 (by decide) rfl ?_
      refine rr_goto 23 dX4_tryRow_54 (by decide) ?_
      rw [nI_s k, sd_wr_wr, show k + (m + 1) = (k + 1) + m by omega]
      rw [show tr_go (σ 0 12) kb (m + 1) k D = tr_go (σ 0 12) kb m (k + 1) E by simp [tr_go, hst]]
      exact ih (k + 1) E (by omega)
set_option maxHeartbeats 4000000 in
set_option maxRecDepth 100000 in
theorem c_X4_tryRow (N d : Nat) (σ : rd_S) (hN : 33 ≤ N) (n fc : Nat) (kb : Int32) (hf : σ 0 13 = nI fc) (hn : n < 900) (hfc : fc < 900) : rd_T N (d + 3) yX4_tryRow cX4_tryRow 5 (some .boolean) [.ref 0, .int (nI n), .int kb] σ (rd_is (some (.int (if (tr_go (σ 0 12) kb (min n fc) 0 (sd_rd σ 3)).1 = true then 1 else 0))) (sd_wr σ 4 (tr_go (σ 0 12) kb (min n fc) 0 (sd_rd σ 3)).2)) := by
  refine rd_start RX4 [.ref 0, .int (nI n), .int kb, .retAddr 0, .retAddr 0] rfl (by decide +kernel) rfl (Nat.le_of_ble_eq_true rfl) ?_
  refine rr_aloadn_0 dX4_tryRow_0 ?_
  refine rr_getr 4 dX4_tryRow_1 kf_X4_23 (by omega) rfl rfl rfl ?_
  refine rr_aloadn_0 dX4_tryRow_4 ?_
  refine rr_getr 3 dX4_tryRow_5 kf_X4_19 (by omega) rfl rfl rfl ?_
  refine rr_callVvD (c_X3_take N _ _ _ _ (by omega) rfl (by omega) rfl) km_X4_177 rfl rfl (by omega) rfl (Nat.le_of_ble_eq_true rfl) dX4_tryRow_8 ?_
  refine rr_iloadn_1 dX4_tryRow_11 ?_
  refine rr_aloadn_0 dX4_tryRow_12 ?_
  refine rr_geti dX4_tryRow_13 kf_X4_90 (by omega) rfl rfl ?_
  rw [show ∀ D b, sd_wr σ 4 D 0 b = σ 0 b from fun D b => sd_wr_ne D (by decide), hf]
  refine rr_mmin dX4_tryRow_16 kl_X4_214 (Nat.le_of_ble_eq_true rfl) kh_min ?_
  rw [nI_min n fc (by omega) (by omega)]
  refine rr_istoren_3 dX4_tryRow_19 rfl ?_
  refine rr_iconst (v := 0) dX4_tryRow_20 (by decide) ?_
  refine rr_istore_4 dX4_tryRow_21 rfl ?_
  have := lp_tryRow N d hN σ (nI n) kb (min n fc) 0 (sd_rd σ 3) (by omega)
  rw [Nat.zero_add] at this
  exact this
/-- all that is seen is so, dancers being of these kinds -/
def ex_ok (σ : rd_S) (fc : Nat) (kb : Int32) (s : Nat) : Bool := (fun q : Bool × sd_D => q.1 && decide (q.2.2.2.1 = σ 30 s ∧ q.2.2.2.2.1 = σ 31 s)) (tr_go (σ 0 12) kb (min (σ 29 s).toNatClampNeg fc) 0 (sd_rd σ 3))
def ex_all (f : Nat → Bool) (k : Nat) : Nat → Bool
  | 0 => true
  | m + 1 => f k && ex_all f (k + 1) m
set_option maxHeartbeats 4000000 in
set_option maxRecDepth 100000 in
theorem lp_explains (N d : Nat) (hN : 33 ≤ N) (σ : rd_S) (kb : Int32) (fc sc : Nat) (hf : σ 0 13 = nI fc) (hfc : fc < 900) (hs : σ 0 10 = nI sc) (hsc : sc ≤ 6) (hsn : ∀ s, s < sc → ∃ n, σ 29 s = nI n ∧ n < 900) : ∀ (m k : Nat) (D : sd_D), k + m = sc → rd_W N (d + 4) RX4 cX4_explainsSeen 3 (some .boolean) 2 [.ref 0, .int kb, .int (nI k)] [] (sd_wr σ 4 D) (fun r u => r = some (.int (if ex_all (ex_ok σ fc kb) k m = true then 1 else 0)) ∧ ∃ E, u = sd_wr σ 4 E) := by
  intro m
  induction m with
  | zero =>
    intro k D hk
    have h10 : sd_wr σ 4 D 0 10 = nI sc := by rw [sd_wr_ne D (by decide)]; exact hs
    refine rr_iloadn_2 dX4_explainsSeen_2 ?_
    refine rr_aloadn_0 dX4_explainsSeen_3 ?_
    refine rr_geti dX4_explainsSeen_4 kf_X4_190 (by omega) rfl rfl ?_
    rw [h10]
    refine rr_icmp_ge 60 dX4_explainsSeen_7 (by decide) (fun h7 => ?_) (fun h7 => absurd (nI_le (by omega) (by omega)) h7)
    refine rr_iconst (v := 1) dX4_explainsSeen_60 (by decide) ?_
    exact rr_zret dX4_explainsSeen_61 (by decide) ⟨by simp [ex_all], D, rfl⟩
  | succ m ih =>
    intro k D hk
    have h10 : sd_wr σ 4 D 0 10 = nI sc := by rw [sd_wr_ne D (by decide)]; exact hs
    obtain ⟨n, hn1, hn2⟩ := hsn k (by omega)
    have e29 : sd_wr σ 4 D 29 k = nI n := by rw [sd_wr_ne D (by decide)]; exact hn1
    have e13 : sd_wr σ 4 D 0 13 = nI fc := by rw [sd_wr_ne D (by decide)]; exact hf
    have e12 : sd_wr σ 4 D 0 12 = σ 0 12 := sd_wr_ne D (by decide)
    have e3 : sd_rd (sd_wr σ 4 D) 3 = sd_rd σ 3 := sd_rd_ne D (by decide)
    have hT := c_X4_tryRow N d (sd_wr σ 4 D) hN n fc kb e13 hn2 hfc
    rw [e12, e3, sd_wr_wr] at hT
    have hok : ex_ok σ fc kb k = ((tr_go (σ 0 12) kb (min n fc) 0 (sd_rd σ 3)).1 && decide ((tr_go (σ 0 12) kb (min n fc) 0 (sd_rd σ 3)).2.2.2.1 = σ 30 k ∧ (tr_go (σ 0 12) kb (min n fc) 0 (sd_rd σ 3)).2.2.2.2.1 = σ 31 k)) := by
      simp [ex_ok, hn1, nI_clamp (show n < 2 ^ 31 by omega)]
    generalize tr_go (σ 0 12) kb (min n fc) 0 (sd_rd σ 3) = q at hT hok
    obtain ⟨b, E⟩ := q
    have e30 : sd_wr σ 4 E 30 k = σ 30 k := sd_wr_ne E (by decide)
    have e31 : sd_wr σ 4 E 31 k = σ 31 k := sd_wr_ne E (by decide)
    dsimp only at hT hok
    refine rr_iloadn_2 dX4_explainsSeen_2 ?_
    refine rr_aloadn_0 dX4_explainsSeen_3 ?_
    refine rr_geti dX4_explainsSeen_4 kf_X4_190 (by omega) rfl rfl ?_
    rw [h10]
    refine rr_icmp_ge 60 dX4_explainsSeen_7 (by decide) (fun h7 => absurd ((nI_le8 (by omega) (by omega)).mp h7) (by omega)) (fun h7 => ?_)
    refine rr_iloadn_2 dX4_explainsSeen_10 ?_
    refine rr_bipush (v := 6) dX4_explainsSeen_11 (by decide) ?_
    refine rr_icmp_ge 60 dX4_explainsSeen_13 (by decide) (fun h13 => absurd ((nI_le8 (a := 6) (b := k) (by omega) (by omega)).mp h13) (by omega)) (fun h13 => ?_)
    refine rr_aloadn_0 dX4_explainsSeen_16 ?_
    refine rr_aloadn_0 dX4_explainsSeen_17 ?_
    refine rr_getr 29 dX4_explainsSeen_18 kf_X4_45 (by omega) rfl rfl rfl ?_
    refine rr_iloadn_2 dX4_explainsSeen_21 ?_
    refine rr_iald (k) dX4_explainsSeen_22 (by omega) rfl rfl (show k < 6 by omega) ?_
    rw [e29]
    refine rr_iloadn_1 dX4_explainsSeen_23 ?_
    cases b
    · refine rr_callViD hT km_X4_180 rfl rfl (by omega) rfl (Nat.le_of_ble_eq_true rfl) dX4_explainsSeen_24 ?_
      refine rr_if_eq 52 dX4_explainsSeen_27 (by decide) (fun h27 => ?_) (fun h27 => absurd (by simp) h27)
      refine rr_iconst (v := 0) dX4_explainsSeen_52 (by decide) ?_
      exact rr_zret dX4_explainsSeen_53 (by decide) ⟨by simp [ex_all, hok], E, rfl⟩
    · refine rr_callViD hT km_X4_180 rfl rfl (by omega) rfl (Nat.le_of_ble_eq_true rfl) dX4_explainsSeen_24 ?_
      refine rr_if_eq 52 dX4_explainsSeen_27 (by decide) (fun h27 => absurd h27 (by simp)) (fun h27 => ?_)
      refine rr_aloadn_0 dX4_explainsSeen_30 ?_
      refine rr_getr 4 dX4_explainsSeen_31 kf_X4_23 (by omega) rfl rfl rfl ?_
      refine rr_aloadn_0 dX4_explainsSeen_34 ?_
      refine rr_getr 30 dX4_explainsSeen_35 kf_X4_49 (by omega) rfl rfl rfl ?_
      refine rr_iloadn_2 dX4_explainsSeen_38 ?_
      refine rr_iald (k) dX4_explainsSeen_39 (by omega) rfl rfl (show k < 6 by omega) ?_
      rw [e30]
      refine rr_aloadn_0 dX4_explainsSeen_40 ?_
      refine rr_getr 31 dX4_explainsSeen_41 kf_X4_52 (by omega) rfl rfl rfl ?_
      refine rr_iloadn_2 dX4_explainsSeen_44 ?_
      refine rr_iald (k) dX4_explainsSeen_45 (by omega) rfl rfl (show k < 6 by omega) ?_
      rw [e31]
      refine rr_callViD (c_X3_isWoundAs N _ _ _ _ _ (by omega) rfl) km_X4_265 rfl rfl (by omega) rfl (Nat.le_of_ble_eq_true rfl) dX4_explainsSeen_46 ?_
      refine rr_if_ne 54 dX4_explainsSeen_49 (by decide) (fun h49 => ?_) (fun h49 => ?_)
      · refine rr_iinc_2 1 dX4_explainsSeen_54 (by decide) rfl ?_
        refine rr_goto 2 dX4_explainsSeen_57 (by decide) ?_
        rw [nI_s k]
        have hz : E.2.2.1 = σ 30 k ∧ E.2.2.2.1 = σ 31 k := Decidable.byContradiction (fun q => h49 (if_neg (by simpa [sd_wr] using q)))
        refine (ih (k + 1) E (by omega)).post (fun r u q => ⟨?_, q.2⟩)
        rw [q.1]
        simp [ex_all, hok, hz]
      · refine rr_iconst (v := 0) dX4_explainsSeen_52 (by decide) ?_
        exact rr_zret dX4_explainsSeen_53 (by decide) ⟨by (have hz : ¬ (E.2.2.1 = σ 30 k ∧ E.2.2.2.1 = σ 31 k) := fun q => by (rw [if_pos (by simpa [sd_wr] using q)] at h49; exact absurd h49 (by decide))); simp [ex_all, hok, hz], E, rfl⟩
set_option maxHeartbeats 4000000 in
set_option maxRecDepth 100000 in
theorem c_X4_explainsSeen (N d : Nat) (σ : rd_S) (hN : 33 ≤ N) (kb : Int32) (fc sc : Nat) (hf : σ 0 13 = nI fc) (hfc : fc < 900) (hs : σ 0 10 = nI sc) (hsc : sc ≤ 6) (hsn : ∀ s, s < sc → ∃ n, σ 29 s = nI n ∧ n < 900) : rd_T N (d + 4) yX4_explainsSeen cX4_explainsSeen 3 (some .boolean) [.ref 0, .int kb] σ (fun r u => r = some (.int (if ex_all (ex_ok σ fc kb) 0 sc = true then 1 else 0)) ∧ ∃ E, u = sd_wr σ 4 E) := by
  refine rd_start RX4 [.ref 0, .int kb, .retAddr 0] rfl (by decide +kernel) rfl (Nat.le_of_ble_eq_true rfl) ?_
  refine rr_iconst (v := 0) dX4_explainsSeen_0 (by decide) ?_
  refine rr_istoren_2 dX4_explainsSeen_1 rfl ?_
  have := lp_explains N d hN σ kb fc sc hf hfc hs hsc hsn sc 0 (sd_rd σ 4) (by omega)
  rw [show sd_wr σ 4 (sd_rd σ 4) = σ by apply sd_ext 4 <;> intros <;> simp_all [sd_wr, sd_rd]] at this
  exact this
end
section
def pk_bits (f : Nat → Bool) : Nat → Nat → Int32 → Int32
  | 0, _, acc => acc
  | m + 1, k, acc => pk_bits f m (k + 1) (if f k = true then acc ||| (1 <<< (nI k &&& 31)) else acc)
/-- what a kinds' call rests on -/
def pk_ok (σ : rd_S) (fc sc : Nat) : Prop := σ 0 13 = nI fc ∧ fc ≤ 12 ∧ σ 0 10 = nI sc ∧ sc ≤ 6 ∧ ∀ s, s < sc → ∃ n, σ 29 s = nI n ∧ n < 900
theorem pk_ok.wr {σ : rd_S} {fc sc : Nat} (h : pk_ok σ fc sc) (D : sd_D) : pk_ok (sd_wr σ 4 D) fc sc := by
  obtain ⟨h1, h2, h3, h4, h5⟩ := h
  refine ⟨by rw [sd_wr_ne D (by decide)]; exact h1, h2, by rw [sd_wr_ne D (by decide)]; exact h3, h4, fun s hs => ?_⟩
  rw [sd_wr_ne D (by decide)]
  exact h5 s hs
def pk_f (σ : rd_S) (fc sc : Nat) (i : Int32) (k : Nat) : Bool := ex_all (ex_ok σ fc (sd_withKind (σ 0 11) i (nI k))) 0 sc
theorem ex_ok_wr (σ : rd_S) (D : sd_D) (fc : Nat) (kb : Int32) : ex_ok (sd_wr σ 4 D) fc kb = ex_ok σ fc kb := by
  funext s
  simp only [ex_ok, sd_rd_ne D (show 3 ≠ 4 by decide), sd_wr_ne D (show 30 ≠ 4 by decide), sd_wr_ne D (show 31 ≠ 4 by decide), sd_wr_ne D (show 29 ≠ 4 by decide), sd_wr_ne D (show 0 ≠ 4 by decide)]
theorem pk_f_wr (σ : rd_S) (D : sd_D) (fc sc : Nat) (i : Int32) : pk_f (sd_wr σ 4 D) fc sc i = pk_f σ fc sc i := by
  funext k
  simp only [pk_f, ex_ok_wr, sd_wr_ne D (show 0 ≠ 4 by decide)]
theorem sd_wr_id (σ : rd_S) (o : Nat) : sd_wr σ o (sd_rd σ o) = σ := by apply sd_ext o <;> intros <;> simp_all [sd_wr, sd_rd]
set_option maxHeartbeats 4000000 in
set_option maxRecDepth 100000 in
theorem lp_possible (N d : Nat) (hN : 33 ≤ N) (σ : rd_S) (i : Int32) (fc sc : Nat) (hp : pk_ok σ fc sc) : ∀ (m k : Nat) (acc : Int32) (D : sd_D), k + m = 6 → rd_W N (d + 5) RX4 cX4_possibleKinds 4 (some .int) 4 [.ref 0, .int i, .int acc, .int (nI k)] [] (sd_wr σ 4 D) (fun r u => r = some (.int (pk_bits (pk_f σ fc sc i) m k acc)) ∧ ∃ E, u = sd_wr σ 4 E) := by
  intro m
  induction m with
  | zero =>
    intro k acc D hk
    obtain rfl : k = 6 := hk
    refine rr_iloadn_3 dX4_possibleKinds_4 ?_
    refine rr_bipush (v := 6) dX4_possibleKinds_5 (by decide) ?_
    refine rr_icmp_ge 38 dX4_possibleKinds_7 (by decide) (fun h7 => ?_) (fun h7 => absurd (by decide) h7)
    refine rr_iloadn_2 dX4_possibleKinds_38 ?_
    exact rr_iret dX4_possibleKinds_39 ⟨rfl, D, rfl⟩
  | succ m ih =>
    intro k acc D hk
    have hp2 := hp.wr D
    obtain ⟨p1, p2, p3, p4, p5⟩ := hp2
    have hq : ex_all (ex_ok (sd_wr σ 4 D) fc (sd_withKind (sd_wr σ 4 D 0 11) i (nI k))) 0 sc = pk_f σ fc sc i k := by rw [ex_ok_wr, sd_wr_ne D (by decide)]; rfl
    refine rr_iloadn_3 dX4_possibleKinds_4 ?_
    refine rr_bipush (v := 6) dX4_possibleKinds_5 (by decide) ?_
    refine rr_icmp_ge 38 dX4_possibleKinds_7 (by decide) (fun h7 => absurd ((nI_le8 (a := 6) (b := k) (by omega) (by omega)).mp h7) (by omega)) (fun h7 => ?_)
    refine rr_aloadn_0 dX4_possibleKinds_10 ?_
    refine rr_aloadn_0 dX4_possibleKinds_11 ?_
    refine rr_geti dX4_possibleKinds_12 kf_X4_96 (by omega) rfl rfl ?_
    refine rr_iloadn_1 dX4_possibleKinds_15 ?_
    refine rr_iloadn_3 dX4_possibleKinds_16 ?_
    refine rr_callSiD (c_X4_withKind N _ _ _ _ _) km_X4_259 rfl rfl (Nat.le_of_ble_eq_true rfl) dX4_possibleKinds_17 ?_
    refine rr_callVi (c_X4_explainsSeen N _ _ hN _ fc sc p1 (by omega) p3 p4 p5) km_X4_262 rfl rfl (by omega) rfl (Nat.le_of_ble_eq_true rfl) dX4_possibleKinds_20 (fun r20 s20 q20 => ?_)
    obtain ⟨hr, E, rfl⟩ := q20
    cases hr
    rw [hq, sd_wr_wr]
    cases hb : pk_f σ fc sc i k
    · rw [if_neg (show ¬ (false = true) by decide)]
      refine rr_if_eq 32 dX4_possibleKinds_23 (by decide) (fun h23 => ?_) (fun h23 => absurd rfl h23)
      refine rr_iinc_3 1 dX4_possibleKinds_32 (by decide) rfl ?_
      refine rr_goto 4 dX4_possibleKinds_35 (by decide) ?_
      rw [nI_s k]
      refine (ih (k + 1) _ E (by omega)).post (fun r u q => ⟨?_, q.2⟩)
      rw [q.1, pk_bits, hb]; rfl
    · rw [if_pos rfl]
      refine rr_if_eq 32 dX4_possibleKinds_23 (by decide) (fun h23 => absurd h23 (by decide)) (fun h23 => ?_)
      refine rr_iloadn_2 dX4_possibleKinds_26 ?_
      refine rr_iconst (v := 1) dX4_possibleKinds_27 (by decide) ?_
      refine rr_iloadn_3 dX4_possibleKinds_28 ?_
      refine rr_ishl dX4_possibleKinds_29 ?_
      refine rr_ior dX4_possibleKinds_30 ?_
      refine rr_istoren_2 dX4_possibleKinds_31 rfl ?_
      refine rr_iinc_3 1 dX4_possibleKinds_32 (by decide) rfl ?_
      refine rr_goto 4 dX4_possibleKinds_35 (by decide) ?_
      rw [nI_s k]
      refine (ih (k + 1) _ E (by omega)).post (fun r u q => ⟨?_, q.2⟩)
      rw [q.1, pk_bits, hb]; rfl
set_option maxHeartbeats 4000000 in
set_option maxRecDepth 100000 in
theorem c_X4_possibleKinds (N d : Nat) (σ : rd_S) (hN : 33 ≤ N) (i : Int32) (fc sc : Nat) (hp : pk_ok σ fc sc) : rd_T N (d + 5) yX4_possibleKinds cX4_possibleKinds 4 (some .int) [.ref 0, .int i] σ (fun r u => r = some (.int (pk_bits (pk_f σ fc sc i) 6 0 0)) ∧ ∃ E, u = sd_wr σ 4 E) := by
  refine rd_start RX4 [.ref 0, .int i, .retAddr 0, .retAddr 0] rfl (by decide +kernel) rfl (Nat.le_of_ble_eq_true rfl) ?_
  refine rr_iconst (v := 0) dX4_possibleKinds_0 (by decide) ?_
  refine rr_istoren_2 dX4_possibleKinds_1 rfl ?_
  refine rr_iconst (v := 0) dX4_possibleKinds_2 (by decide) ?_
  refine rr_istoren_3 dX4_possibleKinds_3 rfl ?_
  have := lp_possible N d hN σ i fc sc hp 6 0 0 (sd_rd σ 4) rfl
  rw [sd_wr_id] at this
  exact this
def pt_n (c : Nat → Int32) (x : Int32) : Nat → Nat → Nat → Nat
  | 0, _, acc => acc
  | m + 1, k, acc => pt_n c x m (k + 1) (if c k = x then acc + 1 else acc)
def pt_of (c : Nat → Int32) (x : Int32) : Nat := if x = 1000000001 then 0 else pt_n c x 6 0 0
theorem pt_n_le (c : Nat → Int32) (x : Int32) : ∀ m k acc, pt_n c x m k acc ≤ acc + m
  | 0, _, _ => Nat.le_refl _
  | m + 1, k, acc => by
    unfold pt_n
    have := pt_n_le c x m (k + 1) (if c k = x then acc + 1 else acc)
    split at this <;> simp_all <;> omega
theorem pt_of_le (c : Nat → Int32) (x : Int32) : pt_of c x ≤ 6 := by
  unfold pt_of
  split
  · omega
  · have := pt_n_le c x 6 0 0; omega
set_option maxHeartbeats 4000000 in
set_option maxRecDepth 100000 in
theorem lp_partOf (N d : Nat) (hN : 33 ≤ N) (σ : rd_S) (x : Int32) : ∀ (m k acc : Nat), k + m = 6 → rd_W N d RX4 cX4_partOf 4 (some .int) 13 [.ref 0, .int x, .int (nI acc), .int (nI k)] [] σ (rd_is (some (.int (nI (pt_n (σ 32) x m k acc)))) σ) := by
  intro m
  induction m with
  | zero =>
    intro k acc hk
    obtain rfl : k = 6 := hk
    refine rr_iloadn_3 dX4_partOf_13 ?_
    refine rr_bipush (v := 6) dX4_partOf_14 (by decide) ?_
    refine rr_icmp_ge 38 dX4_partOf_16 (by decide) (fun h16 => ?_) (fun h16 => absurd (by decide) h16)
    refine rr_iloadn_2 dX4_partOf_38 ?_
    exact rr_iret dX4_partOf_39 ⟨rfl, rfl⟩
  | succ m ih =>
    intro k acc hk
    refine rr_iloadn_3 dX4_partOf_13 ?_
    refine rr_bipush (v := 6) dX4_partOf_14 (by decide) ?_
    refine rr_icmp_ge 38 dX4_partOf_16 (by decide) (fun h16 => absurd ((nI_le8 (a := 6) (b := k) (by omega) (by omega)).mp h16) (by omega)) (fun h16 => ?_)
    refine rr_aloadn_0 dX4_partOf_19 ?_
    refine rr_getr 32 dX4_partOf_20 kf_X4_55 (by omega) rfl rfl rfl ?_
    refine rr_iloadn_3 dX4_partOf_23 ?_
    refine rr_iald (k) dX4_partOf_24 (by omega) rfl rfl (show k < 6 by omega) ?_
    refine rr_iloadn_1 dX4_partOf_25 ?_
    refine rr_icmp_ne 32 dX4_partOf_26 (by decide) (fun h26 => ?_) (fun h26 => ?_)
    · refine rr_iinc_3 1 dX4_partOf_32 (by decide) rfl ?_
      refine rr_goto 13 dX4_partOf_35 (by decide) ?_
      rw [nI_s k, pt_n]
      first | (rw [if_pos h26, nI_s acc]; exact ih _ _ (by omega)) | (rw [if_neg h26]; exact ih _ _ (by omega))
    · refine rr_iinc_2 1 dX4_partOf_29 (by decide) rfl ?_
      refine rr_iinc_3 1 dX4_partOf_32 (by decide) rfl ?_
      refine rr_goto 13 dX4_partOf_35 (by decide) ?_
      rw [nI_s k, pt_n]
      first | (rw [if_pos h26, nI_s acc]; exact ih _ _ (by omega)) | (rw [if_neg h26]; exact ih _ _ (by omega))
set_option maxHeartbeats 4000000 in
set_option maxRecDepth 100000 in
theorem c_X4_partOf (N d : Nat) (σ : rd_S) (hN : 33 ≤ N) (x : Int32) : rd_T N (d + 0) yX4_partOf cX4_partOf 4 (some .int) [.ref 0, .int x] σ (rd_is (some (.int (nI (pt_of (σ 32) x)))) σ) := by
  refine rd_start RX4 [.ref 0, .int x, .retAddr 0, .retAddr 0] rfl (by decide +kernel) rfl (Nat.le_of_ble_eq_true rfl) ?_
  refine rr_iloadn_1 dX4_partOf_0 ?_
  refine rr_ldcw dX4_partOf_1 kc_X4_272 ?_
  refine rr_icmp_ne 9 dX4_partOf_4 (by decide) (fun h4 => ?_) (fun h4 => ?_)
  · refine rr_iconst (v := 0) dX4_partOf_9 (by decide) ?_
    refine rr_istoren_2 dX4_partOf_10 rfl ?_
    refine rr_iconst (v := 0) dX4_partOf_11 (by decide) ?_
    refine rr_istoren_3 dX4_partOf_12 rfl ?_
    rw [pt_of, if_neg h4]
    exact lp_partOf N d hN σ x 6 0 0 rfl
  · refine rr_iconst (v := 0) dX4_partOf_7 (by decide) ?_
    exact rr_iret dX4_partOf_8 ⟨by rw [pt_of, if_pos h4]; rfl, rfl⟩
def gp_c (σ : rd_S) (fc n : Nat) (i po : Int32) (k : Nat) : Int32 := if (po >>> (nI k &&& 31)) &&& 1 = 1 then (fun q : Bool × sd_D => if q.1 = true then q.2.2.2.1 * 10000 + q.2.2.2.2.1 else 1000000000) (tr_go (σ 0 12) (sd_withKind (σ 0 11) i (nI k)) (min n fc) 0 (sd_rd σ 3)) else 1000000001
def gp_st (σ : rd_S) (D : sd_D) (c : Nat → Int32) (k : Nat) : rd_S := fun a b => if a = 32 ∧ b < k then c b else sd_wr σ 4 D a b
def gp_mx (f : Nat → Nat) : Nat → Nat → Nat → Nat
  | 0, _, acc => acc
  | m + 1, k, acc => gp_mx f m (k + 1) (max acc (f k))
theorem gp_st_ne {σ : rd_S} {D : sd_D} {c : Nat → Int32} {k a b : Nat} (h : a ≠ 32) (h4 : a ≠ 4) : gp_st σ D c k a b = σ a b := by simp [gp_st, h, sd_wr, h4]
theorem gp_st_rd {σ : rd_S} {D : sd_D} {c : Nat → Int32} {k o : Nat} (h : o ≠ 32) (h4 : o ≠ 4) : sd_rd (gp_st σ D c k) o = sd_rd σ o := by simp [sd_rd, gp_st_ne h h4]
theorem gp_st_wr (σ : rd_S) (D E : sd_D) (c : Nat → Int32) (k : Nat) : sd_wr (gp_st σ D c k) 4 E = gp_st σ E c k := by
  apply sd_ext 4 <;> intros <;> simp_all [sd_wr, gp_st]
theorem gp_st_s (σ : rd_S) (D : sd_D) (c : Nat → Int32) (k : Nat) : rd_u2 (gp_st σ D c k) 32 k (c k) = gp_st σ D c (k + 1) := by
  funext a b
  simp only [rd_u2, gp_st]
  by_cases ha : a = 32
  · by_cases hb : b = k
    · simp [ha, hb]
    · by_cases hb2 : b < k
      · simp [ha, hb, hb2, show b < k + 1 by omega]
      · simp [ha, hb, hb2, show ¬ b < k + 1 by omega]
  · simp [ha]
set_option maxHeartbeats 4000000 in
set_option maxRecDepth 100000 in
theorem lp_great2 (N d : Nat) (hN : 33 ≤ N) (σ : rd_S) (w1 w2 w3 : Int32) (w6 : Value) : ∀ (m k acc : Nat), k + m = 6 → acc ≤ 6 → rd_W N (d + 1) RX4 cX4_greatestPart 7 (some .int) 80 [.ref 0, .int w1, .int w2, .int w3, .int (nI acc), .int (nI k), w6] [] σ (rd_is (some (.int (nI (gp_mx (fun k => pt_of (σ 32) (σ 32 k)) m k acc)))) σ) := by
  intro m
  induction m with
  | zero =>
    intro k acc hk hacc
    obtain rfl : k = 6 := hk
    refine rr_iload_5 dX4_greatestPart_80 ?_
    refine rr_bipush (v := 6) dX4_greatestPart_82 (by decide) ?_
    refine rr_icmp_ge 111 dX4_greatestPart_84 (by decide) (fun h84 => ?_) (fun h84 => absurd (by decide) h84)
    refine rr_iload_4 dX4_greatestPart_111 ?_
    exact rr_iret dX4_greatestPart_113 ⟨rfl, rfl⟩
  | succ m ih =>
    intro k acc hk hacc
    have hle := pt_of_le (σ 32) (σ 32 k)
    have hmx : (if nI acc < nI (pt_of (σ 32) (σ 32 k)) then nI (pt_of (σ 32) (σ 32 k)) else nI acc) = nI (max acc (pt_of (σ 32) (σ 32 k))) := by
      by_cases h : acc < pt_of (σ 32) (σ 32 k)
      · rw [if_pos ((nI_lt8 (by omega) (by omega)).mpr h), Nat.max_eq_right (by omega)]
      · rw [if_neg (fun q => h ((nI_lt8 (by omega) (by omega)).mp q)), Nat.max_eq_left (by omega)]
    refine rr_iload_5 dX4_greatestPart_80 ?_
    refine rr_bipush (v := 6) dX4_greatestPart_82 (by decide) ?_
    refine rr_icmp_ge 111 dX4_greatestPart_84 (by decide) (fun h84 => absurd ((nI_le8 (a := 6) (b := k) (by omega) (by omega)).mp h84) (by omega)) (fun h84 => ?_)
    refine rr_iload_4 dX4_greatestPart_87 ?_
    refine rr_aloadn_0 dX4_greatestPart_89 ?_
    refine rr_aloadn_0 dX4_greatestPart_90 ?_
    refine rr_getr 32 dX4_greatestPart_91 kf_X4_55 (by omega) rfl rfl rfl ?_
    refine rr_iload_5 dX4_greatestPart_94 ?_
    refine rr_iald (k) dX4_greatestPart_96 (by omega) rfl rfl (show k < 6 by omega) ?_
    refine rr_callViD (c_X4_partOf N _ _ hN _) km_X4_273 rfl rfl (by omega) rfl (Nat.le_of_ble_eq_true rfl) dX4_greatestPart_97 ?_
    refine rr_mmax dX4_greatestPart_100 kl_X4_276 (Nat.le_of_ble_eq_true rfl) kh_max ?_
    rw [hmx]
    refine rr_istore_4 dX4_greatestPart_103 rfl ?_
    refine rr_iinc_5 1 dX4_greatestPart_105 (by decide) rfl ?_
    refine rr_goto 80 dX4_greatestPart_108 (by decide) ?_
    rw [nI_s k, gp_mx]
    exact ih _ _ (by omega) (by omega)
set_option maxHeartbeats 4000000 in
set_option maxRecDepth 100000 in
theorem lp_great1 (N d : Nat) (hN : 33 ≤ N) (σ : rd_S) (i po : Int32) (n fc : Nat) (hf : σ 0 13 = nI fc) (hfc : fc ≤ 12) (hn : n < 900) : ∀ (m k : Nat) (D : sd_D) (w6 : Value), k + m = 6 → rd_W N (d + 4) RX4 cX4_greatestPart 7 (some .int) 6 [.ref 0, .int i, .int po, .int (nI n), .int 0, .int (nI k), w6] [] (gp_st σ D (gp_c σ fc n i po) k) (fun r u => r = some (.int (nI (gp_mx (fun k => pt_of (gp_st σ D (gp_c σ fc n i po) 6 32) (gp_c σ fc n i po k)) 6 0 0))) ∧ ∃ E, u = gp_st σ E (gp_c σ fc n i po) 6) := by
  intro m
  induction m with
  | zero =>
    intro k D w6 hk
    obtain rfl : k = 6 := hk
    refine rr_iload_5 dX4_greatestPart_6 ?_
    refine rr_bipush (v := 6) dX4_greatestPart_8 (by decide) ?_
    refine rr_icmp_ge 77 dX4_greatestPart_10 (by decide) (fun h10 => ?_) (fun h10 => absurd (by decide) h10)
    refine rr_iconst (v := 0) dX4_greatestPart_77 (by decide) ?_
    refine rr_istore_5 dX4_greatestPart_78 rfl ?_
    refine (lp_great2 N (d + 3) hN _ _ _ _ _ 6 0 0 rfl (by decide)).post (fun r u q => ⟨?_, D, q.2⟩)
    rw [q.1]
    rfl
  | succ m ih =>
    intro k D w6 hk
    have e13 : gp_st σ D (gp_c σ fc n i po) k 0 13 = nI fc := by rw [gp_st_ne (by decide) (by decide)]; exact hf
    have hT := c_X4_tryRow N d (gp_st σ D (gp_c σ fc n i po) k) hN n fc (sd_withKind (σ 0 11) i (nI k)) e13 hn (by omega)
    rw [gp_st_ne (by decide) (by decide), gp_st_rd (by decide) (by decide), gp_st_wr] at hT
    have hc : ∀ q, tr_go (σ 0 12) (sd_withKind (σ 0 11) i (nI k)) (min n fc) 0 (sd_rd σ 3) = q → gp_c σ fc n i po k = if (po >>> (nI k &&& 31)) &&& 1 = 1 then (if q.1 = true then q.2.2.2.1 * 10000 + q.2.2.2.2.1 else 1000000000) else 1000000001 := by
      intro q hq
      subst hq
      rfl
    rcases hq : tr_go (σ 0 12) (sd_withKind (σ 0 11) i (nI k)) (min n fc) 0 (sd_rd σ 3) with ⟨b, E⟩
    have hc := hc _ hq
    rw [hq] at hT
    dsimp only at hT hc
    have hne : ∀ E w, gp_mx (fun k => pt_of (gp_st σ E (gp_c σ fc n i po) 6 32) (gp_c σ fc n i po k)) 6 0 0 = w → gp_mx (fun k => pt_of (gp_st σ D (gp_c σ fc n i po) 6 32) (gp_c σ fc n i po k)) 6 0 0 = w := by
      intro E w h
      rw [← h]
      have : gp_st σ D (gp_c σ fc n i po) 6 32 = gp_st σ E (gp_c σ fc n i po) 6 32 := by funext b; simp [gp_st, sd_wr]
      rw [this]
    refine rr_iload_5 dX4_greatestPart_6 ?_
    refine rr_bipush (v := 6) dX4_greatestPart_8 (by decide) ?_
    refine rr_icmp_ge 77 dX4_greatestPart_10 (by decide) (fun h10 => absurd ((nI_le8 (a := 6) (b := k) (by omega) (by omega)).mp h10) (by omega)) (fun h10 => ?_)
    refine rr_aloadn_0 dX4_greatestPart_13 ?_
    refine rr_iloadn_3 dX4_greatestPart_14 ?_
    refine rr_aloadn_0 dX4_greatestPart_15 ?_
    refine rr_geti dX4_greatestPart_16 kf_X4_96 (by omega) rfl rfl ?_
    rw [gp_st_ne (show 0 ≠ 32 by decide) (show 0 ≠ 4 by decide)]
    refine rr_iloadn_1 dX4_greatestPart_19 ?_
    refine rr_iload_5 dX4_greatestPart_20 ?_
    refine rr_callSiD (c_X4_withKind N _ _ _ _ _) km_X4_259 rfl rfl (Nat.le_of_ble_eq_true rfl) dX4_greatestPart_22 ?_
    cases b
    · refine rr_callViD hT km_X4_180 rfl rfl (by omega) rfl (Nat.le_of_ble_eq_true rfl) dX4_greatestPart_25 ?_
      refine rr_if_eq 41 dX4_greatestPart_28 (by decide) (fun h28 => ?_) (fun h28 => absurd (by simp) h28)
      refine rr_ldcw dX4_greatestPart_41 kc_X4_271 ?_
      refine rr_istore_6 dX4_greatestPart_44 rfl ?_
      refine rr_aloadn_0 dX4_greatestPart_46 ?_
      refine rr_getr 32 dX4_greatestPart_47 kf_X4_55 (by omega) rfl rfl rfl ?_
      refine rr_iload_5 dX4_greatestPart_50 ?_
      refine rr_iloadn_2 dX4_greatestPart_52 ?_
      refine rr_iload_5 dX4_greatestPart_53 ?_
      refine rr_ishr dX4_greatestPart_55 ?_
      refine rr_iconst (v := 1) dX4_greatestPart_56 (by decide) ?_
      refine rr_iand dX4_greatestPart_57 ?_
      refine rr_iconst (v := 1) dX4_greatestPart_58 (by decide) ?_
      refine rr_icmp_neJ 67 70 (1000000001) (1000000000) dX4_greatestPart_59 (by decide) (fun h59 k59 => ?_) (fun h59 k59 => ?_) ?_
      · refine rr_ldcw dX4_greatestPart_67 kc_X4_272 ?_
        exact k59
      · refine rr_iload_6 dX4_greatestPart_62 ?_
        refine rr_goto 70 dX4_greatestPart_64 (by decide) ?_
        exact k59
      refine rr_iast (k) dX4_greatestPart_70 (by omega) rfl rfl (show k < 6 by omega) ?_
      refine rr_iinc_5 1 dX4_greatestPart_71 (by decide) rfl ?_
      refine rr_goto 6 dX4_greatestPart_74 (by decide) ?_
      rw [nI_s k]
      refine rd_sub (show _ = gp_st σ E (gp_c σ fc n i po) (k + 1) from ?_) ((ih (k + 1) E _ (by omega)).post (fun r u q => ⟨?_, q.2⟩))
      · rw [← gp_st_s, hc]; rfl
      · rw [q.1, hne E _ rfl]
    · refine rr_callViD hT km_X4_180 rfl rfl (by omega) rfl (Nat.le_of_ble_eq_true rfl) dX4_greatestPart_25 ?_
      refine rr_if_eq 41 dX4_greatestPart_28 (by decide) (fun h28 => absurd h28 (by simp)) (fun h28 => ?_)
      refine rr_aloadn_0 dX4_greatestPart_31 ?_
      refine rr_getr 4 dX4_greatestPart_32 kf_X4_23 (by omega) rfl rfl rfl ?_
      refine rr_callViD (c_X3_woundCode N _ _ _ (by omega) rfl) km_X4_268 rfl rfl (by omega) rfl (Nat.le_of_ble_eq_true rfl) dX4_greatestPart_35 ?_
      refine rr_goto 44 dX4_greatestPart_38 (by decide) ?_
      rw [show gp_st σ E (gp_c σ fc n i po) k 4 2 * 10000 + gp_st σ E (gp_c σ fc n i po) k 4 3 = E.2.2.1 * 10000 + E.2.2.2.1 by simp [gp_st, sd_wr]]
      refine rr_istore_6 dX4_greatestPart_44 rfl ?_
      refine rr_aloadn_0 dX4_greatestPart_46 ?_
      refine rr_getr 32 dX4_greatestPart_47 kf_X4_55 (by omega) rfl rfl rfl ?_
      refine rr_iload_5 dX4_greatestPart_50 ?_
      refine rr_iloadn_2 dX4_greatestPart_52 ?_
      refine rr_iload_5 dX4_greatestPart_53 ?_
      refine rr_ishr dX4_greatestPart_55 ?_
      refine rr_iconst (v := 1) dX4_greatestPart_56 (by decide) ?_
      refine rr_iand dX4_greatestPart_57 ?_
      refine rr_iconst (v := 1) dX4_greatestPart_58 (by decide) ?_
      refine rr_icmp_neJ 67 70 (1000000001) (E.2.2.1 * 10000 + E.2.2.2.1) dX4_greatestPart_59 (by decide) (fun h59 k59 => ?_) (fun h59 k59 => ?_) ?_
      · refine rr_ldcw dX4_greatestPart_67 kc_X4_272 ?_
        exact k59
      · refine rr_iload_6 dX4_greatestPart_62 ?_
        refine rr_goto 70 dX4_greatestPart_64 (by decide) ?_
        exact k59
      refine rr_iast (k) dX4_greatestPart_70 (by omega) rfl rfl (show k < 6 by omega) ?_
      refine rr_iinc_5 1 dX4_greatestPart_71 (by decide) rfl ?_
      refine rr_goto 6 dX4_greatestPart_74 (by decide) ?_
      rw [nI_s k]
      refine rd_sub (show _ = gp_st σ E (gp_c σ fc n i po) (k + 1) from ?_) ((ih (k + 1) E _ (by omega)).post (fun r u q => ⟨?_, q.2⟩))
      · rw [← gp_st_s, hc]; rfl
      · rw [q.1, hne E _ rfl]
set_option maxHeartbeats 4000000 in
set_option maxRecDepth 100000 in
theorem c_X4_greatestPart (N d : Nat) (σ : rd_S) (hN : 33 ≤ N) (i po : Int32) (n fc : Nat) (hf : σ 0 13 = nI fc) (hfc : fc ≤ 12) (hn : n < 900) : rd_T N (d + 4) yX4_greatestPart cX4_greatestPart 7 (some .int) [.ref 0, .int i, .int po, .int (nI n)] σ (fun r u => r = some (.int (nI (gp_mx (fun k => pt_of (fun j => if j < 6 then gp_c σ fc n i po j else σ 32 j) (gp_c σ fc n i po k)) 6 0 0))) ∧ ∃ E, u = gp_st σ E (gp_c σ fc n i po) 6) := by
  refine rd_start RX4 [.ref 0, .int i, .int po, .int (nI n), .retAddr 0, .retAddr 0, .retAddr 0] rfl (by decide +kernel) rfl (Nat.le_of_ble_eq_true rfl) ?_
  refine rr_iconst (v := 0) dX4_greatestPart_0 (by decide) ?_
  refine rr_istore_4 dX4_greatestPart_1 rfl ?_
  refine rr_iconst (v := 0) dX4_greatestPart_3 (by decide) ?_
  refine rr_istore_5 dX4_greatestPart_4 rfl ?_
  have := lp_great1 N d hN σ i po n fc hf hfc hn 6 0 (sd_rd σ 4) (.retAddr 0) rfl
  rw [show gp_st σ (sd_rd σ 4) (gp_c σ fc n i po) 0 = σ by { have := sd_wr_id σ 4; funext a b; simp [gp_st, this] }, show gp_st σ (sd_rd σ 4) (gp_c σ fc n i po) 6 32 = (fun j => if j < 6 then gp_c σ fc n i po j else σ 32 j) by { funext b; simp [gp_st, sd_wr] }] at this
  exact this
end
