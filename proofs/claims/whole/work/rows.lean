section
-- ===== PART A: goes FIRST, ahead of the names: the tables' words, and 'selects' of the private methods out of them =====
/-- a private method of a class that the tables say can be made, by its rows of tables_1 -/
def lw_okq (q : MethodName × Nat) : Prop := (q.1.cls ≠ "java/lang/invoke/MethodHandle" ∧ q.1.cls ≠ "java/lang/invoke/VarHandle") ∧ Cond.instantiable q.1.cls q.2 ∈ tables_1 ∧ Cond.privateMethod q.1 ∈ tables_1 ∧ Cond.instanceMethod q.1 ∈ tables_1
theorem lw_p0 : lw_okq (⟨"PieceSets", "keepState", "()LPieceSets$State;"⟩, 5) := ⟨⟨by decide +kernel, by decide +kernel⟩, List.mem_of_getElem? (i := 11) (by decide +kernel), List.mem_of_getElem? (i := 98) (by decide +kernel), List.mem_of_getElem? (i := 99) (by decide +kernel)⟩
theorem lw_p1 : lw_okq (⟨"PieceSets$State", "become", "(LPieceSets$State;)V"⟩, 3) := ⟨⟨by decide +kernel, by decide +kernel⟩, List.mem_of_getElem? (i := 19) (by decide +kernel), List.mem_of_getElem? (i := 102) (by decide +kernel), List.mem_of_getElem? (i := 103) (by decide +kernel)⟩
theorem lw_p2 : lw_okq (⟨"PieceSets$Numbers", "become", "(LPieceSets$Numbers;)V"⟩, 1) := ⟨⟨by decide +kernel, by decide +kernel⟩, List.mem_of_getElem? (i := 26) (by decide +kernel), List.mem_of_getElem? (i := 106) (by decide +kernel), List.mem_of_getElem? (i := 107) (by decide +kernel)⟩
theorem lw_p3 : lw_okq (⟨"PieceSets$Numbers", "includeAll", "(II)V"⟩, 1) := ⟨⟨by decide +kernel, by decide +kernel⟩, List.mem_of_getElem? (i := 26) (by decide +kernel), List.mem_of_getElem? (i := 114) (by decide +kernel), List.mem_of_getElem? (i := 115) (by decide +kernel)⟩
theorem lw_p4 : lw_okq (⟨"PieceSets$State", "countConversions", "(LPieceSets$Numbers;LPieceSets$Numbers;)V"⟩, 3) := ⟨⟨by decide +kernel, by decide +kernel⟩, List.mem_of_getElem? (i := 19) (by decide +kernel), List.mem_of_getElem? (i := 128) (by decide +kernel), List.mem_of_getElem? (i := 129) (by decide +kernel)⟩
theorem lw_p5 : lw_okq (⟨"PieceSets$Numbers", "kindOf", "(I)I"⟩, 1) := ⟨⟨by decide +kernel, by decide +kernel⟩, List.mem_of_getElem? (i := 26) (by decide +kernel), List.mem_of_getElem? (i := 132) (by decide +kernel), List.mem_of_getElem? (i := 133) (by decide +kernel)⟩
theorem lw_p6 : lw_okq (⟨"PieceSets$Numbers", "countInPiece", "(I)I"⟩, 1) := ⟨⟨by decide +kernel, by decide +kernel⟩, List.mem_of_getElem? (i := 26) (by decide +kernel), List.mem_of_getElem? (i := 136) (by decide +kernel), List.mem_of_getElem? (i := 137) (by decide +kernel)⟩
theorem lw_p7 : lw_okq (⟨"PieceSets$Numbers", "wordAt", "(I)J"⟩, 1) := ⟨⟨by decide +kernel, by decide +kernel⟩, List.mem_of_getElem? (i := 26) (by decide +kernel), List.mem_of_getElem? (i := 140) (by decide +kernel), List.mem_of_getElem? (i := 141) (by decide +kernel)⟩
theorem lw_p8 : lw_okq (⟨"PieceSets$Numbers", "countRuns", "(II)I"⟩, 1) := ⟨⟨by decide +kernel, by decide +kernel⟩, List.mem_of_getElem? (i := 26) (by decide +kernel), List.mem_of_getElem? (i := 150) (by decide +kernel), List.mem_of_getElem? (i := 151) (by decide +kernel)⟩
theorem lw_p9 : lw_okq (⟨"PieceSets$Numbers", "count", "()I"⟩, 1) := ⟨⟨by decide +kernel, by decide +kernel⟩, List.mem_of_getElem? (i := 26) (by decide +kernel), List.mem_of_getElem? (i := 157) (by decide +kernel), List.mem_of_getElem? (i := 158) (by decide +kernel)⟩
theorem lw_p10 : lw_okq (⟨"PieceSets$Numbers", "excludeAll", "(II)V"⟩, 1) := ⟨⟨by decide +kernel, by decide +kernel⟩, List.mem_of_getElem? (i := 26) (by decide +kernel), List.mem_of_getElem? (i := 165) (by decide +kernel), List.mem_of_getElem? (i := 166) (by decide +kernel)⟩
theorem lw_p11 : lw_okq (⟨"PieceSets$Numbers", "turnAll", "(II)V"⟩, 1) := ⟨⟨by decide +kernel, by decide +kernel⟩, List.mem_of_getElem? (i := 26) (by decide +kernel), List.mem_of_getElem? (i := 173) (by decide +kernel), List.mem_of_getElem? (i := 174) (by decide +kernel)⟩
theorem lw_p12 : lw_okq (⟨"PieceSets$Numbers", "countIn", "(II)I"⟩, 1) := ⟨⟨by decide +kernel, by decide +kernel⟩, List.mem_of_getElem? (i := 26) (by decide +kernel), List.mem_of_getElem? (i := 177) (by decide +kernel), List.mem_of_getElem? (i := 178) (by decide +kernel)⟩
theorem lw_p13 : lw_okq (⟨"PieceSets$Numbers", "include", "(I)V"⟩, 1) := ⟨⟨by decide +kernel, by decide +kernel⟩, List.mem_of_getElem? (i := 26) (by decide +kernel), List.mem_of_getElem? (i := 186) (by decide +kernel), List.mem_of_getElem? (i := 187) (by decide +kernel)⟩
theorem lw_p14 : lw_okq (⟨"PieceSets$Numbers", "becomeJoin", "(ILPieceSets$Numbers;LPieceSets$Numbers;)V"⟩, 1) := ⟨⟨by decide +kernel, by decide +kernel⟩, List.mem_of_getElem? (i := 26) (by decide +kernel), List.mem_of_getElem? (i := 195) (by decide +kernel), List.mem_of_getElem? (i := 196) (by decide +kernel)⟩
theorem lw_p15 : lw_okq (⟨"PieceSets$State", "countMeetings", "(LPieceSets$Numbers;LPieceSets$Numbers;)V"⟩, 3) := ⟨⟨by decide +kernel, by decide +kernel⟩, List.mem_of_getElem? (i := 19) (by decide +kernel), List.mem_of_getElem? (i := 202) (by decide +kernel), List.mem_of_getElem? (i := 203) (by decide +kernel)⟩
def lw_privs_1 : List (MethodName × Nat) := [(⟨"PieceSets", "keepState", "()LPieceSets$State;"⟩, 5), (⟨"PieceSets$State", "become", "(LPieceSets$State;)V"⟩, 3), (⟨"PieceSets$Numbers", "become", "(LPieceSets$Numbers;)V"⟩, 1), (⟨"PieceSets$Numbers", "includeAll", "(II)V"⟩, 1), (⟨"PieceSets$State", "countConversions", "(LPieceSets$Numbers;LPieceSets$Numbers;)V"⟩, 3), (⟨"PieceSets$Numbers", "kindOf", "(I)I"⟩, 1), (⟨"PieceSets$Numbers", "countInPiece", "(I)I"⟩, 1), (⟨"PieceSets$Numbers", "wordAt", "(I)J"⟩, 1), (⟨"PieceSets$Numbers", "countRuns", "(II)I"⟩, 1), (⟨"PieceSets$Numbers", "count", "()I"⟩, 1), (⟨"PieceSets$Numbers", "excludeAll", "(II)V"⟩, 1), (⟨"PieceSets$Numbers", "turnAll", "(II)V"⟩, 1), (⟨"PieceSets$Numbers", "countIn", "(II)I"⟩, 1), (⟨"PieceSets$Numbers", "include", "(I)V"⟩, 1), (⟨"PieceSets$Numbers", "becomeJoin", "(ILPieceSets$Numbers;LPieceSets$Numbers;)V"⟩, 1), (⟨"PieceSets$State", "countMeetings", "(LPieceSets$Numbers;LPieceSets$Numbers;)V"⟩, 3)]
theorem lw_r1 : ∀ q ∈ lw_privs_1, lw_okq q := List.forall_mem_cons.mpr ⟨lw_p0, List.forall_mem_cons.mpr ⟨lw_p1, List.forall_mem_cons.mpr ⟨lw_p2, List.forall_mem_cons.mpr ⟨lw_p3, List.forall_mem_cons.mpr ⟨lw_p4, List.forall_mem_cons.mpr ⟨lw_p5, List.forall_mem_cons.mpr ⟨lw_p6, List.forall_mem_cons.mpr ⟨lw_p7, List.forall_mem_cons.mpr ⟨lw_p8, List.forall_mem_cons.mpr ⟨lw_p9, List.forall_mem_cons.mpr ⟨lw_p10, List.forall_mem_cons.mpr ⟨lw_p11, List.forall_mem_cons.mpr ⟨lw_p12, List.forall_mem_cons.mpr ⟨lw_p13, List.forall_mem_cons.mpr ⟨lw_p14, List.forall_mem_cons.mpr ⟨lw_p15, fun _ h => absurd h List.not_mem_nil⟩⟩⟩⟩⟩⟩⟩⟩⟩⟩⟩⟩⟩⟩⟩⟩
theorem lw_p16 : lw_okq (⟨"PieceSets$Numbers", "becomeMoved", "(LPieceSets$Numbers;I)V"⟩, 1) := ⟨⟨by decide +kernel, by decide +kernel⟩, List.mem_of_getElem? (i := 26) (by decide +kernel), List.mem_of_getElem? (i := 210) (by decide +kernel), List.mem_of_getElem? (i := 211) (by decide +kernel)⟩
theorem lw_p17 : lw_okq (⟨"PieceSets$Numbers", "holds", "(I)Z"⟩, 1) := ⟨⟨by decide +kernel, by decide +kernel⟩, List.mem_of_getElem? (i := 26) (by decide +kernel), List.mem_of_getElem? (i := 222) (by decide +kernel), List.mem_of_getElem? (i := 223) (by decide +kernel)⟩
theorem lw_p18 : lw_okq (⟨"PieceSets$Numbers", "nth", "(I)I"⟩, 1) := ⟨⟨by decide +kernel, by decide +kernel⟩, List.mem_of_getElem? (i := 26) (by decide +kernel), List.mem_of_getElem? (i := 234) (by decide +kernel), List.mem_of_getElem? (i := 235) (by decide +kernel)⟩
theorem lw_p19 : lw_okq (⟨"PieceSets", "nthEdge", "(LPieceSets$Numbers;II)I"⟩, 5) := ⟨⟨by decide +kernel, by decide +kernel⟩, List.mem_of_getElem? (i := 11) (by decide +kernel), List.mem_of_getElem? (i := 254) (by decide +kernel), List.mem_of_getElem? (i := 255) (by decide +kernel)⟩
theorem lw_p20 : lw_okq (⟨"PieceSets$Numbers", "detail", "(II)I"⟩, 1) := ⟨⟨by decide +kernel, by decide +kernel⟩, List.mem_of_getElem? (i := 26) (by decide +kernel), List.mem_of_getElem? (i := 262) (by decide +kernel), List.mem_of_getElem? (i := 263) (by decide +kernel)⟩
theorem lw_p21 : lw_okq (⟨"PieceSets$Numbers", "costOf", "(I)I"⟩, 1) := ⟨⟨by decide +kernel, by decide +kernel⟩, List.mem_of_getElem? (i := 26) (by decide +kernel), List.mem_of_getElem? (i := 267) (by decide +kernel), List.mem_of_getElem? (i := 268) (by decide +kernel)⟩
theorem lw_p22 : lw_okq (⟨"PieceSets$Numbers", "writtenByte", "(II)I"⟩, 1) := ⟨⟨by decide +kernel, by decide +kernel⟩, List.mem_of_getElem? (i := 26) (by decide +kernel), List.mem_of_getElem? (i := 280) (by decide +kernel), List.mem_of_getElem? (i := 281) (by decide +kernel)⟩
theorem lw_p23 : lw_okq (⟨"PieceSets$Numbers", "bitmapByte", "(II)I"⟩, 1) := ⟨⟨by decide +kernel, by decide +kernel⟩, List.mem_of_getElem? (i := 26) (by decide +kernel), List.mem_of_getElem? (i := 284) (by decide +kernel), List.mem_of_getElem? (i := 285) (by decide +kernel)⟩
theorem lw_p24 : lw_okq (⟨"PieceSets$Numbers", "nthPlace", "(II)I"⟩, 1) := ⟨⟨by decide +kernel, by decide +kernel⟩, List.mem_of_getElem? (i := 26) (by decide +kernel), List.mem_of_getElem? (i := 289) (by decide +kernel), List.mem_of_getElem? (i := 290) (by decide +kernel)⟩
theorem lw_p25 : lw_okq (⟨"PieceSets$Numbers", "nthBorder", "(II)I"⟩, 1) := ⟨⟨by decide +kernel, by decide +kernel⟩, List.mem_of_getElem? (i := 26) (by decide +kernel), List.mem_of_getElem? (i := 295) (by decide +kernel), List.mem_of_getElem? (i := 296) (by decide +kernel)⟩
theorem lw_p26 : lw_okq (⟨"PieceSets$Buffer", "append", "(I)Z"⟩, 2) := ⟨⟨by decide +kernel, by decide +kernel⟩, List.mem_of_getElem? (i := 53) (by decide +kernel), List.mem_of_getElem? (i := 304) (by decide +kernel), List.mem_of_getElem? (i := 305) (by decide +kernel)⟩
theorem lw_p27 : lw_okq (⟨"PieceSets$Buffer", "parse", "(LPieceSets$Numbers;)I"⟩, 2) := ⟨⟨by decide +kernel, by decide +kernel⟩, List.mem_of_getElem? (i := 53) (by decide +kernel), List.mem_of_getElem? (i := 316) (by decide +kernel), List.mem_of_getElem? (i := 317) (by decide +kernel)⟩
theorem lw_p28 : lw_okq (⟨"PieceSets$Numbers", "becomeEmpty", "()V"⟩, 1) := ⟨⟨by decide +kernel, by decide +kernel⟩, List.mem_of_getElem? (i := 26) (by decide +kernel), List.mem_of_getElem? (i := 320) (by decide +kernel), List.mem_of_getElem? (i := 321) (by decide +kernel)⟩
theorem lw_p29 : lw_okq (⟨"PieceSets$Buffer", "parsePiece", "(IIILPieceSets$Numbers;)I"⟩, 2) := ⟨⟨by decide +kernel, by decide +kernel⟩, List.mem_of_getElem? (i := 53) (by decide +kernel), List.mem_of_getElem? (i := 328) (by decide +kernel), List.mem_of_getElem? (i := 329) (by decide +kernel)⟩
theorem lw_p30 : lw_okq (⟨"PieceSets$Buffer", "parseBitmap", "(IILPieceSets$Numbers;)I"⟩, 2) := ⟨⟨by decide +kernel, by decide +kernel⟩, List.mem_of_getElem? (i := 53) (by decide +kernel), List.mem_of_getElem? (i := 332) (by decide +kernel), List.mem_of_getElem? (i := 333) (by decide +kernel)⟩
theorem lw_p31 : lw_okq (⟨"PieceSets$Buffer", "parseArray", "(IIILPieceSets$Numbers;)I"⟩, 2) := ⟨⟨by decide +kernel, by decide +kernel⟩, List.mem_of_getElem? (i := 53) (by decide +kernel), List.mem_of_getElem? (i := 337) (by decide +kernel), List.mem_of_getElem? (i := 338) (by decide +kernel)⟩
def lw_privs_2 : List (MethodName × Nat) := [(⟨"PieceSets$Numbers", "becomeMoved", "(LPieceSets$Numbers;I)V"⟩, 1), (⟨"PieceSets$Numbers", "holds", "(I)Z"⟩, 1), (⟨"PieceSets$Numbers", "nth", "(I)I"⟩, 1), (⟨"PieceSets", "nthEdge", "(LPieceSets$Numbers;II)I"⟩, 5), (⟨"PieceSets$Numbers", "detail", "(II)I"⟩, 1), (⟨"PieceSets$Numbers", "costOf", "(I)I"⟩, 1), (⟨"PieceSets$Numbers", "writtenByte", "(II)I"⟩, 1), (⟨"PieceSets$Numbers", "bitmapByte", "(II)I"⟩, 1), (⟨"PieceSets$Numbers", "nthPlace", "(II)I"⟩, 1), (⟨"PieceSets$Numbers", "nthBorder", "(II)I"⟩, 1), (⟨"PieceSets$Buffer", "append", "(I)Z"⟩, 2), (⟨"PieceSets$Buffer", "parse", "(LPieceSets$Numbers;)I"⟩, 2), (⟨"PieceSets$Numbers", "becomeEmpty", "()V"⟩, 1), (⟨"PieceSets$Buffer", "parsePiece", "(IIILPieceSets$Numbers;)I"⟩, 2), (⟨"PieceSets$Buffer", "parseBitmap", "(IILPieceSets$Numbers;)I"⟩, 2), (⟨"PieceSets$Buffer", "parseArray", "(IIILPieceSets$Numbers;)I"⟩, 2)]
theorem lw_r2 : ∀ q ∈ lw_privs_2, lw_okq q := List.forall_mem_cons.mpr ⟨lw_p16, List.forall_mem_cons.mpr ⟨lw_p17, List.forall_mem_cons.mpr ⟨lw_p18, List.forall_mem_cons.mpr ⟨lw_p19, List.forall_mem_cons.mpr ⟨lw_p20, List.forall_mem_cons.mpr ⟨lw_p21, List.forall_mem_cons.mpr ⟨lw_p22, List.forall_mem_cons.mpr ⟨lw_p23, List.forall_mem_cons.mpr ⟨lw_p24, List.forall_mem_cons.mpr ⟨lw_p25, List.forall_mem_cons.mpr ⟨lw_p26, List.forall_mem_cons.mpr ⟨lw_p27, List.forall_mem_cons.mpr ⟨lw_p28, List.forall_mem_cons.mpr ⟨lw_p29, List.forall_mem_cons.mpr ⟨lw_p30, List.forall_mem_cons.mpr ⟨lw_p31, fun _ h => absurd h List.not_mem_nil⟩⟩⟩⟩⟩⟩⟩⟩⟩⟩⟩⟩⟩⟩⟩⟩
theorem lw_p32 : lw_okq (⟨"PieceSets$Buffer", "parseRuns", "(IIILPieceSets$Numbers;)I"⟩, 2) := ⟨⟨by decide +kernel, by decide +kernel⟩, List.mem_of_getElem? (i := 53) (by decide +kernel), List.mem_of_getElem? (i := 341) (by decide +kernel), List.mem_of_getElem? (i := 342) (by decide +kernel)⟩
theorem lw_p33 : lw_okq (⟨"PieceSets", "countJoin", "(III)I"⟩, 5) := ⟨⟨by decide +kernel, by decide +kernel⟩, List.mem_of_getElem? (i := 11) (by decide +kernel), List.mem_of_getElem? (i := 352) (by decide +kernel), List.mem_of_getElem? (i := 353) (by decide +kernel)⟩
theorem lw_p34 : lw_okq (⟨"PieceSets", "countSamePieces", "(II)I"⟩, 5) := ⟨⟨by decide +kernel, by decide +kernel⟩, List.mem_of_getElem? (i := 11) (by decide +kernel), List.mem_of_getElem? (i := 356) (by decide +kernel), List.mem_of_getElem? (i := 357) (by decide +kernel)⟩
theorem lw_p35 : lw_okq (⟨"PieceSetsModel", "turns", "(IIII)I"⟩, 8) := ⟨⟨by decide +kernel, by decide +kernel⟩, List.mem_of_getElem? (i := 393) (by decide +kernel), List.mem_of_getElem? (i := 437) (by decide +kernel), List.mem_of_getElem? (i := 438) (by decide +kernel)⟩
theorem lw_p36 : lw_okq (⟨"PieceSetsModel", "act", "()V"⟩, 8) := ⟨⟨by decide +kernel, by decide +kernel⟩, List.mem_of_getElem? (i := 393) (by decide +kernel), List.mem_of_getElem? (i := 441) (by decide +kernel), List.mem_of_getElem? (i := 442) (by decide +kernel)⟩
theorem lw_p37 : lw_okq (⟨"PieceSetsModel", "has", "(II)Z"⟩, 8) := ⟨⟨by decide +kernel, by decide +kernel⟩, List.mem_of_getElem? (i := 393) (by decide +kernel), List.mem_of_getElem? (i := 445) (by decide +kernel), List.mem_of_getElem? (i := 446) (by decide +kernel)⟩
theorem lw_p38 : lw_okq (⟨"PieceSetsModel", "puts", "(IIZ)V"⟩, 8) := ⟨⟨by decide +kernel, by decide +kernel⟩, List.mem_of_getElem? (i := 393) (by decide +kernel), List.mem_of_getElem? (i := 452) (by decide +kernel), List.mem_of_getElem? (i := 453) (by decide +kernel)⟩
theorem lw_p39 : lw_okq (⟨"PieceSetsModel", "converts", "(I)V"⟩, 8) := ⟨⟨by decide +kernel, by decide +kernel⟩, List.mem_of_getElem? (i := 393) (by decide +kernel), List.mem_of_getElem? (i := 456) (by decide +kernel), List.mem_of_getElem? (i := 457) (by decide +kernel)⟩
theorem lw_p40 : lw_okq (⟨"PieceSetsModel", "sizeOf", "(I)I"⟩, 8) := ⟨⟨by decide +kernel, by decide +kernel⟩, List.mem_of_getElem? (i := 393) (by decide +kernel), List.mem_of_getElem? (i := 485) (by decide +kernel), List.mem_of_getElem? (i := 486) (by decide +kernel)⟩
theorem lw_p41 : lw_okq (⟨"PieceSetsModel", "begins", "(II)Z"⟩, 8) := ⟨⟨by decide +kernel, by decide +kernel⟩, List.mem_of_getElem? (i := 393) (by decide +kernel), List.mem_of_getElem? (i := 521) (by decide +kernel), List.mem_of_getElem? (i := 522) (by decide +kernel)⟩
theorem lw_p42 : lw_okq (⟨"PieceSetsModel", "told", "(III)I"⟩, 8) := ⟨⟨by decide +kernel, by decide +kernel⟩, List.mem_of_getElem? (i := 393) (by decide +kernel), List.mem_of_getElem? (i := 533) (by decide +kernel), List.mem_of_getElem? (i := 534) (by decide +kernel)⟩
theorem lw_p43 : lw_okq (⟨"PieceSetsModel", "byteOf", "(III)I"⟩, 8) := ⟨⟨by decide +kernel, by decide +kernel⟩, List.mem_of_getElem? (i := 393) (by decide +kernel), List.mem_of_getElem? (i := 548) (by decide +kernel), List.mem_of_getElem? (i := 549) (by decide +kernel)⟩
theorem lw_p44 : lw_okq (⟨"PieceSetsModel", "wrongAt", "()I"⟩, 8) := ⟨⟨by decide +kernel, by decide +kernel⟩, List.mem_of_getElem? (i := 393) (by decide +kernel), List.mem_of_getElem? (i := 564) (by decide +kernel), List.mem_of_getElem? (i := 565) (by decide +kernel)⟩
theorem lw_p45 : lw_okq (⟨"PieceSetsModel", "readsBitmap", "(I)Z"⟩, 8) := ⟨⟨by decide +kernel, by decide +kernel⟩, List.mem_of_getElem? (i := 393) (by decide +kernel), List.mem_of_getElem? (i := 568) (by decide +kernel), List.mem_of_getElem? (i := 569) (by decide +kernel)⟩
theorem lw_p46 : lw_okq (⟨"PieceSetsModel", "next", "()I"⟩, 8) := ⟨⟨by decide +kernel, by decide +kernel⟩, List.mem_of_getElem? (i := 393) (by decide +kernel), List.mem_of_getElem? (i := 572) (by decide +kernel), List.mem_of_getElem? (i := 573) (by decide +kernel)⟩
theorem lw_p47 : lw_okq (⟨"PieceSetsModel", "takes", "(I)V"⟩, 8) := ⟨⟨by decide +kernel, by decide +kernel⟩, List.mem_of_getElem? (i := 393) (by decide +kernel), List.mem_of_getElem? (i := 576) (by decide +kernel), List.mem_of_getElem? (i := 577) (by decide +kernel)⟩
def lw_privs_3 : List (MethodName × Nat) := [(⟨"PieceSets$Buffer", "parseRuns", "(IIILPieceSets$Numbers;)I"⟩, 2), (⟨"PieceSets", "countJoin", "(III)I"⟩, 5), (⟨"PieceSets", "countSamePieces", "(II)I"⟩, 5), (⟨"PieceSetsModel", "turns", "(IIII)I"⟩, 8), (⟨"PieceSetsModel", "act", "()V"⟩, 8), (⟨"PieceSetsModel", "has", "(II)Z"⟩, 8), (⟨"PieceSetsModel", "puts", "(IIZ)V"⟩, 8), (⟨"PieceSetsModel", "converts", "(I)V"⟩, 8), (⟨"PieceSetsModel", "sizeOf", "(I)I"⟩, 8), (⟨"PieceSetsModel", "begins", "(II)Z"⟩, 8), (⟨"PieceSetsModel", "told", "(III)I"⟩, 8), (⟨"PieceSetsModel", "byteOf", "(III)I"⟩, 8), (⟨"PieceSetsModel", "wrongAt", "()I"⟩, 8), (⟨"PieceSetsModel", "readsBitmap", "(I)Z"⟩, 8), (⟨"PieceSetsModel", "next", "()I"⟩, 8), (⟨"PieceSetsModel", "takes", "(I)V"⟩, 8)]
theorem lw_r3 : ∀ q ∈ lw_privs_3, lw_okq q := List.forall_mem_cons.mpr ⟨lw_p32, List.forall_mem_cons.mpr ⟨lw_p33, List.forall_mem_cons.mpr ⟨lw_p34, List.forall_mem_cons.mpr ⟨lw_p35, List.forall_mem_cons.mpr ⟨lw_p36, List.forall_mem_cons.mpr ⟨lw_p37, List.forall_mem_cons.mpr ⟨lw_p38, List.forall_mem_cons.mpr ⟨lw_p39, List.forall_mem_cons.mpr ⟨lw_p40, List.forall_mem_cons.mpr ⟨lw_p41, List.forall_mem_cons.mpr ⟨lw_p42, List.forall_mem_cons.mpr ⟨lw_p43, List.forall_mem_cons.mpr ⟨lw_p44, List.forall_mem_cons.mpr ⟨lw_p45, List.forall_mem_cons.mpr ⟨lw_p46, List.forall_mem_cons.mpr ⟨lw_p47, fun _ h => absurd h List.not_mem_nil⟩⟩⟩⟩⟩⟩⟩⟩⟩⟩⟩⟩⟩⟩⟩⟩
theorem lw_p48 : lw_okq (⟨"PieceSetsModel", "readsPlaces", "(IZ)Z"⟩, 8) := ⟨⟨by decide +kernel, by decide +kernel⟩, List.mem_of_getElem? (i := 393) (by decide +kernel), List.mem_of_getElem? (i := 580) (by decide +kernel), List.mem_of_getElem? (i := 581) (by decide +kernel)⟩
theorem lw_p49 : lw_okq (⟨"PieceSetsModel", "isKind", "(II)Z"⟩, 8) := ⟨⟨by decide +kernel, by decide +kernel⟩, List.mem_of_getElem? (i := 393) (by decide +kernel), List.mem_of_getElem? (i := 584) (by decide +kernel), List.mem_of_getElem? (i := 585) (by decide +kernel)⟩
theorem lw_p50 : lw_okq (⟨"PieceSetsModel", "comparison", "(III)I"⟩, 8) := ⟨⟨by decide +kernel, by decide +kernel⟩, List.mem_of_getElem? (i := 393) (by decide +kernel), List.mem_of_getElem? (i := 592) (by decide +kernel), List.mem_of_getElem? (i := 593) (by decide +kernel)⟩
def lw_privs_4 : List (MethodName × Nat) := [(⟨"PieceSetsModel", "readsPlaces", "(IZ)Z"⟩, 8), (⟨"PieceSetsModel", "isKind", "(II)Z"⟩, 8), (⟨"PieceSetsModel", "comparison", "(III)I"⟩, 8)]
theorem lw_r4 : ∀ q ∈ lw_privs_4, lw_okq q := List.forall_mem_cons.mpr ⟨lw_p48, List.forall_mem_cons.mpr ⟨lw_p49, List.forall_mem_cons.mpr ⟨lw_p50, fun _ h => absurd h List.not_mem_nil⟩⟩⟩
def lw_privs : List (MethodName × Nat) := lw_privs_1 ++ (lw_privs_2 ++ (lw_privs_3 ++ (lw_privs_4)))
def lw_tbl : List Cond := k2_sels lw_privs ++ tables_1
theorem lw_privs_ok : ∀ q ∈ lw_privs, lw_okq q := by
  show ∀ q ∈ lw_privs_1 ++ (lw_privs_2 ++ (lw_privs_3 ++ (lw_privs_4))), lw_okq q
  exact List.forall_mem_append.mpr ⟨lw_r1, List.forall_mem_append.mpr ⟨lw_r2, List.forall_mem_append.mpr ⟨lw_r3, lw_r4⟩⟩⟩
-- ===== end of PART A; then your names; then what follows =====
end
section
/-! ===== BEGIN words of one list among another's, by their places ===== -/
theorem goodIn_r {big : List Cond} (ws : List Cond) (ps : List Nat) (hp : ws = ps.filterMap (fun i => big[i]?)) (h : ws.all goodWord = true) : GoodIn big ws := by
  intro w hw
  have h1 := List.all_eq_true.mp h w hw
  rw [hp] at hw
  obtain ⟨i, -, hi⟩ := List.mem_filterMap.mp hw
  have hm : w ∈ big := by first | exact List.mem_of_getElem? hi | exact List.getElem?_mem hi
  exact ⟨hm, good_of_word h1⟩
theorem goodIn_app {big a b : List Cond} (ha : GoodIn big a) (hb : GoodIn big b) : GoodIn big (a ++ b) := fun w h => (List.mem_append.mp h).elim (ha w) (hb w)
theorem goodIn_ca {big a b : List Cond} {c : Cond} (ha : GoodIn big (c :: a)) (hb : GoodIn big b) : GoodIn big (c :: (a ++ b)) := fun w h => (List.mem_cons.mp h).elim (fun e => ha w (List.mem_cons.mpr (Or.inl e))) (fun h => (List.mem_append.mp h).elim (fun h => ha w (List.mem_cons.mpr (Or.inr h))) (hb w))
theorem goodIn_sub {big ws : List Cond} (hm : ∀ w ∈ ws, w ∈ big) (h : ws.all goodWord = true) : GoodIn big ws := fun w hw => ⟨hm w hw, good_of_word (List.all_eq_true.mp h w hw)⟩
/-! ===== END ===== -/

/-! ===== BEGIN printed: names, fields, word lists, decode rows ===== -/
def RX0 : String := "PieceSets$Buffer"
def TX0 : u_T := fun k => match k with
  | 0 => ("PieceSets$Buffer", "row", "[I", true)
  | _ => ("PieceSets$Buffer", "length", "I", false)
def tyX0 : Nat → FieldType := fun k => match k with
  | 0 => .array .int
  | _ => .int
abbrev wsX00 : List Cond := u_ws RX0 TX0 2
theorem nmX0 : ∀ a, a < 2 → ∀ b, b < 2 → a ≠ b → (TX0 a).2.1 ≠ (TX0 b).2.1 := by decide +kernel
theorem tyX0_ok : ∀ k, k < 2 → parseFieldDescriptor (TX0 k).2.2.1 = some (tyX0 k) := by decide +kernel
abbrev cX0_init : ByteArray := prog_2_method_1_code
def yX0_init : MethodName := ⟨RX0, "<init>", "()V"⟩
abbrev cX0_append : ByteArray := prog_2_method_2_code
def yX0_append : MethodName := ⟨RX0, "append", "(I)Z"⟩
abbrev cX0_parse : ByteArray := prog_2_method_3_code
def yX0_parse : MethodName := ⟨RX0, "parse", "(LPieceSets$Numbers;)I"⟩
abbrev cX0_parsePiece : ByteArray := prog_2_method_4_code
def yX0_parsePiece : MethodName := ⟨RX0, "parsePiece", "(IIILPieceSets$Numbers;)I"⟩
abbrev cX0_parseArray : ByteArray := prog_2_method_5_code
def yX0_parseArray : MethodName := ⟨RX0, "parseArray", "(IIILPieceSets$Numbers;)I"⟩
abbrev cX0_parseRuns : ByteArray := prog_2_method_6_code
def yX0_parseRuns : MethodName := ⟨RX0, "parseRuns", "(IIILPieceSets$Numbers;)I"⟩
abbrev cX0_parseBitmap : ByteArray := prog_2_method_7_code
def yX0_parseBitmap : MethodName := ⟨RX0, "parseBitmap", "(IILPieceSets$Numbers;)I"⟩
def RX1 : String := "PieceSets$Numbers"
def TX1 : u_T := fun k => match k with
  | _ => ("PieceSets$Numbers", "words", "[J", true)
def tyX1 : Nat → FieldType := fun k => match k with
  | _ => .array .long
abbrev wsX10 : List Cond := u_ws RX1 TX1 1
theorem nmX1 : ∀ a, a < 1 → ∀ b, b < 1 → a ≠ b → (TX1 a).2.1 ≠ (TX1 b).2.1 := by decide +kernel
theorem tyX1_ok : ∀ k, k < 1 → parseFieldDescriptor (TX1 k).2.2.1 = some (tyX1 k) := by decide +kernel
abbrev cX1_init : ByteArray := prog_3_method_1_code
def yX1_init : MethodName := ⟨RX1, "<init>", "()V"⟩
abbrev cX1_become : ByteArray := prog_3_method_2_code
def yX1_become : MethodName := ⟨RX1, "become", "(LPieceSets$Numbers;)V"⟩
abbrev cX1_becomeEmpty : ByteArray := prog_3_method_3_code
def yX1_becomeEmpty : MethodName := ⟨RX1, "becomeEmpty", "()V"⟩
abbrev cX1_becomeJoin : ByteArray := prog_3_method_4_code
def yX1_becomeJoin : MethodName := ⟨RX1, "becomeJoin", "(ILPieceSets$Numbers;LPieceSets$Numbers;)V"⟩
abbrev cX1_join : ByteArray := prog_3_method_5_code
def yX1_join : MethodName := ⟨RX1, "join", "(IJJ)J"⟩
abbrev cX1_becomeMoved : ByteArray := prog_3_method_6_code
def yX1_becomeMoved : MethodName := ⟨RX1, "becomeMoved", "(LPieceSets$Numbers;I)V"⟩
abbrev cX1_wordAt : ByteArray := prog_3_method_7_code
def yX1_wordAt : MethodName := ⟨RX1, "wordAt", "(I)J"⟩
abbrev cX1_include : ByteArray := prog_3_method_8_code
def yX1_include : MethodName := ⟨RX1, "include", "(I)V"⟩
abbrev cX1_holds : ByteArray := prog_3_method_9_code
def yX1_holds : MethodName := ⟨RX1, "holds", "(I)Z"⟩
abbrev cX1_includeAll : ByteArray := prog_3_method_10_code
def yX1_includeAll : MethodName := ⟨RX1, "includeAll", "(II)V"⟩
abbrev cX1_excludeAll : ByteArray := prog_3_method_11_code
def yX1_excludeAll : MethodName := ⟨RX1, "excludeAll", "(II)V"⟩
abbrev cX1_turnAll : ByteArray := prog_3_method_12_code
def yX1_turnAll : MethodName := ⟨RX1, "turnAll", "(II)V"⟩
abbrev cX1_mask : ByteArray := prog_3_method_13_code
def yX1_mask : MethodName := ⟨RX1, "mask", "(III)J"⟩
abbrev cX1_count : ByteArray := prog_3_method_14_code
def yX1_count : MethodName := ⟨RX1, "count", "()I"⟩
abbrev cX1_countInPiece : ByteArray := prog_3_method_15_code
def yX1_countInPiece : MethodName := ⟨RX1, "countInPiece", "(I)I"⟩
abbrev cX1_countIn : ByteArray := prog_3_method_16_code
def yX1_countIn : MethodName := ⟨RX1, "countIn", "(II)I"⟩
abbrev cX1_countRuns : ByteArray := prog_3_method_17_code
def yX1_countRuns : MethodName := ⟨RX1, "countRuns", "(II)I"⟩
abbrev cX1_nth : ByteArray := prog_3_method_18_code
def yX1_nth : MethodName := ⟨RX1, "nth", "(I)I"⟩
abbrev cX1_nthBit : ByteArray := prog_3_method_19_code
def yX1_nthBit : MethodName := ⟨RX1, "nthBit", "(JI)I"⟩
abbrev cX1_kindOf : ByteArray := prog_3_method_20_code
def yX1_kindOf : MethodName := ⟨RX1, "kindOf", "(I)I"⟩
abbrev cX1_costOf : ByteArray := prog_3_method_21_code
def yX1_costOf : MethodName := ⟨RX1, "costOf", "(I)I"⟩
abbrev cX1_detail : ByteArray := prog_3_method_22_code
def yX1_detail : MethodName := ⟨RX1, "detail", "(II)I"⟩
abbrev cX1_writtenByte : ByteArray := prog_3_method_23_code
def yX1_writtenByte : MethodName := ⟨RX1, "writtenByte", "(II)I"⟩
abbrev cX1_bitmapByte : ByteArray := prog_3_method_24_code
def yX1_bitmapByte : MethodName := ⟨RX1, "bitmapByte", "(II)I"⟩
abbrev cX1_nthPlace : ByteArray := prog_3_method_25_code
def yX1_nthPlace : MethodName := ⟨RX1, "nthPlace", "(II)I"⟩
abbrev cX1_nthBorder : ByteArray := prog_3_method_26_code
def yX1_nthBorder : MethodName := ⟨RX1, "nthBorder", "(II)I"⟩
def RX2 : String := "PieceSets$State"
def TX2 : u_T := fun k => match k with
  | 0 => ("PieceSets$State", "sets", "[LPieceSets$Numbers;", true)
  | 1 => ("PieceSets$State", "meetings", "[I", true)
  | _ => ("PieceSets$State", "conversions", "[I", true)
def tyX2 : Nat → FieldType := fun k => match k with
  | 0 => .array (.object "PieceSets$Numbers")
  | 1 => .array .int
  | _ => .array .int
abbrev wsX20 : List Cond := u_ws RX2 TX2 3
theorem nmX2 : ∀ a, a < 3 → ∀ b, b < 3 → a ≠ b → (TX2 a).2.1 ≠ (TX2 b).2.1 := by decide +kernel
theorem tyX2_ok : ∀ k, k < 3 → parseFieldDescriptor (TX2 k).2.2.1 = some (tyX2 k) := by decide +kernel
abbrev cX2_init : ByteArray := prog_4_method_1_code
def yX2_init : MethodName := ⟨RX2, "<init>", "()V"⟩
abbrev cX2_become : ByteArray := prog_4_method_2_code
def yX2_become : MethodName := ⟨RX2, "become", "(LPieceSets$State;)V"⟩
abbrev cX2_countMeetings : ByteArray := prog_4_method_3_code
def yX2_countMeetings : MethodName := ⟨RX2, "countMeetings", "(LPieceSets$Numbers;LPieceSets$Numbers;)V"⟩
abbrev cX2_countConversions : ByteArray := prog_4_method_4_code
def yX2_countConversions : MethodName := ⟨RX2, "countConversions", "(LPieceSets$Numbers;LPieceSets$Numbers;)V"⟩
def RX3 : String := "PieceSets"
def TX3 : u_T := fun k => match k with
  | 0 => ("PieceSets", "now", "LPieceSets$State;", false)
  | 1 => ("PieceSets", "past", "[LPieceSets$State;", true)
  | 2 => ("PieceSets", "kept", "I", false)
  | 3 => ("PieceSets", "buffer", "LPieceSets$Buffer;", true)
  | _ => ("PieceSets", "scratch", "LPieceSets$Numbers;", true)
def tyX3 : Nat → FieldType := fun k => match k with
  | 0 => .object "PieceSets$State"
  | 1 => .array (.object "PieceSets$State")
  | 2 => .int
  | 3 => .object "PieceSets$Buffer"
  | _ => .object "PieceSets$Numbers"
abbrev wsX30 : List Cond := u_ws RX3 TX3 5
theorem nmX3 : ∀ a, a < 5 → ∀ b, b < 5 → a ≠ b → (TX3 a).2.1 ≠ (TX3 b).2.1 := by decide +kernel
theorem tyX3_ok : ∀ k, k < 5 → parseFieldDescriptor (TX3 k).2.2.1 = some (tyX3 k) := by decide +kernel
abbrev cX3_init : ByteArray := prog_1_method_1_code
def yX3_init : MethodName := ⟨RX3, "<init>", "()V"⟩
abbrev cX3_add : ByteArray := prog_1_method_2_code
def yX3_add : MethodName := ⟨RX3, "add", "(III)I"⟩
abbrev cX3_remove : ByteArray := prog_1_method_3_code
def yX3_remove : MethodName := ⟨RX3, "remove", "(III)I"⟩
abbrev cX3_flip : ByteArray := prog_1_method_4_code
def yX3_flip : MethodName := ⟨RX3, "flip", "(III)I"⟩
abbrev cX3_scatter : ByteArray := prog_1_method_5_code
def yX3_scatter : MethodName := ⟨RX3, "scatter", "(III)I"⟩
abbrev cX3_combine : ByteArray := prog_1_method_6_code
def yX3_combine : MethodName := ⟨RX3, "combine", "(IIII)I"⟩
abbrev cX3_shift : ByteArray := prog_1_method_7_code
def yX3_shift : MethodName := ⟨RX3, "shift", "(II)I"⟩
abbrev cX3_size : ByteArray := prog_1_method_8_code
def yX3_size : MethodName := ⟨RX3, "size", "(I)I"⟩
abbrev cX3_contains : ByteArray := prog_1_method_9_code
def yX3_contains : MethodName := ⟨RX3, "contains", "(II)I"⟩
abbrev cX3_rank : ByteArray := prog_1_method_10_code
def yX3_rank : MethodName := ⟨RX3, "rank", "(II)I"⟩
abbrev cX3_select : ByteArray := prog_1_method_11_code
def yX3_select : MethodName := ⟨RX3, "select", "(II)I"⟩
abbrev cX3_near : ByteArray := prog_1_method_12_code
def yX3_near : MethodName := ⟨RX3, "near", "(IIZ)I"⟩
abbrev cX3_runs : ByteArray := prog_1_method_13_code
def yX3_runs : MethodName := ⟨RX3, "runs", "(I)I"⟩
abbrev cX3_run : ByteArray := prog_1_method_14_code
def yX3_run : MethodName := ⟨RX3, "run", "(II)I"⟩
abbrev cX3_piece : ByteArray := prog_1_method_15_code
def yX3_piece : MethodName := ⟨RX3, "piece", "(III)I"⟩
abbrev cX3_bytes : ByteArray := prog_1_method_16_code
def yX3_bytes : MethodName := ⟨RX3, "bytes", "(I)I"⟩
abbrev cX3_byteAt : ByteArray := prog_1_method_17_code
def yX3_byteAt : MethodName := ⟨RX3, "byteAt", "(II)I"⟩
abbrev cX3_put : ByteArray := prog_1_method_18_code
def yX3_put : MethodName := ⟨RX3, "put", "(I)I"⟩
abbrev cX3_clear : ByteArray := prog_1_method_19_code
def yX3_clear : MethodName := ⟨RX3, "clear", "()I"⟩
abbrev cX3_read : ByteArray := prog_1_method_20_code
def yX3_read : MethodName := ⟨RX3, "read", "(I)I"⟩
abbrev cX3_compare : ByteArray := prog_1_method_21_code
def yX3_compare : MethodName := ⟨RX3, "compare", "(III)I"⟩
abbrev cX3_alike : ByteArray := prog_1_method_22_code
def yX3_alike : MethodName := ⟨RX3, "alike", "(IIZ)I"⟩
abbrev cX3_met : ByteArray := prog_1_method_23_code
def yX3_met : MethodName := ⟨RX3, "met", "(II)I"⟩
abbrev cX3_converted : ByteArray := prog_1_method_24_code
def yX3_converted : MethodName := ⟨RX3, "converted", "(II)I"⟩
abbrev cX3_undo : ByteArray := prog_1_method_25_code
def yX3_undo : MethodName := ⟨RX3, "undo", "()I"⟩
abbrev cX3_fingerprint : ByteArray := prog_1_method_26_code
def yX3_fingerprint : MethodName := ⟨RX3, "fingerprint", "()J"⟩
abbrev cX3_isSet : ByteArray := prog_1_method_27_code
def yX3_isSet : MethodName := ⟨RX3, "isSet", "(I)Z"⟩
abbrev cX3_isNumber : ByteArray := prog_1_method_28_code
def yX3_isNumber : MethodName := ⟨RX3, "isNumber", "(I)Z"⟩
abbrev cX3_isRange : ByteArray := prog_1_method_29_code
def yX3_isRange : MethodName := ⟨RX3, "isRange", "(II)Z"⟩
abbrev cX3_isKind : ByteArray := prog_1_method_30_code
def yX3_isKind : MethodName := ⟨RX3, "isKind", "(I)Z"⟩
abbrev cX3_keepState : ByteArray := prog_1_method_31_code
def yX3_keepState : MethodName := ⟨RX3, "keepState", "()LPieceSets$State;"⟩
abbrev cX3_nthEdge : ByteArray := prog_1_method_32_code
def yX3_nthEdge : MethodName := ⟨RX3, "nthEdge", "(LPieceSets$Numbers;II)I"⟩
abbrev cX3_countJoin : ByteArray := prog_1_method_33_code
def yX3_countJoin : MethodName := ⟨RX3, "countJoin", "(III)I"⟩
abbrev cX3_countSamePieces : ByteArray := prog_1_method_34_code
def yX3_countSamePieces : MethodName := ⟨RX3, "countSamePieces", "(II)I"⟩
abbrev cX3_greatestDivisor : ByteArray := prog_1_method_35_code
def yX3_greatestDivisor : MethodName := ⟨RX3, "greatestDivisor", "(II)I"⟩
abbrev cX3_printPieces : ByteArray := prog_1_method_36_code
def yX3_printPieces : MethodName := ⟨RX3, "printPieces", "(JLPieceSets$Numbers;)J"⟩
abbrev cX3_printNumbers : ByteArray := prog_1_method_37_code
def yX3_printNumbers : MethodName := ⟨RX3, "printNumbers", "(JLPieceSets$Numbers;)J"⟩
def RX4 : String := "PieceSetsModel"
def TX4 : u_T := fun k => match k with
  | 0 => ("PieceSetsModel", "v", "[I", true)
  | 1 => ("PieceSetsModel", "aside", "[I", true)
  | 2 => ("PieceSetsModel", "past", "[I", true)
  | 3 => ("PieceSetsModel", "pastMany", "I", false)
  | 4 => ("PieceSetsModel", "buffer", "[I", true)
  | 5 => ("PieceSetsModel", "bufferMany", "I", false)
  | 6 => ("PieceSetsModel", "bits", "[I", true)
  | _ => ("PieceSetsModel", "at", "I", false)
def tyX4 : Nat → FieldType := fun k => match k with
  | 0 => .array .int
  | 1 => .array .int
  | 2 => .array .int
  | 3 => .int
  | 4 => .array .int
  | 5 => .int
  | 6 => .array .int
  | _ => .int
abbrev wsX40 : List Cond := u_ws RX4 TX4 8
theorem nmX4 : ∀ a, a < 8 → ∀ b, b < 8 → a ≠ b → (TX4 a).2.1 ≠ (TX4 b).2.1 := by decide +kernel
theorem tyX4_ok : ∀ k, k < 8 → parseFieldDescriptor (TX4 k).2.2.1 = some (tyX4 k) := by decide +kernel
abbrev cX4_init : ByteArray := prog_6_method_1_code
def yX4_init : MethodName := ⟨RX4, "<init>", "()V"⟩
abbrev cX4_in : ByteArray := prog_6_method_2_code
def yX4_in : MethodName := ⟨RX4, "in", "(III)Z"⟩
abbrev cX4_isSet : ByteArray := prog_6_method_3_code
def yX4_isSet : MethodName := ⟨RX4, "isSet", "(I)Z"⟩
abbrev cX4_bit : ByteArray := prog_6_method_4_code
def yX4_bit : MethodName := ⟨RX4, "bit", "([III)Z"⟩
abbrev cX4_has : ByteArray := prog_6_method_5_code
def yX4_has : MethodName := ⟨RX4, "has", "(II)Z"⟩
abbrev cX4_puts : ByteArray := prog_6_method_6_code
def yX4_puts : MethodName := ⟨RX4, "puts", "(IIZ)V"⟩
abbrev cX4_act : ByteArray := prog_6_method_7_code
def yX4_act : MethodName := ⟨RX4, "act", "()V"⟩
abbrev cX4_manyIn : ByteArray := prog_6_method_8_code
def yX4_manyIn : MethodName := ⟨RX4, "manyIn", "([III)I"⟩
abbrev cX4_runsIn : ByteArray := prog_6_method_9_code
def yX4_runsIn : MethodName := ⟨RX4, "runsIn", "([III)I"⟩
abbrev cX4_kindBy : ByteArray := prog_6_method_10_code
def yX4_kindBy : MethodName := ⟨RX4, "kindBy", "(II)I"⟩
abbrev cX4_bytesBy : ByteArray := prog_6_method_11_code
def yX4_bytesBy : MethodName := ⟨RX4, "bytesBy", "(II)I"⟩
abbrev cX4_kindIn : ByteArray := prog_6_method_12_code
def yX4_kindIn : MethodName := ⟨RX4, "kindIn", "([III)I"⟩
abbrev cX4_converts : ByteArray := prog_6_method_13_code
def yX4_converts : MethodName := ⟨RX4, "converts", "(I)V"⟩
abbrev cX4_sizeOf : ByteArray := prog_6_method_14_code
def yX4_sizeOf : MethodName := ⟨RX4, "sizeOf", "(I)I"⟩
abbrev cX4_isRange : ByteArray := prog_6_method_15_code
def yX4_isRange : MethodName := ⟨RX4, "isRange", "(III)Z"⟩
abbrev cX4_turns : ByteArray := prog_6_method_16_code
def yX4_turns : MethodName := ⟨RX4, "turns", "(IIII)I"⟩
abbrev cX4_add : ByteArray := prog_6_method_17_code
def yX4_add : MethodName := ⟨RX4, "add", "(III)I"⟩
abbrev cX4_remove : ByteArray := prog_6_method_18_code
def yX4_remove : MethodName := ⟨RX4, "remove", "(III)I"⟩
abbrev cX4_flip : ByteArray := prog_6_method_19_code
def yX4_flip : MethodName := ⟨RX4, "flip", "(III)I"⟩
abbrev cX4_scatter : ByteArray := prog_6_method_20_code
def yX4_scatter : MethodName := ⟨RX4, "scatter", "(III)I"⟩
abbrev cX4_combine : ByteArray := prog_6_method_21_code
def yX4_combine : MethodName := ⟨RX4, "combine", "(IIII)I"⟩
abbrev cX4_shift : ByteArray := prog_6_method_22_code
def yX4_shift : MethodName := ⟨RX4, "shift", "(II)I"⟩
abbrev cX4_size : ByteArray := prog_6_method_23_code
def yX4_size : MethodName := ⟨RX4, "size", "(I)I"⟩
abbrev cX4_contains : ByteArray := prog_6_method_24_code
def yX4_contains : MethodName := ⟨RX4, "contains", "(II)I"⟩
abbrev cX4_rank : ByteArray := prog_6_method_25_code
def yX4_rank : MethodName := ⟨RX4, "rank", "(II)I"⟩
abbrev cX4_select : ByteArray := prog_6_method_26_code
def yX4_select : MethodName := ⟨RX4, "select", "(II)I"⟩
abbrev cX4_near : ByteArray := prog_6_method_27_code
def yX4_near : MethodName := ⟨RX4, "near", "(IIZ)I"⟩
abbrev cX4_begins : ByteArray := prog_6_method_28_code
def yX4_begins : MethodName := ⟨RX4, "begins", "(II)Z"⟩
abbrev cX4_runs : ByteArray := prog_6_method_29_code
def yX4_runs : MethodName := ⟨RX4, "runs", "(I)I"⟩
abbrev cX4_run : ByteArray := prog_6_method_30_code
def yX4_run : MethodName := ⟨RX4, "run", "(II)I"⟩
abbrev cX4_told : ByteArray := prog_6_method_31_code
def yX4_told : MethodName := ⟨RX4, "told", "(III)I"⟩
abbrev cX4_piece : ByteArray := prog_6_method_32_code
def yX4_piece : MethodName := ⟨RX4, "piece", "(III)I"⟩
abbrev cX4_bytes : ByteArray := prog_6_method_33_code
def yX4_bytes : MethodName := ⟨RX4, "bytes", "(I)I"⟩
abbrev cX4_byteOf : ByteArray := prog_6_method_34_code
def yX4_byteOf : MethodName := ⟨RX4, "byteOf", "(III)I"⟩
abbrev cX4_byteAt : ByteArray := prog_6_method_35_code
def yX4_byteAt : MethodName := ⟨RX4, "byteAt", "(II)I"⟩
abbrev cX4_put : ByteArray := prog_6_method_36_code
def yX4_put : MethodName := ⟨RX4, "put", "(I)I"⟩
abbrev cX4_clear : ByteArray := prog_6_method_37_code
def yX4_clear : MethodName := ⟨RX4, "clear", "()I"⟩
abbrev cX4_takes : ByteArray := prog_6_method_38_code
def yX4_takes : MethodName := ⟨RX4, "takes", "(I)V"⟩
abbrev cX4_next : ByteArray := prog_6_method_39_code
def yX4_next : MethodName := ⟨RX4, "next", "()I"⟩
abbrev cX4_readsPlaces : ByteArray := prog_6_method_40_code
def yX4_readsPlaces : MethodName := ⟨RX4, "readsPlaces", "(IZ)Z"⟩
abbrev cX4_readsBitmap : ByteArray := prog_6_method_41_code
def yX4_readsBitmap : MethodName := ⟨RX4, "readsBitmap", "(I)Z"⟩
abbrev cX4_isKind : ByteArray := prog_6_method_42_code
def yX4_isKind : MethodName := ⟨RX4, "isKind", "(II)Z"⟩
abbrev cX4_wrongAt : ByteArray := prog_6_method_43_code
def yX4_wrongAt : MethodName := ⟨RX4, "wrongAt", "()I"⟩
abbrev cX4_read : ByteArray := prog_6_method_44_code
def yX4_read : MethodName := ⟨RX4, "read", "(I)I"⟩
abbrev cX4_comparison : ByteArray := prog_6_method_45_code
def yX4_comparison : MethodName := ⟨RX4, "comparison", "(III)I"⟩
abbrev cX4_compare : ByteArray := prog_6_method_46_code
def yX4_compare : MethodName := ⟨RX4, "compare", "(III)I"⟩
abbrev cX4_alike : ByteArray := prog_6_method_47_code
def yX4_alike : MethodName := ⟨RX4, "alike", "(IIZ)I"⟩
abbrev cX4_isKindNumber : ByteArray := prog_6_method_48_code
def yX4_isKindNumber : MethodName := ⟨RX4, "isKindNumber", "(I)Z"⟩
abbrev cX4_met : ByteArray := prog_6_method_49_code
def yX4_met : MethodName := ⟨RX4, "met", "(II)I"⟩
abbrev cX4_converted : ByteArray := prog_6_method_50_code
def yX4_converted : MethodName := ⟨RX4, "converted", "(II)I"⟩
abbrev cX4_undo : ByteArray := prog_6_method_51_code
def yX4_undo : MethodName := ⟨RX4, "undo", "()I"⟩
abbrev cX4_fingerprint : ByteArray := prog_6_method_52_code
def yX4_fingerprint : MethodName := ⟨RX4, "fingerprint", "()J"⟩
def RJ13 : String := "java/lang/Long"
def TJ13 : u_T := fun k => match k with
  | _ => ("", "", "", false)
def tyJ13 : Nat → FieldType := fun k => match k with
  | _ => .int
abbrev wsJ130 : List Cond := u_ws RJ13 TJ13 0
theorem nmJ13 : ∀ a, a < 0 → ∀ b, b < 0 → a ≠ b → (TJ13 a).2.1 ≠ (TJ13 b).2.1 := by decide +kernel
theorem tyJ13_ok : ∀ k, k < 0 → parseFieldDescriptor (TJ13 k).2.2.1 = some (tyJ13 k) := by decide +kernel
abbrev cJ13_bitCount_95d88 : ByteArray := prog_7_method_50_code
def yJ13_bitCount_95d88 : MethodName := ⟨RJ13, "bitCount", "(J)I"⟩
def RJ9 : String := "java/lang/Math"
def TJ9 : u_T := fun k => match k with
  | _ => ("", "", "", false)
def tyJ9 : Nat → FieldType := fun k => match k with
  | _ => .int
abbrev wsJ90 : List Cond := u_ws RJ9 TJ9 0
theorem nmJ9 : ∀ a, a < 0 → ∀ b, b < 0 → a ≠ b → (TJ9 a).2.1 ≠ (TJ9 b).2.1 := by decide +kernel
theorem tyJ9_ok : ∀ k, k < 0 → parseFieldDescriptor (TJ9 k).2.2.1 = some (tyJ9 k) := by decide +kernel
abbrev cJ9_max_7cf53 : ByteArray := prog_8_method_65_code
def yJ9_max_7cf53 : MethodName := ⟨RJ9, "max", "(II)I"⟩
abbrev cJ9_min_7cf53 : ByteArray := prog_8_method_69_code
def yJ9_min_7cf53 : MethodName := ⟨RJ9, "min", "(II)I"⟩
def RJ10 : String := "java/lang/System"
def TJ10 : u_T := fun k => match k with
  | _ => ("", "", "", false)
def tyJ10 : Nat → FieldType := fun k => match k with
  | _ => .int
abbrev wsJ100 : List Cond := u_ws RJ10 TJ10 0
theorem nmJ10 : ∀ a, a < 0 → ∀ b, b < 0 → a ≠ b → (TJ10 a).2.1 ≠ (TJ10 b).2.1 := by decide +kernel
theorem tyJ10_ok : ∀ k, k < 0 → parseFieldDescriptor (TJ10 k).2.2.1 = some (tyJ10 k) := by decide +kernel
def RJ7 : String := "java/util/Arrays"
def TJ7 : u_T := fun k => match k with
  | _ => ("", "", "", false)
def tyJ7 : Nat → FieldType := fun k => match k with
  | _ => .int
abbrev wsJ70 : List Cond := u_ws RJ7 TJ7 0
theorem nmJ7 : ∀ a, a < 0 → ∀ b, b < 0 → a ≠ b → (TJ7 a).2.1 ≠ (TJ7 b).2.1 := by decide +kernel
theorem tyJ7_ok : ∀ k, k < 0 → parseFieldDescriptor (TJ7 k).2.2.1 = some (tyJ7 k) := by decide +kernel
abbrev cJ7_fill_d0a16 : ByteArray := prog_10_method_101_code
def yJ7_fill_d0a16 : MethodName := ⟨RJ7, "fill", "([JJ)V"⟩
def RL : String := "PieceSetsLaw"
abbrev cL_law : ByteArray := code
def yL_law : MethodName := ⟨RL, "law", "([I)Z"⟩
def wsX0_init : List Cond := .code yX0_init cX0_init 1 none :: ([.methodLink RX0 3 objectInit, .instanceMethod objectInit, .code objectInit ⟨#[0xb1]⟩ 1 none, .arrayClass .int, .fieldLink RX0 9 "PieceSets$Buffer" "row" "[I", .fieldLink RX0 15 "PieceSets$Buffer" "length" "I"] ++ wsX00)
def wsX0_append : List Cond := .code yX0_append cX0_append 2 (some .boolean) :: ([.fieldLink RX0 15 "PieceSets$Buffer" "length" "I", .fieldLink RX0 9 "PieceSets$Buffer" "row" "[I"] ++ wsX00)
def wsJ7_fill_d0a16 : List Cond := .code yJ7_fill_d0a16 cJ7_fill_d0a16 5 none :: ([])
def wsX1_becomeEmpty : List Cond := .code yX1_becomeEmpty cX1_becomeEmpty 1 none :: ([.fieldLink RX1 9 "PieceSets$Numbers" "words" "[J", .methodLink RX1 21 yJ7_fill_d0a16, .static yJ7_fill_d0a16, .initialized RJ7, .code yJ7_fill_d0a16 cJ7_fill_d0a16 5 none] ++ wsX10)
def wsX3_isKind : List Cond := .code yX3_isKind cX3_isKind 1 (some .boolean) :: ([])
def wsX3_isNumber : List Cond := .code yX3_isNumber cX3_isNumber 1 (some .boolean) :: ([])
def wsX1_include : List Cond := .code yX1_include cX1_include 2 none :: ([.fieldLink RX1 9 "PieceSets$Numbers" "words" "[J", .static yX3_isNumber, .initialized RX3, .code yX3_isNumber cX3_isNumber 1 (some .boolean)] ++ wsX10)
def wsX0_parseBitmap : List Cond := .code yX0_parseBitmap cX0_parseBitmap 6 (some .int) :: ([.fieldLink RX0 15 "PieceSets$Buffer" "length" "I", .fieldLink RX0 9 "PieceSets$Buffer" "row" "[I", .instanceMethod yX1_include, .initialized RX1, .selects RX1 yX1_include yX1_include, .code yX1_include cX1_include 2 none, .fieldLink RX1 9 "PieceSets$Numbers" "words" "[J", .static yX3_isNumber, .initialized RX3, .code yX3_isNumber cX3_isNumber 1 (some .boolean)] ++ wsX00 ++ wsX10)
def wsX0_parseArray : List Cond := .code yX0_parseArray cX0_parseArray 7 (some .int) :: ([.fieldLink RX0 15 "PieceSets$Buffer" "length" "I", .fieldLink RX0 9 "PieceSets$Buffer" "row" "[I", .instanceMethod yX1_include, .initialized RX1, .selects RX1 yX1_include yX1_include, .code yX1_include cX1_include 2 none, .fieldLink RX1 9 "PieceSets$Numbers" "words" "[J", .static yX3_isNumber, .initialized RX3, .code yX3_isNumber cX3_isNumber 1 (some .boolean)] ++ wsX00 ++ wsX10)
def wsX1_mask : List Cond := .code yX1_mask cX1_mask 5 (some .long) :: ([.methodLink RX1 45 Lib.Math.max.name, .static Lib.Math.max.name, .initialized "java/lang/Math", .code Lib.Math.max.name Lib.Math.max.code 2 (some .int), .methodLink RX1 51 Lib.Math.min.name, .static Lib.Math.min.name, .code Lib.Math.min.name Lib.Math.min.code 2 (some .int), .constantLong RX1 31 (-1)])
def wsX1_includeAll : List Cond := .code yX1_includeAll cX1_includeAll 4 none :: ([.fieldLink RX1 9 "PieceSets$Numbers" "words" "[J", .methodLink RX1 41 yX1_mask, .static yX1_mask, .initialized RX1, .code yX1_mask cX1_mask 5 (some .long), .methodLink RX1 45 Lib.Math.max.name, .static Lib.Math.max.name, .initialized "java/lang/Math", .code Lib.Math.max.name Lib.Math.max.code 2 (some .int), .methodLink RX1 51 Lib.Math.min.name, .static Lib.Math.min.name, .code Lib.Math.min.name Lib.Math.min.code 2 (some .int), .constantLong RX1 31 (-1)] ++ wsX10)
def wsX0_parseRuns : List Cond := .code yX0_parseRuns cX0_parseRuns 8 (some .int) :: ([.fieldLink RX0 15 "PieceSets$Buffer" "length" "I", .fieldLink RX0 9 "PieceSets$Buffer" "row" "[I", .instanceMethod yX1_includeAll, .initialized RX1, .selects RX1 yX1_includeAll yX1_includeAll, .code yX1_includeAll cX1_includeAll 4 none, .fieldLink RX1 9 "PieceSets$Numbers" "words" "[J", .methodLink RX1 41 yX1_mask, .static yX1_mask, .code yX1_mask cX1_mask 5 (some .long), .methodLink RX1 45 Lib.Math.max.name, .static Lib.Math.max.name, .initialized "java/lang/Math", .code Lib.Math.max.name Lib.Math.max.code 2 (some .int), .methodLink RX1 51 Lib.Math.min.name, .static Lib.Math.min.name, .code Lib.Math.min.name Lib.Math.min.code 2 (some .int), .constantLong RX1 31 (-1)] ++ wsX00 ++ wsX10)
def wsX0_parsePiece_r1 : List Cond := [Cond.fieldLink RX0 15 "PieceSets$Buffer" "length" "I", Cond.fieldLink RX0 9 "PieceSets$Buffer" "row" "[I", Cond.methodLink RX0 36 yX0_parseBitmap, Cond.instanceMethod yX0_parseBitmap, Cond.selects RX0 yX0_parseBitmap yX0_parseBitmap, Cond.initialized RX0, Cond.code yX0_parseBitmap cX0_parseBitmap 6 (some .int), Cond.instanceMethod yX1_include, Cond.initialized RX1, Cond.selects RX1 yX1_include yX1_include, Cond.code yX1_include cX1_include 2 none, Cond.fieldLink RX1 9 "PieceSets$Numbers" "words" "[J", Cond.static yX3_isNumber, Cond.initialized RX3, Cond.code yX3_isNumber cX3_isNumber 1 (some .boolean), Cond.methodLink RX0 40 yX0_parseArray, Cond.instanceMethod yX0_parseArray, Cond.selects RX0 yX0_parseArray yX0_parseArray, Cond.code yX0_parseArray cX0_parseArray 7 (some .int), Cond.methodLink RX0 43 yX0_parseRuns, Cond.instanceMethod yX0_parseRuns, Cond.selects RX0 yX0_parseRuns yX0_parseRuns, Cond.code yX0_parseRuns cX0_parseRuns 8 (some .int), Cond.instanceMethod yX1_includeAll]
def wsX0_parsePiece_r2 : List Cond := [Cond.selects RX1 yX1_includeAll yX1_includeAll, Cond.code yX1_includeAll cX1_includeAll 4 none, Cond.methodLink RX1 41 yX1_mask, Cond.static yX1_mask, Cond.code yX1_mask cX1_mask 5 (some .long), Cond.methodLink RX1 45 Lib.Math.max.name, Cond.static Lib.Math.max.name, Cond.initialized "java/lang/Math", Cond.code Lib.Math.max.name Lib.Math.max.code 2 (some .int), Cond.methodLink RX1 51 Lib.Math.min.name, Cond.static Lib.Math.min.name, Cond.code Lib.Math.min.name Lib.Math.min.code 2 (some .int), Cond.constantLong RX1 31 (-1)]
def wsX0_parsePiece : List Cond := .code yX0_parsePiece cX0_parsePiece 5 (some .int) :: ((wsX0_parsePiece_r1 ++ wsX0_parsePiece_r2) ++ wsX00 ++ wsX10)
def wsX1_wordAt : List Cond := .code yX1_wordAt cX1_wordAt 2 (some .long) :: ([.fieldLink RX1 9 "PieceSets$Numbers" "words" "[J"] ++ wsX10)
def wsJ13_bitCount_95d88 : List Cond := .code yJ13_bitCount_95d88 cJ13_bitCount_95d88 2 (some .int) :: ([.constantLong RJ13 314 (6148914691236517205), .constantLong RJ13 316 (3689348814741910323), .constantLong RJ13 318 (1085102592571150095)])
def wsX1_countInPiece : List Cond := .code yX1_countInPiece cX1_countInPiece 4 (some .int) :: ([.methodLink RX1 33 yX1_wordAt, .instanceMethod yX1_wordAt, .selects RX1 yX1_wordAt yX1_wordAt, .initialized RX1, .code yX1_wordAt cX1_wordAt 2 (some .long), .fieldLink RX1 9 "PieceSets$Numbers" "words" "[J", .methodLink RX1 58 yJ13_bitCount_95d88, .static yJ13_bitCount_95d88, .initialized RJ13, .code yJ13_bitCount_95d88 cJ13_bitCount_95d88 2 (some .int), .constantLong RJ13 314 (6148914691236517205), .constantLong RJ13 316 (3689348814741910323), .constantLong RJ13 318 (1085102592571150095)] ++ wsX10)
def wsX1_countRuns : List Cond := .code yX1_countRuns cX1_countRuns 9 (some .int) :: ([.constantLong RX1 31 (-1), .methodLink RX1 33 yX1_wordAt, .instanceMethod yX1_wordAt, .selects RX1 yX1_wordAt yX1_wordAt, .initialized RX1, .code yX1_wordAt cX1_wordAt 2 (some .long), .fieldLink RX1 9 "PieceSets$Numbers" "words" "[J", .methodLink RX1 58 yJ13_bitCount_95d88, .static yJ13_bitCount_95d88, .initialized RJ13, .code yJ13_bitCount_95d88 cJ13_bitCount_95d88 2 (some .int), .constantLong RJ13 314 (6148914691236517205), .constantLong RJ13 316 (3689348814741910323), .constantLong RJ13 318 (1085102592571150095)] ++ wsX10)
def wsX1_kindOf : List Cond := .code yX1_kindOf cX1_kindOf 5 (some .int) :: ([.methodLink RX1 54 yX1_countInPiece, .instanceMethod yX1_countInPiece, .selects RX1 yX1_countInPiece yX1_countInPiece, .initialized RX1, .code yX1_countInPiece cX1_countInPiece 4 (some .int), .methodLink RX1 33 yX1_wordAt, .instanceMethod yX1_wordAt, .selects RX1 yX1_wordAt yX1_wordAt, .code yX1_wordAt cX1_wordAt 2 (some .long), .fieldLink RX1 9 "PieceSets$Numbers" "words" "[J", .methodLink RX1 58 yJ13_bitCount_95d88, .static yJ13_bitCount_95d88, .initialized RJ13, .code yJ13_bitCount_95d88 cJ13_bitCount_95d88 2 (some .int), .constantLong RJ13 314 (6148914691236517205), .constantLong RJ13 316 (3689348814741910323), .constantLong RJ13 318 (1085102592571150095), .methodLink RX1 68 yX1_countRuns, .instanceMethod yX1_countRuns, .selects RX1 yX1_countRuns yX1_countRuns, .code yX1_countRuns cX1_countRuns 9 (some .int), .constantLong RX1 31 (-1)] ++ wsX10)
def wsX0_parse_r1 : List Cond := [Cond.fieldLink RX0 15 "PieceSets$Buffer" "length" "I", Cond.fieldLink RX0 9 "PieceSets$Buffer" "row" "[I", Cond.instanceMethod yX1_becomeEmpty, Cond.initialized RX1, Cond.selects RX1 yX1_becomeEmpty yX1_becomeEmpty, Cond.code yX1_becomeEmpty cX1_becomeEmpty 1 none, Cond.fieldLink RX1 9 "PieceSets$Numbers" "words" "[J", Cond.methodLink RX1 21 yJ7_fill_d0a16, Cond.static yJ7_fill_d0a16, Cond.initialized RJ7, Cond.code yJ7_fill_d0a16 cJ7_fill_d0a16 5 none, Cond.static yX3_isKind, Cond.initialized RX3, Cond.code yX3_isKind cX3_isKind 1 (some .boolean), Cond.methodLink RX0 28 yX0_parsePiece, Cond.instanceMethod yX0_parsePiece, Cond.selects RX0 yX0_parsePiece yX0_parsePiece, Cond.initialized RX0, Cond.code yX0_parsePiece cX0_parsePiece 5 (some .int), Cond.methodLink RX0 36 yX0_parseBitmap, Cond.instanceMethod yX0_parseBitmap, Cond.selects RX0 yX0_parseBitmap yX0_parseBitmap, Cond.code yX0_parseBitmap cX0_parseBitmap 6 (some .int), Cond.instanceMethod yX1_include]
def wsX0_parse_r2 : List Cond := [Cond.selects RX1 yX1_include yX1_include, Cond.code yX1_include cX1_include 2 none, Cond.static yX3_isNumber, Cond.code yX3_isNumber cX3_isNumber 1 (some .boolean), Cond.methodLink RX0 40 yX0_parseArray, Cond.instanceMethod yX0_parseArray, Cond.selects RX0 yX0_parseArray yX0_parseArray, Cond.code yX0_parseArray cX0_parseArray 7 (some .int), Cond.methodLink RX0 43 yX0_parseRuns, Cond.instanceMethod yX0_parseRuns, Cond.selects RX0 yX0_parseRuns yX0_parseRuns, Cond.code yX0_parseRuns cX0_parseRuns 8 (some .int), Cond.instanceMethod yX1_includeAll, Cond.selects RX1 yX1_includeAll yX1_includeAll, Cond.code yX1_includeAll cX1_includeAll 4 none, Cond.methodLink RX1 41 yX1_mask, Cond.static yX1_mask, Cond.code yX1_mask cX1_mask 5 (some .long), Cond.methodLink RX1 45 Lib.Math.max.name, Cond.static Lib.Math.max.name, Cond.initialized "java/lang/Math", Cond.code Lib.Math.max.name Lib.Math.max.code 2 (some .int), Cond.methodLink RX1 51 Lib.Math.min.name, Cond.static Lib.Math.min.name]
def wsX0_parse_r3 : List Cond := [Cond.code Lib.Math.min.name Lib.Math.min.code 2 (some .int), Cond.constantLong RX1 31 (-1), Cond.instanceMethod yX1_kindOf, Cond.selects RX1 yX1_kindOf yX1_kindOf, Cond.code yX1_kindOf cX1_kindOf 5 (some .int), Cond.methodLink RX1 54 yX1_countInPiece, Cond.instanceMethod yX1_countInPiece, Cond.selects RX1 yX1_countInPiece yX1_countInPiece, Cond.code yX1_countInPiece cX1_countInPiece 4 (some .int), Cond.methodLink RX1 33 yX1_wordAt, Cond.instanceMethod yX1_wordAt, Cond.selects RX1 yX1_wordAt yX1_wordAt, Cond.code yX1_wordAt cX1_wordAt 2 (some .long), Cond.methodLink RX1 58 yJ13_bitCount_95d88, Cond.static yJ13_bitCount_95d88, Cond.initialized RJ13, Cond.code yJ13_bitCount_95d88 cJ13_bitCount_95d88 2 (some .int), Cond.constantLong RJ13 314 (6148914691236517205), Cond.constantLong RJ13 316 (3689348814741910323), Cond.constantLong RJ13 318 (1085102592571150095), Cond.methodLink RX1 68 yX1_countRuns, Cond.instanceMethod yX1_countRuns, Cond.selects RX1 yX1_countRuns yX1_countRuns, Cond.code yX1_countRuns cX1_countRuns 9 (some .int)]
def wsX0_parse : List Cond := .code yX0_parse cX0_parse 8 (some .int) :: ((wsX0_parse_r1 ++ (wsX0_parse_r2 ++ wsX0_parse_r3)) ++ wsX00 ++ wsX10)
def wsX1_init : List Cond := .code yX1_init cX1_init 1 none :: ([.methodLink RX1 3 objectInit, .instanceMethod objectInit, .code objectInit ⟨#[0xb1]⟩ 1 none, .arrayClass .long, .fieldLink RX1 9 "PieceSets$Numbers" "words" "[J"] ++ wsX10)
def wsX1_become : List Cond := .code yX1_become cX1_become 2 none :: ([.fieldLink RX1 9 "PieceSets$Numbers" "words" "[J", .methodLink RX1 15 arraycopyName, .native arraycopyName, .static arraycopyName, .initialized "java/lang/System"] ++ wsX10)
def wsX1_join : List Cond := .code yX1_join cX1_join 5 (some .long) :: ([.constantLong RX1 31 (-1)])
def wsX1_becomeJoin : List Cond := .code yX1_becomeJoin cX1_becomeJoin 5 none :: ([.fieldLink RX1 9 "PieceSets$Numbers" "words" "[J", .methodLink RX1 27 yX1_join, .static yX1_join, .initialized RX1, .code yX1_join cX1_join 5 (some .long), .constantLong RX1 31 (-1)] ++ wsX10)
def wsX1_becomeMoved : List Cond := .code yX1_becomeMoved cX1_becomeMoved 10 none :: ([.fieldLink RX1 9 "PieceSets$Numbers" "words" "[J", .methodLink RX1 33 yX1_wordAt, .instanceMethod yX1_wordAt, .selects RX1 yX1_wordAt yX1_wordAt, .initialized RX1, .code yX1_wordAt cX1_wordAt 2 (some .long)] ++ wsX10)
def wsX1_holds : List Cond := .code yX1_holds cX1_holds 2 (some .boolean) :: ([.fieldLink RX1 9 "PieceSets$Numbers" "words" "[J", .static yX3_isNumber, .initialized RX3, .code yX3_isNumber cX3_isNumber 1 (some .boolean)] ++ wsX10)
def wsX1_excludeAll : List Cond := .code yX1_excludeAll cX1_excludeAll 4 none :: ([.fieldLink RX1 9 "PieceSets$Numbers" "words" "[J", .constantLong RX1 31 (-1), .methodLink RX1 41 yX1_mask, .static yX1_mask, .initialized RX1, .code yX1_mask cX1_mask 5 (some .long), .methodLink RX1 45 Lib.Math.max.name, .static Lib.Math.max.name, .initialized "java/lang/Math", .code Lib.Math.max.name Lib.Math.max.code 2 (some .int), .methodLink RX1 51 Lib.Math.min.name, .static Lib.Math.min.name, .code Lib.Math.min.name Lib.Math.min.code 2 (some .int)] ++ wsX10)
def wsX1_turnAll : List Cond := .code yX1_turnAll cX1_turnAll 4 none :: ([.fieldLink RX1 9 "PieceSets$Numbers" "words" "[J", .methodLink RX1 41 yX1_mask, .static yX1_mask, .initialized RX1, .code yX1_mask cX1_mask 5 (some .long), .methodLink RX1 45 Lib.Math.max.name, .static Lib.Math.max.name, .initialized "java/lang/Math", .code Lib.Math.max.name Lib.Math.max.code 2 (some .int), .methodLink RX1 51 Lib.Math.min.name, .static Lib.Math.min.name, .code Lib.Math.min.name Lib.Math.min.code 2 (some .int), .constantLong RX1 31 (-1)] ++ wsX10)
def wsX1_count : List Cond := .code yX1_count cX1_count 3 (some .int) :: ([.methodLink RX1 54 yX1_countInPiece, .instanceMethod yX1_countInPiece, .selects RX1 yX1_countInPiece yX1_countInPiece, .initialized RX1, .code yX1_countInPiece cX1_countInPiece 4 (some .int), .methodLink RX1 33 yX1_wordAt, .instanceMethod yX1_wordAt, .selects RX1 yX1_wordAt yX1_wordAt, .code yX1_wordAt cX1_wordAt 2 (some .long), .fieldLink RX1 9 "PieceSets$Numbers" "words" "[J", .methodLink RX1 58 yJ13_bitCount_95d88, .static yJ13_bitCount_95d88, .initialized RJ13, .code yJ13_bitCount_95d88 cJ13_bitCount_95d88 2 (some .int), .constantLong RJ13 314 (6148914691236517205), .constantLong RJ13 316 (3689348814741910323), .constantLong RJ13 318 (1085102592571150095)] ++ wsX10)
def wsX1_countIn : List Cond := .code yX1_countIn cX1_countIn 5 (some .int) :: ([.fieldLink RX1 9 "PieceSets$Numbers" "words" "[J", .methodLink RX1 41 yX1_mask, .static yX1_mask, .initialized RX1, .code yX1_mask cX1_mask 5 (some .long), .methodLink RX1 45 Lib.Math.max.name, .static Lib.Math.max.name, .initialized "java/lang/Math", .code Lib.Math.max.name Lib.Math.max.code 2 (some .int), .methodLink RX1 51 Lib.Math.min.name, .static Lib.Math.min.name, .code Lib.Math.min.name Lib.Math.min.code 2 (some .int), .constantLong RX1 31 (-1), .methodLink RX1 58 yJ13_bitCount_95d88, .static yJ13_bitCount_95d88, .initialized RJ13, .code yJ13_bitCount_95d88 cJ13_bitCount_95d88 2 (some .int), .constantLong RJ13 314 (6148914691236517205), .constantLong RJ13 316 (3689348814741910323), .constantLong RJ13 318 (1085102592571150095)] ++ wsX10)
def wsX1_nthBit : List Cond := .code yX1_nthBit cX1_nthBit 5 (some .int) :: ([])
def wsX1_nth : List Cond := .code yX1_nth cX1_nth 5 (some .int) :: ([.fieldLink RX1 9 "PieceSets$Numbers" "words" "[J", .methodLink RX1 58 yJ13_bitCount_95d88, .static yJ13_bitCount_95d88, .initialized RJ13, .code yJ13_bitCount_95d88 cJ13_bitCount_95d88 2 (some .int), .constantLong RJ13 314 (6148914691236517205), .constantLong RJ13 316 (3689348814741910323), .constantLong RJ13 318 (1085102592571150095), .methodLink RX1 64 yX1_nthBit, .static yX1_nthBit, .initialized RX1, .code yX1_nthBit cX1_nthBit 5 (some .int)] ++ wsX10)
def wsX1_costOf_r1 : List Cond := [Cond.methodLink RX1 71 yX1_kindOf, Cond.instanceMethod yX1_kindOf, Cond.selects RX1 yX1_kindOf yX1_kindOf, Cond.initialized RX1, Cond.code yX1_kindOf cX1_kindOf 5 (some .int), Cond.methodLink RX1 54 yX1_countInPiece, Cond.instanceMethod yX1_countInPiece, Cond.selects RX1 yX1_countInPiece yX1_countInPiece, Cond.code yX1_countInPiece cX1_countInPiece 4 (some .int), Cond.methodLink RX1 33 yX1_wordAt, Cond.instanceMethod yX1_wordAt, Cond.selects RX1 yX1_wordAt yX1_wordAt, Cond.code yX1_wordAt cX1_wordAt 2 (some .long), Cond.fieldLink RX1 9 "PieceSets$Numbers" "words" "[J", Cond.methodLink RX1 58 yJ13_bitCount_95d88, Cond.static yJ13_bitCount_95d88, Cond.initialized RJ13, Cond.code yJ13_bitCount_95d88 cJ13_bitCount_95d88 2 (some .int), Cond.constantLong RJ13 314 (6148914691236517205), Cond.constantLong RJ13 316 (3689348814741910323), Cond.constantLong RJ13 318 (1085102592571150095), Cond.methodLink RX1 68 yX1_countRuns, Cond.instanceMethod yX1_countRuns, Cond.selects RX1 yX1_countRuns yX1_countRuns]
def wsX1_costOf_r2 : List Cond := [Cond.code yX1_countRuns cX1_countRuns 9 (some .int), Cond.constantLong RX1 31 (-1)]
def wsX1_costOf : List Cond := .code yX1_costOf cX1_costOf 2 (some .int) :: ((wsX1_costOf_r1 ++ wsX1_costOf_r2) ++ wsX10)
def wsX1_detail_r1 : List Cond := [Cond.methodLink RX1 71 yX1_kindOf, Cond.instanceMethod yX1_kindOf, Cond.selects RX1 yX1_kindOf yX1_kindOf, Cond.initialized RX1, Cond.code yX1_kindOf cX1_kindOf 5 (some .int), Cond.methodLink RX1 54 yX1_countInPiece, Cond.instanceMethod yX1_countInPiece, Cond.selects RX1 yX1_countInPiece yX1_countInPiece, Cond.code yX1_countInPiece cX1_countInPiece 4 (some .int), Cond.methodLink RX1 33 yX1_wordAt, Cond.instanceMethod yX1_wordAt, Cond.selects RX1 yX1_wordAt yX1_wordAt, Cond.code yX1_wordAt cX1_wordAt 2 (some .long), Cond.fieldLink RX1 9 "PieceSets$Numbers" "words" "[J", Cond.methodLink RX1 58 yJ13_bitCount_95d88, Cond.static yJ13_bitCount_95d88, Cond.initialized RJ13, Cond.code yJ13_bitCount_95d88 cJ13_bitCount_95d88 2 (some .int), Cond.constantLong RJ13 314 (6148914691236517205), Cond.constantLong RJ13 316 (3689348814741910323), Cond.constantLong RJ13 318 (1085102592571150095), Cond.methodLink RX1 68 yX1_countRuns, Cond.instanceMethod yX1_countRuns, Cond.selects RX1 yX1_countRuns yX1_countRuns]
def wsX1_detail_r2 : List Cond := [Cond.code yX1_countRuns cX1_countRuns 9 (some .int), Cond.constantLong RX1 31 (-1), Cond.methodLink RX1 74 yX1_costOf, Cond.instanceMethod yX1_costOf, Cond.selects RX1 yX1_costOf yX1_costOf, Cond.code yX1_costOf cX1_costOf 2 (some .int)]
def wsX1_detail : List Cond := .code yX1_detail cX1_detail 3 (some .int) :: ((wsX1_detail_r1 ++ wsX1_detail_r2) ++ wsX10)
def wsX1_bitmapByte : List Cond := .code yX1_bitmapByte cX1_bitmapByte 3 (some .int) :: ([.constantLong RX1 86 (255), .methodLink RX1 33 yX1_wordAt, .instanceMethod yX1_wordAt, .selects RX1 yX1_wordAt yX1_wordAt, .initialized RX1, .code yX1_wordAt cX1_wordAt 2 (some .long), .fieldLink RX1 9 "PieceSets$Numbers" "words" "[J"] ++ wsX10)
def wsX1_nthPlace_r1 : List Cond := [Cond.methodLink RX1 88 yX1_countIn, Cond.instanceMethod yX1_countIn, Cond.selects RX1 yX1_countIn yX1_countIn, Cond.initialized RX1, Cond.code yX1_countIn cX1_countIn 5 (some .int), Cond.fieldLink RX1 9 "PieceSets$Numbers" "words" "[J", Cond.methodLink RX1 41 yX1_mask, Cond.static yX1_mask, Cond.code yX1_mask cX1_mask 5 (some .long), Cond.methodLink RX1 45 Lib.Math.max.name, Cond.static Lib.Math.max.name, Cond.initialized "java/lang/Math", Cond.code Lib.Math.max.name Lib.Math.max.code 2 (some .int), Cond.methodLink RX1 51 Lib.Math.min.name, Cond.static Lib.Math.min.name, Cond.code Lib.Math.min.name Lib.Math.min.code 2 (some .int), Cond.constantLong RX1 31 (-1), Cond.methodLink RX1 58 yJ13_bitCount_95d88, Cond.static yJ13_bitCount_95d88, Cond.initialized RJ13, Cond.code yJ13_bitCount_95d88 cJ13_bitCount_95d88 2 (some .int), Cond.constantLong RJ13 314 (6148914691236517205), Cond.constantLong RJ13 316 (3689348814741910323), Cond.constantLong RJ13 318 (1085102592571150095)]
def wsX1_nthPlace_r2 : List Cond := [Cond.methodLink RX1 91 yX1_nth, Cond.instanceMethod yX1_nth, Cond.selects RX1 yX1_nth yX1_nth, Cond.code yX1_nth cX1_nth 5 (some .int), Cond.methodLink RX1 64 yX1_nthBit, Cond.static yX1_nthBit, Cond.code yX1_nthBit cX1_nthBit 5 (some .int)]
def wsX1_nthPlace : List Cond := .code yX1_nthPlace cX1_nthPlace 3 (some .int) :: ((wsX1_nthPlace_r1 ++ wsX1_nthPlace_r2) ++ wsX10)
def wsX1_nthBorder : List Cond := .code yX1_nthBorder cX1_nthBorder 6 (some .int) :: ([.methodLink RX1 94 yX1_holds, .instanceMethod yX1_holds, .selects RX1 yX1_holds yX1_holds, .initialized RX1, .code yX1_holds cX1_holds 2 (some .boolean), .fieldLink RX1 9 "PieceSets$Numbers" "words" "[J", .static yX3_isNumber, .initialized RX3, .code yX3_isNumber cX3_isNumber 1 (some .boolean)] ++ wsX10)
def wsX1_writtenByte_r1 : List Cond := [Cond.methodLink RX1 71 yX1_kindOf, Cond.instanceMethod yX1_kindOf, Cond.selects RX1 yX1_kindOf yX1_kindOf, Cond.initialized RX1, Cond.code yX1_kindOf cX1_kindOf 5 (some .int), Cond.methodLink RX1 54 yX1_countInPiece, Cond.instanceMethod yX1_countInPiece, Cond.selects RX1 yX1_countInPiece yX1_countInPiece, Cond.code yX1_countInPiece cX1_countInPiece 4 (some .int), Cond.methodLink RX1 33 yX1_wordAt, Cond.instanceMethod yX1_wordAt, Cond.selects RX1 yX1_wordAt yX1_wordAt, Cond.code yX1_wordAt cX1_wordAt 2 (some .long), Cond.fieldLink RX1 9 "PieceSets$Numbers" "words" "[J", Cond.methodLink RX1 58 yJ13_bitCount_95d88, Cond.static yJ13_bitCount_95d88, Cond.initialized RJ13, Cond.code yJ13_bitCount_95d88 cJ13_bitCount_95d88 2 (some .int), Cond.constantLong RJ13 314 (6148914691236517205), Cond.constantLong RJ13 316 (3689348814741910323), Cond.constantLong RJ13 318 (1085102592571150095), Cond.methodLink RX1 68 yX1_countRuns, Cond.instanceMethod yX1_countRuns, Cond.selects RX1 yX1_countRuns yX1_countRuns]
def wsX1_writtenByte_r2 : List Cond := [Cond.code yX1_countRuns cX1_countRuns 9 (some .int), Cond.constantLong RX1 31 (-1), Cond.methodLink RX1 77 yX1_bitmapByte, Cond.instanceMethod yX1_bitmapByte, Cond.selects RX1 yX1_bitmapByte yX1_bitmapByte, Cond.code yX1_bitmapByte cX1_bitmapByte 3 (some .int), Cond.constantLong RX1 86 (255), Cond.methodLink RX1 80 yX1_nthPlace, Cond.instanceMethod yX1_nthPlace, Cond.selects RX1 yX1_nthPlace yX1_nthPlace, Cond.code yX1_nthPlace cX1_nthPlace 3 (some .int), Cond.methodLink RX1 88 yX1_countIn, Cond.instanceMethod yX1_countIn, Cond.selects RX1 yX1_countIn yX1_countIn, Cond.code yX1_countIn cX1_countIn 5 (some .int), Cond.methodLink RX1 41 yX1_mask, Cond.static yX1_mask, Cond.code yX1_mask cX1_mask 5 (some .long), Cond.methodLink RX1 45 Lib.Math.max.name, Cond.static Lib.Math.max.name, Cond.initialized "java/lang/Math", Cond.code Lib.Math.max.name Lib.Math.max.code 2 (some .int), Cond.methodLink RX1 51 Lib.Math.min.name, Cond.static Lib.Math.min.name]
def wsX1_writtenByte_r3 : List Cond := [Cond.code Lib.Math.min.name Lib.Math.min.code 2 (some .int), Cond.methodLink RX1 91 yX1_nth, Cond.instanceMethod yX1_nth, Cond.selects RX1 yX1_nth yX1_nth, Cond.code yX1_nth cX1_nth 5 (some .int), Cond.methodLink RX1 64 yX1_nthBit, Cond.static yX1_nthBit, Cond.code yX1_nthBit cX1_nthBit 5 (some .int), Cond.methodLink RX1 83 yX1_nthBorder, Cond.instanceMethod yX1_nthBorder, Cond.selects RX1 yX1_nthBorder yX1_nthBorder, Cond.code yX1_nthBorder cX1_nthBorder 6 (some .int), Cond.methodLink RX1 94 yX1_holds, Cond.instanceMethod yX1_holds, Cond.selects RX1 yX1_holds yX1_holds, Cond.code yX1_holds cX1_holds 2 (some .boolean), Cond.static yX3_isNumber, Cond.initialized RX3, Cond.code yX3_isNumber cX3_isNumber 1 (some .boolean)]
def wsX1_writtenByte : List Cond := .code yX1_writtenByte cX1_writtenByte 4 (some .int) :: ((wsX1_writtenByte_r1 ++ (wsX1_writtenByte_r2 ++ wsX1_writtenByte_r3)) ++ wsX10)
def wsX2_init : List Cond := .code yX2_init cX2_init 2 none :: ([.methodLink RX2 3 objectInit, .instanceMethod objectInit, .code objectInit ⟨#[0xb1]⟩ 1 none, .classLink RX2 9 RX1, .fieldLink RX2 11 "PieceSets$State" "sets" "[LPieceSets$Numbers;", .instantiable RX1 1, .initialized RX1, .arrayClass .int, .fieldLink RX2 18 "PieceSets$State" "meetings" "[I", .fieldLink RX2 22 "PieceSets$State" "conversions" "[I", .instanceMethod yX1_init, .code yX1_init cX1_init 1 none, .methodLink RX1 3 objectInit, .arrayClass .long, .fieldLink RX1 9 "PieceSets$Numbers" "words" "[J"] ++ wsX20 ++ wsX10)
def wsX2_become : List Cond := .code yX2_become cX2_become 3 none :: ([.fieldLink RX2 11 "PieceSets$State" "sets" "[LPieceSets$Numbers;", .fieldLink RX2 18 "PieceSets$State" "meetings" "[I", .methodLink RX2 29 arraycopyName, .native arraycopyName, .static arraycopyName, .initialized "java/lang/System", .fieldLink RX2 22 "PieceSets$State" "conversions" "[I", .instanceMethod yX1_become, .initialized RX1, .selects RX1 yX1_become yX1_become, .code yX1_become cX1_become 2 none, .fieldLink RX1 9 "PieceSets$Numbers" "words" "[J", .methodLink RX1 15 arraycopyName] ++ wsX20 ++ wsX10)
def wsX2_countMeetings_r1 : List Cond := [Cond.fieldLink RX2 18 "PieceSets$State" "meetings" "[I", Cond.instanceMethod yX1_kindOf, Cond.initialized RX1, Cond.selects RX1 yX1_kindOf yX1_kindOf, Cond.code yX1_kindOf cX1_kindOf 5 (some .int), Cond.methodLink RX1 54 yX1_countInPiece, Cond.instanceMethod yX1_countInPiece, Cond.selects RX1 yX1_countInPiece yX1_countInPiece, Cond.code yX1_countInPiece cX1_countInPiece 4 (some .int), Cond.methodLink RX1 33 yX1_wordAt, Cond.instanceMethod yX1_wordAt, Cond.selects RX1 yX1_wordAt yX1_wordAt, Cond.code yX1_wordAt cX1_wordAt 2 (some .long), Cond.fieldLink RX1 9 "PieceSets$Numbers" "words" "[J", Cond.methodLink RX1 58 yJ13_bitCount_95d88, Cond.static yJ13_bitCount_95d88, Cond.initialized RJ13, Cond.code yJ13_bitCount_95d88 cJ13_bitCount_95d88 2 (some .int), Cond.constantLong RJ13 314 (6148914691236517205), Cond.constantLong RJ13 316 (3689348814741910323), Cond.constantLong RJ13 318 (1085102592571150095), Cond.methodLink RX1 68 yX1_countRuns, Cond.instanceMethod yX1_countRuns, Cond.selects RX1 yX1_countRuns yX1_countRuns]
def wsX2_countMeetings_r2 : List Cond := [Cond.code yX1_countRuns cX1_countRuns 9 (some .int), Cond.constantLong RX1 31 (-1), Cond.static yX3_isKind, Cond.initialized RX3, Cond.code yX3_isKind cX3_isKind 1 (some .boolean)]
def wsX2_countMeetings : List Cond := .code yX2_countMeetings cX2_countMeetings 6 none :: ((wsX2_countMeetings_r1 ++ wsX2_countMeetings_r2) ++ wsX20 ++ wsX10)
def wsX2_countConversions_r1 : List Cond := [Cond.fieldLink RX2 22 "PieceSets$State" "conversions" "[I", Cond.instanceMethod yX1_kindOf, Cond.initialized RX1, Cond.selects RX1 yX1_kindOf yX1_kindOf, Cond.code yX1_kindOf cX1_kindOf 5 (some .int), Cond.methodLink RX1 54 yX1_countInPiece, Cond.instanceMethod yX1_countInPiece, Cond.selects RX1 yX1_countInPiece yX1_countInPiece, Cond.code yX1_countInPiece cX1_countInPiece 4 (some .int), Cond.methodLink RX1 33 yX1_wordAt, Cond.instanceMethod yX1_wordAt, Cond.selects RX1 yX1_wordAt yX1_wordAt, Cond.code yX1_wordAt cX1_wordAt 2 (some .long), Cond.fieldLink RX1 9 "PieceSets$Numbers" "words" "[J", Cond.methodLink RX1 58 yJ13_bitCount_95d88, Cond.static yJ13_bitCount_95d88, Cond.initialized RJ13, Cond.code yJ13_bitCount_95d88 cJ13_bitCount_95d88 2 (some .int), Cond.constantLong RJ13 314 (6148914691236517205), Cond.constantLong RJ13 316 (3689348814741910323), Cond.constantLong RJ13 318 (1085102592571150095), Cond.methodLink RX1 68 yX1_countRuns, Cond.instanceMethod yX1_countRuns, Cond.selects RX1 yX1_countRuns yX1_countRuns]
def wsX2_countConversions_r2 : List Cond := [Cond.code yX1_countRuns cX1_countRuns 9 (some .int), Cond.constantLong RX1 31 (-1), Cond.static yX3_isKind, Cond.initialized RX3, Cond.code yX3_isKind cX3_isKind 1 (some .boolean)]
def wsX2_countConversions : List Cond := .code yX2_countConversions cX2_countConversions 6 none :: ((wsX2_countConversions_r1 ++ wsX2_countConversions_r2) ++ wsX20 ++ wsX10)
def wsX3_init_r1 : List Cond := [Cond.methodLink RX3 1 objectInit, Cond.instanceMethod objectInit, Cond.code objectInit ⟨#[0xb1]⟩ 1 none, Cond.classLink RX3 7 RX2, Cond.instantiable RX2 3, Cond.initialized RX2, Cond.fieldLink RX3 10 "PieceSets" "now" "LPieceSets$State;", Cond.fieldLink RX3 16 "PieceSets" "past" "[LPieceSets$State;", Cond.fieldLink RX3 20 "PieceSets" "kept" "I", Cond.classLink RX3 24 RX0, Cond.instantiable RX0 2, Cond.initialized RX0, Cond.fieldLink RX3 27 "PieceSets" "buffer" "LPieceSets$Buffer;", Cond.classLink RX3 31 RX1, Cond.instantiable RX1 1, Cond.initialized RX1, Cond.fieldLink RX3 34 "PieceSets" "scratch" "LPieceSets$Numbers;", Cond.instanceMethod yX2_init, Cond.code yX2_init cX2_init 2 none, Cond.methodLink RX2 3 objectInit, Cond.classLink RX2 9 RX1, Cond.fieldLink RX2 11 "PieceSets$State" "sets" "[LPieceSets$Numbers;", Cond.arrayClass .int, Cond.fieldLink RX2 18 "PieceSets$State" "meetings" "[I"]
def wsX3_init_r2 : List Cond := [Cond.fieldLink RX2 22 "PieceSets$State" "conversions" "[I", Cond.instanceMethod yX1_init, Cond.code yX1_init cX1_init 1 none, Cond.methodLink RX1 3 objectInit, Cond.arrayClass .long, Cond.fieldLink RX1 9 "PieceSets$Numbers" "words" "[J", Cond.instanceMethod yX0_init, Cond.code yX0_init cX0_init 1 none, Cond.methodLink RX0 3 objectInit, Cond.fieldLink RX0 9 "PieceSets$Buffer" "row" "[I", Cond.fieldLink RX0 15 "PieceSets$Buffer" "length" "I"]
def wsX3_init : List Cond := .code yX3_init cX3_init 2 none :: ((wsX3_init_r1 ++ wsX3_init_r2) ++ wsX20 ++ wsX30 ++ wsX00 ++ wsX10)
def wsX3_isSet : List Cond := .code yX3_isSet cX3_isSet 1 (some .boolean) :: ([])
def wsX3_isRange : List Cond := .code yX3_isRange cX3_isRange 2 (some .boolean) :: ([.methodLink RX3 160 yX3_isNumber, .static yX3_isNumber, .initialized RX3, .code yX3_isNumber cX3_isNumber 1 (some .boolean)])
def wsX3_keepState : List Cond := .code yX3_keepState cX3_keepState 3 (some (.object "PieceSets$State")) :: ([.fieldLink RX3 20 "PieceSets" "kept" "I", .fieldLink RX3 16 "PieceSets" "past" "[LPieceSets$State;", .fieldLink RX3 10 "PieceSets" "now" "LPieceSets$State;", .instanceMethod yX2_become, .initialized RX2, .selects RX2 yX2_become yX2_become, .code yX2_become cX2_become 3 none, .fieldLink RX2 11 "PieceSets$State" "sets" "[LPieceSets$Numbers;", .fieldLink RX2 18 "PieceSets$State" "meetings" "[I", .methodLink RX2 29 arraycopyName, .native arraycopyName, .static arraycopyName, .initialized "java/lang/System", .fieldLink RX2 22 "PieceSets$State" "conversions" "[I", .instanceMethod yX1_become, .initialized RX1, .selects RX1 yX1_become yX1_become, .code yX1_become cX1_become 2 none, .fieldLink RX1 9 "PieceSets$Numbers" "words" "[J", .methodLink RX1 15 arraycopyName] ++ wsX30 ++ wsX20 ++ wsX10)
def wsX3_add_r1 : List Cond := [Cond.fieldLink RX3 10 "PieceSets" "now" "LPieceSets$State;", Cond.methodLink RX3 38 yX3_isSet, Cond.static yX3_isSet, Cond.initialized RX3, Cond.code yX3_isSet cX3_isSet 1 (some .boolean), Cond.methodLink RX3 42 yX3_isRange, Cond.static yX3_isRange, Cond.code yX3_isRange cX3_isRange 2 (some .boolean), Cond.methodLink RX3 160 yX3_isNumber, Cond.static yX3_isNumber, Cond.code yX3_isNumber cX3_isNumber 1 (some .boolean), Cond.methodLink RX3 46 yX3_keepState, Cond.instanceMethod yX3_keepState, Cond.selects RX3 yX3_keepState yX3_keepState, Cond.code yX3_keepState cX3_keepState 3 (some (.object "PieceSets$State")), Cond.fieldLink RX3 20 "PieceSets" "kept" "I", Cond.fieldLink RX3 16 "PieceSets" "past" "[LPieceSets$State;", Cond.instanceMethod yX2_become, Cond.initialized RX2, Cond.selects RX2 yX2_become yX2_become, Cond.code yX2_become cX2_become 3 none, Cond.fieldLink RX2 11 "PieceSets$State" "sets" "[LPieceSets$Numbers;", Cond.fieldLink RX2 18 "PieceSets$State" "meetings" "[I", Cond.methodLink RX2 29 arraycopyName]
def wsX3_add_r2 : List Cond := [Cond.native arraycopyName, Cond.static arraycopyName, Cond.initialized "java/lang/System", Cond.fieldLink RX2 22 "PieceSets$State" "conversions" "[I", Cond.instanceMethod yX1_become, Cond.initialized RX1, Cond.selects RX1 yX1_become yX1_become, Cond.code yX1_become cX1_become 2 none, Cond.fieldLink RX1 9 "PieceSets$Numbers" "words" "[J", Cond.methodLink RX1 15 arraycopyName, Cond.instanceMethod yX1_includeAll, Cond.selects RX1 yX1_includeAll yX1_includeAll, Cond.code yX1_includeAll cX1_includeAll 4 none, Cond.methodLink RX1 41 yX1_mask, Cond.static yX1_mask, Cond.code yX1_mask cX1_mask 5 (some .long), Cond.methodLink RX1 45 Lib.Math.max.name, Cond.static Lib.Math.max.name, Cond.initialized "java/lang/Math", Cond.code Lib.Math.max.name Lib.Math.max.code 2 (some .int), Cond.methodLink RX1 51 Lib.Math.min.name, Cond.static Lib.Math.min.name, Cond.code Lib.Math.min.name Lib.Math.min.code 2 (some .int), Cond.constantLong RX1 31 (-1)]
def wsX3_add_r3 : List Cond := [Cond.instanceMethod yX2_countConversions, Cond.selects RX2 yX2_countConversions yX2_countConversions, Cond.code yX2_countConversions cX2_countConversions 6 none, Cond.instanceMethod yX1_kindOf, Cond.selects RX1 yX1_kindOf yX1_kindOf, Cond.code yX1_kindOf cX1_kindOf 5 (some .int), Cond.methodLink RX1 54 yX1_countInPiece, Cond.instanceMethod yX1_countInPiece, Cond.selects RX1 yX1_countInPiece yX1_countInPiece, Cond.code yX1_countInPiece cX1_countInPiece 4 (some .int), Cond.methodLink RX1 33 yX1_wordAt, Cond.instanceMethod yX1_wordAt, Cond.selects RX1 yX1_wordAt yX1_wordAt, Cond.code yX1_wordAt cX1_wordAt 2 (some .long), Cond.methodLink RX1 58 yJ13_bitCount_95d88, Cond.static yJ13_bitCount_95d88, Cond.initialized RJ13, Cond.code yJ13_bitCount_95d88 cJ13_bitCount_95d88 2 (some .int), Cond.constantLong RJ13 314 (6148914691236517205), Cond.constantLong RJ13 316 (3689348814741910323), Cond.constantLong RJ13 318 (1085102592571150095), Cond.methodLink RX1 68 yX1_countRuns, Cond.instanceMethod yX1_countRuns, Cond.selects RX1 yX1_countRuns yX1_countRuns]
def wsX3_add_r4 : List Cond := [Cond.code yX1_countRuns cX1_countRuns 9 (some .int), Cond.static yX3_isKind, Cond.code yX3_isKind cX3_isKind 1 (some .boolean), Cond.instanceMethod yX1_count, Cond.selects RX1 yX1_count yX1_count, Cond.code yX1_count cX1_count 3 (some .int)]
def wsX3_add : List Cond := .code yX3_add cX3_add 6 (some .int) :: ((wsX3_add_r1 ++ (wsX3_add_r2 ++ (wsX3_add_r3 ++ wsX3_add_r4))) ++ wsX20 ++ wsX30 ++ wsX10)
def wsX3_remove_r1 : List Cond := [Cond.fieldLink RX3 10 "PieceSets" "now" "LPieceSets$State;", Cond.methodLink RX3 38 yX3_isSet, Cond.static yX3_isSet, Cond.initialized RX3, Cond.code yX3_isSet cX3_isSet 1 (some .boolean), Cond.methodLink RX3 42 yX3_isRange, Cond.static yX3_isRange, Cond.code yX3_isRange cX3_isRange 2 (some .boolean), Cond.methodLink RX3 160 yX3_isNumber, Cond.static yX3_isNumber, Cond.code yX3_isNumber cX3_isNumber 1 (some .boolean), Cond.methodLink RX3 46 yX3_keepState, Cond.instanceMethod yX3_keepState, Cond.selects RX3 yX3_keepState yX3_keepState, Cond.code yX3_keepState cX3_keepState 3 (some (.object "PieceSets$State")), Cond.fieldLink RX3 20 "PieceSets" "kept" "I", Cond.fieldLink RX3 16 "PieceSets" "past" "[LPieceSets$State;", Cond.instanceMethod yX2_become, Cond.initialized RX2, Cond.selects RX2 yX2_become yX2_become, Cond.code yX2_become cX2_become 3 none, Cond.fieldLink RX2 11 "PieceSets$State" "sets" "[LPieceSets$Numbers;", Cond.fieldLink RX2 18 "PieceSets$State" "meetings" "[I", Cond.methodLink RX2 29 arraycopyName]
def wsX3_remove_r2 : List Cond := [Cond.native arraycopyName, Cond.static arraycopyName, Cond.initialized "java/lang/System", Cond.fieldLink RX2 22 "PieceSets$State" "conversions" "[I", Cond.instanceMethod yX1_become, Cond.initialized RX1, Cond.selects RX1 yX1_become yX1_become, Cond.code yX1_become cX1_become 2 none, Cond.fieldLink RX1 9 "PieceSets$Numbers" "words" "[J", Cond.methodLink RX1 15 arraycopyName, Cond.instanceMethod yX1_excludeAll, Cond.selects RX1 yX1_excludeAll yX1_excludeAll, Cond.code yX1_excludeAll cX1_excludeAll 4 none, Cond.constantLong RX1 31 (-1), Cond.methodLink RX1 41 yX1_mask, Cond.static yX1_mask, Cond.code yX1_mask cX1_mask 5 (some .long), Cond.methodLink RX1 45 Lib.Math.max.name, Cond.static Lib.Math.max.name, Cond.initialized "java/lang/Math", Cond.code Lib.Math.max.name Lib.Math.max.code 2 (some .int), Cond.methodLink RX1 51 Lib.Math.min.name, Cond.static Lib.Math.min.name, Cond.code Lib.Math.min.name Lib.Math.min.code 2 (some .int)]
def wsX3_remove_r3 : List Cond := [Cond.instanceMethod yX2_countConversions, Cond.selects RX2 yX2_countConversions yX2_countConversions, Cond.code yX2_countConversions cX2_countConversions 6 none, Cond.instanceMethod yX1_kindOf, Cond.selects RX1 yX1_kindOf yX1_kindOf, Cond.code yX1_kindOf cX1_kindOf 5 (some .int), Cond.methodLink RX1 54 yX1_countInPiece, Cond.instanceMethod yX1_countInPiece, Cond.selects RX1 yX1_countInPiece yX1_countInPiece, Cond.code yX1_countInPiece cX1_countInPiece 4 (some .int), Cond.methodLink RX1 33 yX1_wordAt, Cond.instanceMethod yX1_wordAt, Cond.selects RX1 yX1_wordAt yX1_wordAt, Cond.code yX1_wordAt cX1_wordAt 2 (some .long), Cond.methodLink RX1 58 yJ13_bitCount_95d88, Cond.static yJ13_bitCount_95d88, Cond.initialized RJ13, Cond.code yJ13_bitCount_95d88 cJ13_bitCount_95d88 2 (some .int), Cond.constantLong RJ13 314 (6148914691236517205), Cond.constantLong RJ13 316 (3689348814741910323), Cond.constantLong RJ13 318 (1085102592571150095), Cond.methodLink RX1 68 yX1_countRuns, Cond.instanceMethod yX1_countRuns, Cond.selects RX1 yX1_countRuns yX1_countRuns]
def wsX3_remove_r4 : List Cond := [Cond.code yX1_countRuns cX1_countRuns 9 (some .int), Cond.static yX3_isKind, Cond.code yX3_isKind cX3_isKind 1 (some .boolean), Cond.instanceMethod yX1_count, Cond.selects RX1 yX1_count yX1_count, Cond.code yX1_count cX1_count 3 (some .int)]
def wsX3_remove : List Cond := .code yX3_remove cX3_remove 6 (some .int) :: ((wsX3_remove_r1 ++ (wsX3_remove_r2 ++ (wsX3_remove_r3 ++ wsX3_remove_r4))) ++ wsX20 ++ wsX30 ++ wsX10)
def wsX3_flip_r1 : List Cond := [Cond.fieldLink RX3 10 "PieceSets" "now" "LPieceSets$State;", Cond.methodLink RX3 38 yX3_isSet, Cond.static yX3_isSet, Cond.initialized RX3, Cond.code yX3_isSet cX3_isSet 1 (some .boolean), Cond.methodLink RX3 42 yX3_isRange, Cond.static yX3_isRange, Cond.code yX3_isRange cX3_isRange 2 (some .boolean), Cond.methodLink RX3 160 yX3_isNumber, Cond.static yX3_isNumber, Cond.code yX3_isNumber cX3_isNumber 1 (some .boolean), Cond.methodLink RX3 46 yX3_keepState, Cond.instanceMethod yX3_keepState, Cond.selects RX3 yX3_keepState yX3_keepState, Cond.code yX3_keepState cX3_keepState 3 (some (.object "PieceSets$State")), Cond.fieldLink RX3 20 "PieceSets" "kept" "I", Cond.fieldLink RX3 16 "PieceSets" "past" "[LPieceSets$State;", Cond.instanceMethod yX2_become, Cond.initialized RX2, Cond.selects RX2 yX2_become yX2_become, Cond.code yX2_become cX2_become 3 none, Cond.fieldLink RX2 11 "PieceSets$State" "sets" "[LPieceSets$Numbers;", Cond.fieldLink RX2 18 "PieceSets$State" "meetings" "[I", Cond.methodLink RX2 29 arraycopyName]
def wsX3_flip_r2 : List Cond := [Cond.native arraycopyName, Cond.static arraycopyName, Cond.initialized "java/lang/System", Cond.fieldLink RX2 22 "PieceSets$State" "conversions" "[I", Cond.instanceMethod yX1_become, Cond.initialized RX1, Cond.selects RX1 yX1_become yX1_become, Cond.code yX1_become cX1_become 2 none, Cond.fieldLink RX1 9 "PieceSets$Numbers" "words" "[J", Cond.methodLink RX1 15 arraycopyName, Cond.instanceMethod yX1_turnAll, Cond.selects RX1 yX1_turnAll yX1_turnAll, Cond.code yX1_turnAll cX1_turnAll 4 none, Cond.methodLink RX1 41 yX1_mask, Cond.static yX1_mask, Cond.code yX1_mask cX1_mask 5 (some .long), Cond.methodLink RX1 45 Lib.Math.max.name, Cond.static Lib.Math.max.name, Cond.initialized "java/lang/Math", Cond.code Lib.Math.max.name Lib.Math.max.code 2 (some .int), Cond.methodLink RX1 51 Lib.Math.min.name, Cond.static Lib.Math.min.name, Cond.code Lib.Math.min.name Lib.Math.min.code 2 (some .int), Cond.constantLong RX1 31 (-1)]
def wsX3_flip_r3 : List Cond := [Cond.instanceMethod yX2_countConversions, Cond.selects RX2 yX2_countConversions yX2_countConversions, Cond.code yX2_countConversions cX2_countConversions 6 none, Cond.instanceMethod yX1_kindOf, Cond.selects RX1 yX1_kindOf yX1_kindOf, Cond.code yX1_kindOf cX1_kindOf 5 (some .int), Cond.methodLink RX1 54 yX1_countInPiece, Cond.instanceMethod yX1_countInPiece, Cond.selects RX1 yX1_countInPiece yX1_countInPiece, Cond.code yX1_countInPiece cX1_countInPiece 4 (some .int), Cond.methodLink RX1 33 yX1_wordAt, Cond.instanceMethod yX1_wordAt, Cond.selects RX1 yX1_wordAt yX1_wordAt, Cond.code yX1_wordAt cX1_wordAt 2 (some .long), Cond.methodLink RX1 58 yJ13_bitCount_95d88, Cond.static yJ13_bitCount_95d88, Cond.initialized RJ13, Cond.code yJ13_bitCount_95d88 cJ13_bitCount_95d88 2 (some .int), Cond.constantLong RJ13 314 (6148914691236517205), Cond.constantLong RJ13 316 (3689348814741910323), Cond.constantLong RJ13 318 (1085102592571150095), Cond.methodLink RX1 68 yX1_countRuns, Cond.instanceMethod yX1_countRuns, Cond.selects RX1 yX1_countRuns yX1_countRuns]
def wsX3_flip_r4 : List Cond := [Cond.code yX1_countRuns cX1_countRuns 9 (some .int), Cond.static yX3_isKind, Cond.code yX3_isKind cX3_isKind 1 (some .boolean), Cond.instanceMethod yX1_countIn, Cond.selects RX1 yX1_countIn yX1_countIn, Cond.code yX1_countIn cX1_countIn 5 (some .int)]
def wsX3_flip : List Cond := .code yX3_flip cX3_flip 6 (some .int) :: ((wsX3_flip_r1 ++ (wsX3_flip_r2 ++ (wsX3_flip_r3 ++ wsX3_flip_r4))) ++ wsX20 ++ wsX30 ++ wsX10)
def wsX3_scatter_r1 : List Cond := [Cond.fieldLink RX3 10 "PieceSets" "now" "LPieceSets$State;", Cond.constant RX3 76 (1103515245), Cond.methodLink RX3 38 yX3_isSet, Cond.static yX3_isSet, Cond.initialized RX3, Cond.code yX3_isSet cX3_isSet 1 (some .boolean), Cond.methodLink RX3 46 yX3_keepState, Cond.instanceMethod yX3_keepState, Cond.selects RX3 yX3_keepState yX3_keepState, Cond.code yX3_keepState cX3_keepState 3 (some (.object "PieceSets$State")), Cond.fieldLink RX3 20 "PieceSets" "kept" "I", Cond.fieldLink RX3 16 "PieceSets" "past" "[LPieceSets$State;", Cond.instanceMethod yX2_become, Cond.initialized RX2, Cond.selects RX2 yX2_become yX2_become, Cond.code yX2_become cX2_become 3 none, Cond.fieldLink RX2 11 "PieceSets$State" "sets" "[LPieceSets$Numbers;", Cond.fieldLink RX2 18 "PieceSets$State" "meetings" "[I", Cond.methodLink RX2 29 arraycopyName, Cond.native arraycopyName, Cond.static arraycopyName, Cond.initialized "java/lang/System", Cond.fieldLink RX2 22 "PieceSets$State" "conversions" "[I", Cond.instanceMethod yX1_become]
def wsX3_scatter_r2 : List Cond := [Cond.initialized RX1, Cond.selects RX1 yX1_become yX1_become, Cond.code yX1_become cX1_become 2 none, Cond.fieldLink RX1 9 "PieceSets$Numbers" "words" "[J", Cond.methodLink RX1 15 arraycopyName, Cond.instanceMethod yX1_include, Cond.selects RX1 yX1_include yX1_include, Cond.code yX1_include cX1_include 2 none, Cond.static yX3_isNumber, Cond.code yX3_isNumber cX3_isNumber 1 (some .boolean), Cond.instanceMethod yX2_countConversions, Cond.selects RX2 yX2_countConversions yX2_countConversions, Cond.code yX2_countConversions cX2_countConversions 6 none, Cond.instanceMethod yX1_kindOf, Cond.selects RX1 yX1_kindOf yX1_kindOf, Cond.code yX1_kindOf cX1_kindOf 5 (some .int), Cond.methodLink RX1 54 yX1_countInPiece, Cond.instanceMethod yX1_countInPiece, Cond.selects RX1 yX1_countInPiece yX1_countInPiece, Cond.code yX1_countInPiece cX1_countInPiece 4 (some .int), Cond.methodLink RX1 33 yX1_wordAt, Cond.instanceMethod yX1_wordAt, Cond.selects RX1 yX1_wordAt yX1_wordAt, Cond.code yX1_wordAt cX1_wordAt 2 (some .long)]
def wsX3_scatter_r3 : List Cond := [Cond.methodLink RX1 58 yJ13_bitCount_95d88, Cond.static yJ13_bitCount_95d88, Cond.initialized RJ13, Cond.code yJ13_bitCount_95d88 cJ13_bitCount_95d88 2 (some .int), Cond.constantLong RJ13 314 (6148914691236517205), Cond.constantLong RJ13 316 (3689348814741910323), Cond.constantLong RJ13 318 (1085102592571150095), Cond.methodLink RX1 68 yX1_countRuns, Cond.instanceMethod yX1_countRuns, Cond.selects RX1 yX1_countRuns yX1_countRuns, Cond.code yX1_countRuns cX1_countRuns 9 (some .int), Cond.constantLong RX1 31 (-1), Cond.static yX3_isKind, Cond.code yX3_isKind cX3_isKind 1 (some .boolean), Cond.instanceMethod yX1_count, Cond.selects RX1 yX1_count yX1_count, Cond.code yX1_count cX1_count 3 (some .int)]
def wsX3_scatter : List Cond := .code yX3_scatter cX3_scatter 8 (some .int) :: ((wsX3_scatter_r1 ++ (wsX3_scatter_r2 ++ wsX3_scatter_r3)) ++ wsX20 ++ wsX30 ++ wsX10)
def wsX3_combine_r1 : List Cond := [Cond.fieldLink RX3 10 "PieceSets" "now" "LPieceSets$State;", Cond.methodLink RX3 38 yX3_isSet, Cond.static yX3_isSet, Cond.initialized RX3, Cond.code yX3_isSet cX3_isSet 1 (some .boolean), Cond.methodLink RX3 46 yX3_keepState, Cond.instanceMethod yX3_keepState, Cond.selects RX3 yX3_keepState yX3_keepState, Cond.code yX3_keepState cX3_keepState 3 (some (.object "PieceSets$State")), Cond.fieldLink RX3 20 "PieceSets" "kept" "I", Cond.fieldLink RX3 16 "PieceSets" "past" "[LPieceSets$State;", Cond.instanceMethod yX2_become, Cond.initialized RX2, Cond.selects RX2 yX2_become yX2_become, Cond.code yX2_become cX2_become 3 none, Cond.fieldLink RX2 11 "PieceSets$State" "sets" "[LPieceSets$Numbers;", Cond.fieldLink RX2 18 "PieceSets$State" "meetings" "[I", Cond.methodLink RX2 29 arraycopyName, Cond.native arraycopyName, Cond.static arraycopyName, Cond.initialized "java/lang/System", Cond.fieldLink RX2 22 "PieceSets$State" "conversions" "[I", Cond.instanceMethod yX1_become, Cond.initialized RX1]
def wsX3_combine_r2 : List Cond := [Cond.selects RX1 yX1_become yX1_become, Cond.code yX1_become cX1_become 2 none, Cond.fieldLink RX1 9 "PieceSets$Numbers" "words" "[J", Cond.methodLink RX1 15 arraycopyName, Cond.instanceMethod yX1_becomeJoin, Cond.selects RX1 yX1_becomeJoin yX1_becomeJoin, Cond.code yX1_becomeJoin cX1_becomeJoin 5 none, Cond.methodLink RX1 27 yX1_join, Cond.static yX1_join, Cond.code yX1_join cX1_join 5 (some .long), Cond.constantLong RX1 31 (-1), Cond.instanceMethod yX2_countMeetings, Cond.selects RX2 yX2_countMeetings yX2_countMeetings, Cond.code yX2_countMeetings cX2_countMeetings 6 none, Cond.instanceMethod yX1_kindOf, Cond.selects RX1 yX1_kindOf yX1_kindOf, Cond.code yX1_kindOf cX1_kindOf 5 (some .int), Cond.methodLink RX1 54 yX1_countInPiece, Cond.instanceMethod yX1_countInPiece, Cond.selects RX1 yX1_countInPiece yX1_countInPiece, Cond.code yX1_countInPiece cX1_countInPiece 4 (some .int), Cond.methodLink RX1 33 yX1_wordAt, Cond.instanceMethod yX1_wordAt, Cond.selects RX1 yX1_wordAt yX1_wordAt]
def wsX3_combine_r3 : List Cond := [Cond.code yX1_wordAt cX1_wordAt 2 (some .long), Cond.methodLink RX1 58 yJ13_bitCount_95d88, Cond.static yJ13_bitCount_95d88, Cond.initialized RJ13, Cond.code yJ13_bitCount_95d88 cJ13_bitCount_95d88 2 (some .int), Cond.constantLong RJ13 314 (6148914691236517205), Cond.constantLong RJ13 316 (3689348814741910323), Cond.constantLong RJ13 318 (1085102592571150095), Cond.methodLink RX1 68 yX1_countRuns, Cond.instanceMethod yX1_countRuns, Cond.selects RX1 yX1_countRuns yX1_countRuns, Cond.code yX1_countRuns cX1_countRuns 9 (some .int), Cond.static yX3_isKind, Cond.code yX3_isKind cX3_isKind 1 (some .boolean), Cond.instanceMethod yX2_countConversions, Cond.selects RX2 yX2_countConversions yX2_countConversions, Cond.code yX2_countConversions cX2_countConversions 6 none, Cond.instanceMethod yX1_count, Cond.selects RX1 yX1_count yX1_count, Cond.code yX1_count cX1_count 3 (some .int)]
def wsX3_combine : List Cond := .code yX3_combine cX3_combine 7 (some .int) :: ((wsX3_combine_r1 ++ (wsX3_combine_r2 ++ wsX3_combine_r3)) ++ wsX30 ++ wsX20 ++ wsX10)
def wsX3_shift_r1 : List Cond := [Cond.fieldLink RX3 10 "PieceSets" "now" "LPieceSets$State;", Cond.methodLink RX3 38 yX3_isSet, Cond.static yX3_isSet, Cond.initialized RX3, Cond.code yX3_isSet cX3_isSet 1 (some .boolean), Cond.methodLink RX3 46 yX3_keepState, Cond.instanceMethod yX3_keepState, Cond.selects RX3 yX3_keepState yX3_keepState, Cond.code yX3_keepState cX3_keepState 3 (some (.object "PieceSets$State")), Cond.fieldLink RX3 20 "PieceSets" "kept" "I", Cond.fieldLink RX3 16 "PieceSets" "past" "[LPieceSets$State;", Cond.instanceMethod yX2_become, Cond.initialized RX2, Cond.selects RX2 yX2_become yX2_become, Cond.code yX2_become cX2_become 3 none, Cond.fieldLink RX2 11 "PieceSets$State" "sets" "[LPieceSets$Numbers;", Cond.fieldLink RX2 18 "PieceSets$State" "meetings" "[I", Cond.methodLink RX2 29 arraycopyName, Cond.native arraycopyName, Cond.static arraycopyName, Cond.initialized "java/lang/System", Cond.fieldLink RX2 22 "PieceSets$State" "conversions" "[I", Cond.instanceMethod yX1_become, Cond.initialized RX1]
def wsX3_shift_r2 : List Cond := [Cond.selects RX1 yX1_become yX1_become, Cond.code yX1_become cX1_become 2 none, Cond.fieldLink RX1 9 "PieceSets$Numbers" "words" "[J", Cond.methodLink RX1 15 arraycopyName, Cond.instanceMethod yX1_becomeMoved, Cond.selects RX1 yX1_becomeMoved yX1_becomeMoved, Cond.code yX1_becomeMoved cX1_becomeMoved 10 none, Cond.methodLink RX1 33 yX1_wordAt, Cond.instanceMethod yX1_wordAt, Cond.selects RX1 yX1_wordAt yX1_wordAt, Cond.code yX1_wordAt cX1_wordAt 2 (some .long), Cond.instanceMethod yX2_countConversions, Cond.selects RX2 yX2_countConversions yX2_countConversions, Cond.code yX2_countConversions cX2_countConversions 6 none, Cond.instanceMethod yX1_kindOf, Cond.selects RX1 yX1_kindOf yX1_kindOf, Cond.code yX1_kindOf cX1_kindOf 5 (some .int), Cond.methodLink RX1 54 yX1_countInPiece, Cond.instanceMethod yX1_countInPiece, Cond.selects RX1 yX1_countInPiece yX1_countInPiece, Cond.code yX1_countInPiece cX1_countInPiece 4 (some .int), Cond.methodLink RX1 58 yJ13_bitCount_95d88, Cond.static yJ13_bitCount_95d88, Cond.initialized RJ13]
def wsX3_shift_r3 : List Cond := [Cond.code yJ13_bitCount_95d88 cJ13_bitCount_95d88 2 (some .int), Cond.constantLong RJ13 314 (6148914691236517205), Cond.constantLong RJ13 316 (3689348814741910323), Cond.constantLong RJ13 318 (1085102592571150095), Cond.methodLink RX1 68 yX1_countRuns, Cond.instanceMethod yX1_countRuns, Cond.selects RX1 yX1_countRuns yX1_countRuns, Cond.code yX1_countRuns cX1_countRuns 9 (some .int), Cond.constantLong RX1 31 (-1), Cond.static yX3_isKind, Cond.code yX3_isKind cX3_isKind 1 (some .boolean), Cond.instanceMethod yX1_count, Cond.selects RX1 yX1_count yX1_count, Cond.code yX1_count cX1_count 3 (some .int)]
def wsX3_shift : List Cond := .code yX3_shift cX3_shift 5 (some .int) :: ((wsX3_shift_r1 ++ (wsX3_shift_r2 ++ wsX3_shift_r3)) ++ wsX20 ++ wsX30 ++ wsX10)
def wsX3_size_r1 : List Cond := [Cond.fieldLink RX3 10 "PieceSets" "now" "LPieceSets$State;", Cond.methodLink RX3 38 yX3_isSet, Cond.static yX3_isSet, Cond.initialized RX3, Cond.code yX3_isSet cX3_isSet 1 (some .boolean), Cond.instanceMethod yX1_count, Cond.initialized RX1, Cond.selects RX1 yX1_count yX1_count, Cond.code yX1_count cX1_count 3 (some .int), Cond.methodLink RX1 54 yX1_countInPiece, Cond.instanceMethod yX1_countInPiece, Cond.selects RX1 yX1_countInPiece yX1_countInPiece, Cond.code yX1_countInPiece cX1_countInPiece 4 (some .int), Cond.methodLink RX1 33 yX1_wordAt, Cond.instanceMethod yX1_wordAt, Cond.selects RX1 yX1_wordAt yX1_wordAt, Cond.code yX1_wordAt cX1_wordAt 2 (some .long), Cond.fieldLink RX1 9 "PieceSets$Numbers" "words" "[J", Cond.methodLink RX1 58 yJ13_bitCount_95d88, Cond.static yJ13_bitCount_95d88, Cond.initialized RJ13, Cond.code yJ13_bitCount_95d88 cJ13_bitCount_95d88 2 (some .int), Cond.constantLong RJ13 314 (6148914691236517205), Cond.constantLong RJ13 316 (3689348814741910323)]
def wsX3_size_r2 : List Cond := [Cond.constantLong RJ13 318 (1085102592571150095)]
def wsX3_size : List Cond := .code yX3_size cX3_size 2 (some .int) :: ((wsX3_size_r1 ++ wsX3_size_r2) ++ wsX30 ++ wsX20 ++ wsX10)
def wsX3_contains : List Cond := .code yX3_contains cX3_contains 3 (some .int) :: ([.fieldLink RX3 10 "PieceSets" "now" "LPieceSets$State;", .methodLink RX3 38 yX3_isSet, .static yX3_isSet, .initialized RX3, .code yX3_isSet cX3_isSet 1 (some .boolean), .instanceMethod yX1_holds, .initialized RX1, .selects RX1 yX1_holds yX1_holds, .code yX1_holds cX1_holds 2 (some .boolean), .fieldLink RX1 9 "PieceSets$Numbers" "words" "[J", .static yX3_isNumber, .code yX3_isNumber cX3_isNumber 1 (some .boolean)] ++ wsX30 ++ wsX20 ++ wsX10)
def wsX3_rank_r1 : List Cond := [Cond.fieldLink RX3 10 "PieceSets" "now" "LPieceSets$State;", Cond.methodLink RX3 38 yX3_isSet, Cond.static yX3_isSet, Cond.initialized RX3, Cond.code yX3_isSet cX3_isSet 1 (some .boolean), Cond.instanceMethod yX1_countIn, Cond.initialized RX1, Cond.selects RX1 yX1_countIn yX1_countIn, Cond.code yX1_countIn cX1_countIn 5 (some .int), Cond.fieldLink RX1 9 "PieceSets$Numbers" "words" "[J", Cond.methodLink RX1 41 yX1_mask, Cond.static yX1_mask, Cond.code yX1_mask cX1_mask 5 (some .long), Cond.methodLink RX1 45 Lib.Math.max.name, Cond.static Lib.Math.max.name, Cond.initialized "java/lang/Math", Cond.code Lib.Math.max.name Lib.Math.max.code 2 (some .int), Cond.methodLink RX1 51 Lib.Math.min.name, Cond.static Lib.Math.min.name, Cond.code Lib.Math.min.name Lib.Math.min.code 2 (some .int), Cond.constantLong RX1 31 (-1), Cond.methodLink RX1 58 yJ13_bitCount_95d88, Cond.static yJ13_bitCount_95d88, Cond.initialized RJ13]
def wsX3_rank_r2 : List Cond := [Cond.code yJ13_bitCount_95d88 cJ13_bitCount_95d88 2 (some .int), Cond.constantLong RJ13 314 (6148914691236517205), Cond.constantLong RJ13 316 (3689348814741910323), Cond.constantLong RJ13 318 (1085102592571150095)]
def wsX3_rank : List Cond := .code yX3_rank cX3_rank 3 (some .int) :: ((wsX3_rank_r1 ++ wsX3_rank_r2) ++ wsX30 ++ wsX20 ++ wsX10)
def wsX3_select : List Cond := .code yX3_select cX3_select 3 (some .int) :: ([.fieldLink RX3 10 "PieceSets" "now" "LPieceSets$State;", .methodLink RX3 38 yX3_isSet, .static yX3_isSet, .initialized RX3, .code yX3_isSet cX3_isSet 1 (some .boolean), .instanceMethod yX1_nth, .initialized RX1, .selects RX1 yX1_nth yX1_nth, .code yX1_nth cX1_nth 5 (some .int), .fieldLink RX1 9 "PieceSets$Numbers" "words" "[J", .methodLink RX1 58 yJ13_bitCount_95d88, .static yJ13_bitCount_95d88, .initialized RJ13, .code yJ13_bitCount_95d88 cJ13_bitCount_95d88 2 (some .int), .constantLong RJ13 314 (6148914691236517205), .constantLong RJ13 316 (3689348814741910323), .constantLong RJ13 318 (1085102592571150095), .methodLink RX1 64 yX1_nthBit, .static yX1_nthBit, .code yX1_nthBit cX1_nthBit 5 (some .int)] ++ wsX30 ++ wsX20 ++ wsX10)
def wsX3_near_r1 : List Cond := [Cond.fieldLink RX3 10 "PieceSets" "now" "LPieceSets$State;", Cond.methodLink RX3 38 yX3_isSet, Cond.static yX3_isSet, Cond.initialized RX3, Cond.code yX3_isSet cX3_isSet 1 (some .boolean), Cond.instanceMethod yX1_countIn, Cond.initialized RX1, Cond.selects RX1 yX1_countIn yX1_countIn, Cond.code yX1_countIn cX1_countIn 5 (some .int), Cond.fieldLink RX1 9 "PieceSets$Numbers" "words" "[J", Cond.methodLink RX1 41 yX1_mask, Cond.static yX1_mask, Cond.code yX1_mask cX1_mask 5 (some .long), Cond.methodLink RX1 45 Lib.Math.max.name, Cond.static Lib.Math.max.name, Cond.initialized "java/lang/Math", Cond.code Lib.Math.max.name Lib.Math.max.code 2 (some .int), Cond.methodLink RX1 51 Lib.Math.min.name, Cond.static Lib.Math.min.name, Cond.code Lib.Math.min.name Lib.Math.min.code 2 (some .int), Cond.constantLong RX1 31 (-1), Cond.methodLink RX1 58 yJ13_bitCount_95d88, Cond.static yJ13_bitCount_95d88, Cond.initialized RJ13]
def wsX3_near_r2 : List Cond := [Cond.code yJ13_bitCount_95d88 cJ13_bitCount_95d88 2 (some .int), Cond.constantLong RJ13 314 (6148914691236517205), Cond.constantLong RJ13 316 (3689348814741910323), Cond.constantLong RJ13 318 (1085102592571150095), Cond.instanceMethod yX1_nth, Cond.selects RX1 yX1_nth yX1_nth, Cond.code yX1_nth cX1_nth 5 (some .int), Cond.methodLink RX1 64 yX1_nthBit, Cond.static yX1_nthBit, Cond.code yX1_nthBit cX1_nthBit 5 (some .int)]
def wsX3_near : List Cond := .code yX3_near cX3_near 5 (some .int) :: ((wsX3_near_r1 ++ wsX3_near_r2) ++ wsX30 ++ wsX20 ++ wsX10)
def wsX3_runs : List Cond := .code yX3_runs cX3_runs 2 (some .int) :: ([.fieldLink RX3 10 "PieceSets" "now" "LPieceSets$State;", .methodLink RX3 38 yX3_isSet, .static yX3_isSet, .initialized RX3, .code yX3_isSet cX3_isSet 1 (some .boolean), .instanceMethod yX1_countRuns, .initialized RX1, .selects RX1 yX1_countRuns yX1_countRuns, .code yX1_countRuns cX1_countRuns 9 (some .int), .constantLong RX1 31 (-1), .methodLink RX1 33 yX1_wordAt, .instanceMethod yX1_wordAt, .selects RX1 yX1_wordAt yX1_wordAt, .code yX1_wordAt cX1_wordAt 2 (some .long), .fieldLink RX1 9 "PieceSets$Numbers" "words" "[J", .methodLink RX1 58 yJ13_bitCount_95d88, .static yJ13_bitCount_95d88, .initialized RJ13, .code yJ13_bitCount_95d88 cJ13_bitCount_95d88 2 (some .int), .constantLong RJ13 314 (6148914691236517205), .constantLong RJ13 316 (3689348814741910323), .constantLong RJ13 318 (1085102592571150095)] ++ wsX30 ++ wsX20 ++ wsX10)
def wsX3_nthEdge_r1 : List Cond := [Cond.fieldLink RX3 34 "PieceSets" "scratch" "LPieceSets$Numbers;", Cond.instanceMethod yX1_becomeMoved, Cond.initialized RX1, Cond.selects RX1 yX1_becomeMoved yX1_becomeMoved, Cond.code yX1_becomeMoved cX1_becomeMoved 10 none, Cond.fieldLink RX1 9 "PieceSets$Numbers" "words" "[J", Cond.methodLink RX1 33 yX1_wordAt, Cond.instanceMethod yX1_wordAt, Cond.selects RX1 yX1_wordAt yX1_wordAt, Cond.code yX1_wordAt cX1_wordAt 2 (some .long), Cond.instanceMethod yX1_becomeJoin, Cond.selects RX1 yX1_becomeJoin yX1_becomeJoin, Cond.code yX1_becomeJoin cX1_becomeJoin 5 none, Cond.methodLink RX1 27 yX1_join, Cond.static yX1_join, Cond.code yX1_join cX1_join 5 (some .long), Cond.constantLong RX1 31 (-1), Cond.instanceMethod yX1_nth, Cond.selects RX1 yX1_nth yX1_nth, Cond.code yX1_nth cX1_nth 5 (some .int), Cond.methodLink RX1 58 yJ13_bitCount_95d88, Cond.static yJ13_bitCount_95d88, Cond.initialized RJ13, Cond.code yJ13_bitCount_95d88 cJ13_bitCount_95d88 2 (some .int)]
def wsX3_nthEdge_r2 : List Cond := [Cond.constantLong RJ13 314 (6148914691236517205), Cond.constantLong RJ13 316 (3689348814741910323), Cond.constantLong RJ13 318 (1085102592571150095), Cond.methodLink RX1 64 yX1_nthBit, Cond.static yX1_nthBit, Cond.code yX1_nthBit cX1_nthBit 5 (some .int)]
def wsX3_nthEdge : List Cond := .code yX3_nthEdge cX3_nthEdge 4 (some .int) :: ((wsX3_nthEdge_r1 ++ wsX3_nthEdge_r2) ++ wsX30 ++ wsX10)
def wsX3_run_r1 : List Cond := [Cond.fieldLink RX3 10 "PieceSets" "now" "LPieceSets$State;", Cond.methodLink RX3 38 yX3_isSet, Cond.static yX3_isSet, Cond.initialized RX3, Cond.code yX3_isSet cX3_isSet 1 (some .boolean), Cond.methodLink RX3 102 yX3_nthEdge, Cond.instanceMethod yX3_nthEdge, Cond.selects RX3 yX3_nthEdge yX3_nthEdge, Cond.code yX3_nthEdge cX3_nthEdge 4 (some .int), Cond.fieldLink RX3 34 "PieceSets" "scratch" "LPieceSets$Numbers;", Cond.instanceMethod yX1_becomeMoved, Cond.initialized RX1, Cond.selects RX1 yX1_becomeMoved yX1_becomeMoved, Cond.code yX1_becomeMoved cX1_becomeMoved 10 none, Cond.fieldLink RX1 9 "PieceSets$Numbers" "words" "[J", Cond.methodLink RX1 33 yX1_wordAt, Cond.instanceMethod yX1_wordAt, Cond.selects RX1 yX1_wordAt yX1_wordAt, Cond.code yX1_wordAt cX1_wordAt 2 (some .long), Cond.instanceMethod yX1_becomeJoin, Cond.selects RX1 yX1_becomeJoin yX1_becomeJoin, Cond.code yX1_becomeJoin cX1_becomeJoin 5 none, Cond.methodLink RX1 27 yX1_join, Cond.static yX1_join]
def wsX3_run_r2 : List Cond := [Cond.code yX1_join cX1_join 5 (some .long), Cond.constantLong RX1 31 (-1), Cond.instanceMethod yX1_nth, Cond.selects RX1 yX1_nth yX1_nth, Cond.code yX1_nth cX1_nth 5 (some .int), Cond.methodLink RX1 58 yJ13_bitCount_95d88, Cond.static yJ13_bitCount_95d88, Cond.initialized RJ13, Cond.code yJ13_bitCount_95d88 cJ13_bitCount_95d88 2 (some .int), Cond.constantLong RJ13 314 (6148914691236517205), Cond.constantLong RJ13 316 (3689348814741910323), Cond.constantLong RJ13 318 (1085102592571150095), Cond.methodLink RX1 64 yX1_nthBit, Cond.static yX1_nthBit, Cond.code yX1_nthBit cX1_nthBit 5 (some .int)]
def wsX3_run : List Cond := .code yX3_run cX3_run 5 (some .int) :: ((wsX3_run_r1 ++ wsX3_run_r2) ++ wsX30 ++ wsX20 ++ wsX10)
def wsX3_piece_r1 : List Cond := [Cond.fieldLink RX3 10 "PieceSets" "now" "LPieceSets$State;", Cond.methodLink RX3 38 yX3_isSet, Cond.static yX3_isSet, Cond.initialized RX3, Cond.code yX3_isSet cX3_isSet 1 (some .boolean), Cond.instanceMethod yX1_detail, Cond.initialized RX1, Cond.selects RX1 yX1_detail yX1_detail, Cond.code yX1_detail cX1_detail 3 (some .int), Cond.methodLink RX1 71 yX1_kindOf, Cond.instanceMethod yX1_kindOf, Cond.selects RX1 yX1_kindOf yX1_kindOf, Cond.code yX1_kindOf cX1_kindOf 5 (some .int), Cond.methodLink RX1 54 yX1_countInPiece, Cond.instanceMethod yX1_countInPiece, Cond.selects RX1 yX1_countInPiece yX1_countInPiece, Cond.code yX1_countInPiece cX1_countInPiece 4 (some .int), Cond.methodLink RX1 33 yX1_wordAt, Cond.instanceMethod yX1_wordAt, Cond.selects RX1 yX1_wordAt yX1_wordAt, Cond.code yX1_wordAt cX1_wordAt 2 (some .long), Cond.fieldLink RX1 9 "PieceSets$Numbers" "words" "[J", Cond.methodLink RX1 58 yJ13_bitCount_95d88, Cond.static yJ13_bitCount_95d88]
def wsX3_piece_r2 : List Cond := [Cond.initialized RJ13, Cond.code yJ13_bitCount_95d88 cJ13_bitCount_95d88 2 (some .int), Cond.constantLong RJ13 314 (6148914691236517205), Cond.constantLong RJ13 316 (3689348814741910323), Cond.constantLong RJ13 318 (1085102592571150095), Cond.methodLink RX1 68 yX1_countRuns, Cond.instanceMethod yX1_countRuns, Cond.selects RX1 yX1_countRuns yX1_countRuns, Cond.code yX1_countRuns cX1_countRuns 9 (some .int), Cond.constantLong RX1 31 (-1), Cond.methodLink RX1 74 yX1_costOf, Cond.instanceMethod yX1_costOf, Cond.selects RX1 yX1_costOf yX1_costOf, Cond.code yX1_costOf cX1_costOf 2 (some .int)]
def wsX3_piece : List Cond := .code yX3_piece cX3_piece 4 (some .int) :: ((wsX3_piece_r1 ++ wsX3_piece_r2) ++ wsX30 ++ wsX20 ++ wsX10)
def wsX3_bytes_r1 : List Cond := [Cond.fieldLink RX3 10 "PieceSets" "now" "LPieceSets$State;", Cond.methodLink RX3 38 yX3_isSet, Cond.static yX3_isSet, Cond.initialized RX3, Cond.code yX3_isSet cX3_isSet 1 (some .boolean), Cond.instanceMethod yX1_costOf, Cond.initialized RX1, Cond.selects RX1 yX1_costOf yX1_costOf, Cond.code yX1_costOf cX1_costOf 2 (some .int), Cond.methodLink RX1 71 yX1_kindOf, Cond.instanceMethod yX1_kindOf, Cond.selects RX1 yX1_kindOf yX1_kindOf, Cond.code yX1_kindOf cX1_kindOf 5 (some .int), Cond.methodLink RX1 54 yX1_countInPiece, Cond.instanceMethod yX1_countInPiece, Cond.selects RX1 yX1_countInPiece yX1_countInPiece, Cond.code yX1_countInPiece cX1_countInPiece 4 (some .int), Cond.methodLink RX1 33 yX1_wordAt, Cond.instanceMethod yX1_wordAt, Cond.selects RX1 yX1_wordAt yX1_wordAt, Cond.code yX1_wordAt cX1_wordAt 2 (some .long), Cond.fieldLink RX1 9 "PieceSets$Numbers" "words" "[J", Cond.methodLink RX1 58 yJ13_bitCount_95d88, Cond.static yJ13_bitCount_95d88]
def wsX3_bytes_r2 : List Cond := [Cond.initialized RJ13, Cond.code yJ13_bitCount_95d88 cJ13_bitCount_95d88 2 (some .int), Cond.constantLong RJ13 314 (6148914691236517205), Cond.constantLong RJ13 316 (3689348814741910323), Cond.constantLong RJ13 318 (1085102592571150095), Cond.methodLink RX1 68 yX1_countRuns, Cond.instanceMethod yX1_countRuns, Cond.selects RX1 yX1_countRuns yX1_countRuns, Cond.code yX1_countRuns cX1_countRuns 9 (some .int), Cond.constantLong RX1 31 (-1)]
def wsX3_bytes : List Cond := .code yX3_bytes cX3_bytes 4 (some .int) :: ((wsX3_bytes_r1 ++ wsX3_bytes_r2) ++ wsX30 ++ wsX20 ++ wsX10)
def wsX3_byteAt_r1 : List Cond := [Cond.fieldLink RX3 10 "PieceSets" "now" "LPieceSets$State;", Cond.methodLink RX3 38 yX3_isSet, Cond.static yX3_isSet, Cond.initialized RX3, Cond.code yX3_isSet cX3_isSet 1 (some .boolean), Cond.instanceMethod yX1_costOf, Cond.initialized RX1, Cond.selects RX1 yX1_costOf yX1_costOf, Cond.code yX1_costOf cX1_costOf 2 (some .int), Cond.methodLink RX1 71 yX1_kindOf, Cond.instanceMethod yX1_kindOf, Cond.selects RX1 yX1_kindOf yX1_kindOf, Cond.code yX1_kindOf cX1_kindOf 5 (some .int), Cond.methodLink RX1 54 yX1_countInPiece, Cond.instanceMethod yX1_countInPiece, Cond.selects RX1 yX1_countInPiece yX1_countInPiece, Cond.code yX1_countInPiece cX1_countInPiece 4 (some .int), Cond.methodLink RX1 33 yX1_wordAt, Cond.instanceMethod yX1_wordAt, Cond.selects RX1 yX1_wordAt yX1_wordAt, Cond.code yX1_wordAt cX1_wordAt 2 (some .long), Cond.fieldLink RX1 9 "PieceSets$Numbers" "words" "[J", Cond.methodLink RX1 58 yJ13_bitCount_95d88, Cond.static yJ13_bitCount_95d88]
def wsX3_byteAt_r2 : List Cond := [Cond.initialized RJ13, Cond.code yJ13_bitCount_95d88 cJ13_bitCount_95d88 2 (some .int), Cond.constantLong RJ13 314 (6148914691236517205), Cond.constantLong RJ13 316 (3689348814741910323), Cond.constantLong RJ13 318 (1085102592571150095), Cond.methodLink RX1 68 yX1_countRuns, Cond.instanceMethod yX1_countRuns, Cond.selects RX1 yX1_countRuns yX1_countRuns, Cond.code yX1_countRuns cX1_countRuns 9 (some .int), Cond.constantLong RX1 31 (-1), Cond.instanceMethod yX1_writtenByte, Cond.selects RX1 yX1_writtenByte yX1_writtenByte, Cond.code yX1_writtenByte cX1_writtenByte 4 (some .int), Cond.methodLink RX1 77 yX1_bitmapByte, Cond.instanceMethod yX1_bitmapByte, Cond.selects RX1 yX1_bitmapByte yX1_bitmapByte, Cond.code yX1_bitmapByte cX1_bitmapByte 3 (some .int), Cond.constantLong RX1 86 (255), Cond.methodLink RX1 80 yX1_nthPlace, Cond.instanceMethod yX1_nthPlace, Cond.selects RX1 yX1_nthPlace yX1_nthPlace, Cond.code yX1_nthPlace cX1_nthPlace 3 (some .int), Cond.methodLink RX1 88 yX1_countIn, Cond.instanceMethod yX1_countIn]
def wsX3_byteAt_r3 : List Cond := [Cond.selects RX1 yX1_countIn yX1_countIn, Cond.code yX1_countIn cX1_countIn 5 (some .int), Cond.methodLink RX1 41 yX1_mask, Cond.static yX1_mask, Cond.code yX1_mask cX1_mask 5 (some .long), Cond.methodLink RX1 45 Lib.Math.max.name, Cond.static Lib.Math.max.name, Cond.initialized "java/lang/Math", Cond.code Lib.Math.max.name Lib.Math.max.code 2 (some .int), Cond.methodLink RX1 51 Lib.Math.min.name, Cond.static Lib.Math.min.name, Cond.code Lib.Math.min.name Lib.Math.min.code 2 (some .int), Cond.methodLink RX1 91 yX1_nth, Cond.instanceMethod yX1_nth, Cond.selects RX1 yX1_nth yX1_nth, Cond.code yX1_nth cX1_nth 5 (some .int), Cond.methodLink RX1 64 yX1_nthBit, Cond.static yX1_nthBit, Cond.code yX1_nthBit cX1_nthBit 5 (some .int), Cond.methodLink RX1 83 yX1_nthBorder, Cond.instanceMethod yX1_nthBorder, Cond.selects RX1 yX1_nthBorder yX1_nthBorder, Cond.code yX1_nthBorder cX1_nthBorder 6 (some .int), Cond.methodLink RX1 94 yX1_holds]
def wsX3_byteAt_r4 : List Cond := [Cond.instanceMethod yX1_holds, Cond.selects RX1 yX1_holds yX1_holds, Cond.code yX1_holds cX1_holds 2 (some .boolean), Cond.static yX3_isNumber, Cond.code yX3_isNumber cX3_isNumber 1 (some .boolean)]
def wsX3_byteAt : List Cond := .code yX3_byteAt cX3_byteAt 7 (some .int) :: ((wsX3_byteAt_r1 ++ (wsX3_byteAt_r2 ++ (wsX3_byteAt_r3 ++ wsX3_byteAt_r4))) ++ wsX30 ++ wsX20 ++ wsX10)
def wsX3_put : List Cond := .code yX3_put cX3_put 2 (some .int) :: ([.fieldLink RX3 27 "PieceSets" "buffer" "LPieceSets$Buffer;", .instanceMethod yX0_append, .initialized RX0, .selects RX0 yX0_append yX0_append, .code yX0_append cX0_append 2 (some .boolean), .fieldLink RX0 15 "PieceSets$Buffer" "length" "I", .fieldLink RX0 9 "PieceSets$Buffer" "row" "[I"] ++ wsX30 ++ wsX00)
def wsX3_clear : List Cond := .code yX3_clear cX3_clear 2 (some .int) :: ([.fieldLink RX3 27 "PieceSets" "buffer" "LPieceSets$Buffer;"] ++ wsX30 ++ wsX00)
def wsX3_read_r1 : List Cond := [Cond.fieldLink RX3 27 "PieceSets" "buffer" "LPieceSets$Buffer;", Cond.fieldLink RX3 34 "PieceSets" "scratch" "LPieceSets$Numbers;", Cond.fieldLink RX3 10 "PieceSets" "now" "LPieceSets$State;", Cond.methodLink RX3 38 yX3_isSet, Cond.static yX3_isSet, Cond.initialized RX3, Cond.code yX3_isSet cX3_isSet 1 (some .boolean), Cond.instanceMethod yX0_parse, Cond.initialized RX0, Cond.selects RX0 yX0_parse yX0_parse, Cond.code yX0_parse cX0_parse 8 (some .int), Cond.fieldLink RX0 15 "PieceSets$Buffer" "length" "I", Cond.fieldLink RX0 9 "PieceSets$Buffer" "row" "[I", Cond.instanceMethod yX1_becomeEmpty, Cond.initialized RX1, Cond.selects RX1 yX1_becomeEmpty yX1_becomeEmpty, Cond.code yX1_becomeEmpty cX1_becomeEmpty 1 none, Cond.fieldLink RX1 9 "PieceSets$Numbers" "words" "[J", Cond.methodLink RX1 21 yJ7_fill_d0a16, Cond.static yJ7_fill_d0a16, Cond.initialized RJ7, Cond.code yJ7_fill_d0a16 cJ7_fill_d0a16 5 none, Cond.static yX3_isKind, Cond.code yX3_isKind cX3_isKind 1 (some .boolean)]
def wsX3_read_r2 : List Cond := [Cond.methodLink RX0 28 yX0_parsePiece, Cond.instanceMethod yX0_parsePiece, Cond.selects RX0 yX0_parsePiece yX0_parsePiece, Cond.code yX0_parsePiece cX0_parsePiece 5 (some .int), Cond.methodLink RX0 36 yX0_parseBitmap, Cond.instanceMethod yX0_parseBitmap, Cond.selects RX0 yX0_parseBitmap yX0_parseBitmap, Cond.code yX0_parseBitmap cX0_parseBitmap 6 (some .int), Cond.instanceMethod yX1_include, Cond.selects RX1 yX1_include yX1_include, Cond.code yX1_include cX1_include 2 none, Cond.static yX3_isNumber, Cond.code yX3_isNumber cX3_isNumber 1 (some .boolean), Cond.methodLink RX0 40 yX0_parseArray, Cond.instanceMethod yX0_parseArray, Cond.selects RX0 yX0_parseArray yX0_parseArray, Cond.code yX0_parseArray cX0_parseArray 7 (some .int), Cond.methodLink RX0 43 yX0_parseRuns, Cond.instanceMethod yX0_parseRuns, Cond.selects RX0 yX0_parseRuns yX0_parseRuns, Cond.code yX0_parseRuns cX0_parseRuns 8 (some .int), Cond.instanceMethod yX1_includeAll, Cond.selects RX1 yX1_includeAll yX1_includeAll, Cond.code yX1_includeAll cX1_includeAll 4 none]
def wsX3_read_r3 : List Cond := [Cond.methodLink RX1 41 yX1_mask, Cond.static yX1_mask, Cond.code yX1_mask cX1_mask 5 (some .long), Cond.methodLink RX1 45 Lib.Math.max.name, Cond.static Lib.Math.max.name, Cond.initialized "java/lang/Math", Cond.code Lib.Math.max.name Lib.Math.max.code 2 (some .int), Cond.methodLink RX1 51 Lib.Math.min.name, Cond.static Lib.Math.min.name, Cond.code Lib.Math.min.name Lib.Math.min.code 2 (some .int), Cond.constantLong RX1 31 (-1), Cond.instanceMethod yX1_kindOf, Cond.selects RX1 yX1_kindOf yX1_kindOf, Cond.code yX1_kindOf cX1_kindOf 5 (some .int), Cond.methodLink RX1 54 yX1_countInPiece, Cond.instanceMethod yX1_countInPiece, Cond.selects RX1 yX1_countInPiece yX1_countInPiece, Cond.code yX1_countInPiece cX1_countInPiece 4 (some .int), Cond.methodLink RX1 33 yX1_wordAt, Cond.instanceMethod yX1_wordAt, Cond.selects RX1 yX1_wordAt yX1_wordAt, Cond.code yX1_wordAt cX1_wordAt 2 (some .long), Cond.methodLink RX1 58 yJ13_bitCount_95d88, Cond.static yJ13_bitCount_95d88]
def wsX3_read_r4 : List Cond := [Cond.initialized RJ13, Cond.code yJ13_bitCount_95d88 cJ13_bitCount_95d88 2 (some .int), Cond.constantLong RJ13 314 (6148914691236517205), Cond.constantLong RJ13 316 (3689348814741910323), Cond.constantLong RJ13 318 (1085102592571150095), Cond.methodLink RX1 68 yX1_countRuns, Cond.instanceMethod yX1_countRuns, Cond.selects RX1 yX1_countRuns yX1_countRuns, Cond.code yX1_countRuns cX1_countRuns 9 (some .int), Cond.methodLink RX3 46 yX3_keepState, Cond.instanceMethod yX3_keepState, Cond.selects RX3 yX3_keepState yX3_keepState, Cond.code yX3_keepState cX3_keepState 3 (some (.object "PieceSets$State")), Cond.fieldLink RX3 20 "PieceSets" "kept" "I", Cond.fieldLink RX3 16 "PieceSets" "past" "[LPieceSets$State;", Cond.instanceMethod yX2_become, Cond.initialized RX2, Cond.selects RX2 yX2_become yX2_become, Cond.code yX2_become cX2_become 3 none, Cond.fieldLink RX2 11 "PieceSets$State" "sets" "[LPieceSets$Numbers;", Cond.fieldLink RX2 18 "PieceSets$State" "meetings" "[I", Cond.methodLink RX2 29 arraycopyName, Cond.native arraycopyName, Cond.static arraycopyName]
def wsX3_read_r5 : List Cond := [Cond.initialized "java/lang/System", Cond.fieldLink RX2 22 "PieceSets$State" "conversions" "[I", Cond.instanceMethod yX1_become, Cond.selects RX1 yX1_become yX1_become, Cond.code yX1_become cX1_become 2 none, Cond.methodLink RX1 15 arraycopyName, Cond.instanceMethod yX2_countConversions, Cond.selects RX2 yX2_countConversions yX2_countConversions, Cond.code yX2_countConversions cX2_countConversions 6 none, Cond.instanceMethod yX1_count, Cond.selects RX1 yX1_count yX1_count, Cond.code yX1_count cX1_count 3 (some .int)]
def wsX3_read : List Cond := .code yX3_read cX3_read 5 (some .int) :: ((wsX3_read_r1 ++ (wsX3_read_r2 ++ (wsX3_read_r3 ++ (wsX3_read_r4 ++ wsX3_read_r5)))) ++ wsX30 ++ wsX20 ++ wsX00 ++ wsX10)
def wsX3_countJoin_r1 : List Cond := [Cond.fieldLink RX3 34 "PieceSets" "scratch" "LPieceSets$Numbers;", Cond.fieldLink RX3 10 "PieceSets" "now" "LPieceSets$State;", Cond.instanceMethod yX1_becomeJoin, Cond.initialized RX1, Cond.selects RX1 yX1_becomeJoin yX1_becomeJoin, Cond.code yX1_becomeJoin cX1_becomeJoin 5 none, Cond.fieldLink RX1 9 "PieceSets$Numbers" "words" "[J", Cond.methodLink RX1 27 yX1_join, Cond.static yX1_join, Cond.code yX1_join cX1_join 5 (some .long), Cond.constantLong RX1 31 (-1), Cond.instanceMethod yX1_count, Cond.selects RX1 yX1_count yX1_count, Cond.code yX1_count cX1_count 3 (some .int), Cond.methodLink RX1 54 yX1_countInPiece, Cond.instanceMethod yX1_countInPiece, Cond.selects RX1 yX1_countInPiece yX1_countInPiece, Cond.code yX1_countInPiece cX1_countInPiece 4 (some .int), Cond.methodLink RX1 33 yX1_wordAt, Cond.instanceMethod yX1_wordAt, Cond.selects RX1 yX1_wordAt yX1_wordAt, Cond.code yX1_wordAt cX1_wordAt 2 (some .long), Cond.methodLink RX1 58 yJ13_bitCount_95d88, Cond.static yJ13_bitCount_95d88]
def wsX3_countJoin_r2 : List Cond := [Cond.initialized RJ13, Cond.code yJ13_bitCount_95d88 cJ13_bitCount_95d88 2 (some .int), Cond.constantLong RJ13 314 (6148914691236517205), Cond.constantLong RJ13 316 (3689348814741910323), Cond.constantLong RJ13 318 (1085102592571150095)]
def wsX3_countJoin : List Cond := .code yX3_countJoin cX3_countJoin 4 (some .int) :: ((wsX3_countJoin_r1 ++ wsX3_countJoin_r2) ++ wsX30 ++ wsX20 ++ wsX10)
def wsX3_countSamePieces_r1 : List Cond := [Cond.fieldLink RX3 34 "PieceSets" "scratch" "LPieceSets$Numbers;", Cond.fieldLink RX3 10 "PieceSets" "now" "LPieceSets$State;", Cond.instanceMethod yX1_becomeJoin, Cond.initialized RX1, Cond.selects RX1 yX1_becomeJoin yX1_becomeJoin, Cond.code yX1_becomeJoin cX1_becomeJoin 5 none, Cond.fieldLink RX1 9 "PieceSets$Numbers" "words" "[J", Cond.methodLink RX1 27 yX1_join, Cond.static yX1_join, Cond.code yX1_join cX1_join 5 (some .long), Cond.constantLong RX1 31 (-1), Cond.instanceMethod yX1_countInPiece, Cond.selects RX1 yX1_countInPiece yX1_countInPiece, Cond.code yX1_countInPiece cX1_countInPiece 4 (some .int), Cond.methodLink RX1 33 yX1_wordAt, Cond.instanceMethod yX1_wordAt, Cond.selects RX1 yX1_wordAt yX1_wordAt, Cond.code yX1_wordAt cX1_wordAt 2 (some .long), Cond.methodLink RX1 58 yJ13_bitCount_95d88, Cond.static yJ13_bitCount_95d88, Cond.initialized RJ13, Cond.code yJ13_bitCount_95d88 cJ13_bitCount_95d88 2 (some .int), Cond.constantLong RJ13 314 (6148914691236517205), Cond.constantLong RJ13 316 (3689348814741910323)]
def wsX3_countSamePieces_r2 : List Cond := [Cond.constantLong RJ13 318 (1085102592571150095)]
def wsX3_countSamePieces : List Cond := .code yX3_countSamePieces cX3_countSamePieces 5 (some .int) :: ((wsX3_countSamePieces_r1 ++ wsX3_countSamePieces_r2) ++ wsX30 ++ wsX20 ++ wsX10)
def wsX3_compare_r1 : List Cond := [Cond.fieldLink RX3 34 "PieceSets" "scratch" "LPieceSets$Numbers;", Cond.fieldLink RX3 10 "PieceSets" "now" "LPieceSets$State;", Cond.methodLink RX3 38 yX3_isSet, Cond.static yX3_isSet, Cond.initialized RX3, Cond.code yX3_isSet cX3_isSet 1 (some .boolean), Cond.methodLink RX3 129 yX3_countJoin, Cond.instanceMethod yX3_countJoin, Cond.selects RX3 yX3_countJoin yX3_countJoin, Cond.code yX3_countJoin cX3_countJoin 4 (some .int), Cond.instanceMethod yX1_becomeJoin, Cond.initialized RX1, Cond.selects RX1 yX1_becomeJoin yX1_becomeJoin, Cond.code yX1_becomeJoin cX1_becomeJoin 5 none, Cond.fieldLink RX1 9 "PieceSets$Numbers" "words" "[J", Cond.methodLink RX1 27 yX1_join, Cond.static yX1_join, Cond.code yX1_join cX1_join 5 (some .long), Cond.constantLong RX1 31 (-1), Cond.instanceMethod yX1_count, Cond.selects RX1 yX1_count yX1_count, Cond.code yX1_count cX1_count 3 (some .int), Cond.methodLink RX1 54 yX1_countInPiece, Cond.instanceMethod yX1_countInPiece]
def wsX3_compare_r2 : List Cond := [Cond.selects RX1 yX1_countInPiece yX1_countInPiece, Cond.code yX1_countInPiece cX1_countInPiece 4 (some .int), Cond.methodLink RX1 33 yX1_wordAt, Cond.instanceMethod yX1_wordAt, Cond.selects RX1 yX1_wordAt yX1_wordAt, Cond.code yX1_wordAt cX1_wordAt 2 (some .long), Cond.methodLink RX1 58 yJ13_bitCount_95d88, Cond.static yJ13_bitCount_95d88, Cond.initialized RJ13, Cond.code yJ13_bitCount_95d88 cJ13_bitCount_95d88 2 (some .int), Cond.constantLong RJ13 314 (6148914691236517205), Cond.constantLong RJ13 316 (3689348814741910323), Cond.constantLong RJ13 318 (1085102592571150095), Cond.methodLink RX3 133 yX3_countSamePieces, Cond.instanceMethod yX3_countSamePieces, Cond.selects RX3 yX3_countSamePieces yX3_countSamePieces, Cond.code yX3_countSamePieces cX3_countSamePieces 5 (some .int), Cond.instanceMethod yX1_nth, Cond.selects RX1 yX1_nth yX1_nth, Cond.code yX1_nth cX1_nth 5 (some .int), Cond.methodLink RX1 64 yX1_nthBit, Cond.static yX1_nthBit, Cond.code yX1_nthBit cX1_nthBit 5 (some .int)]
def wsX3_compare : List Cond := .code yX3_compare cX3_compare 4 (some .int) :: ((wsX3_compare_r1 ++ wsX3_compare_r2) ++ wsX30 ++ wsX20 ++ wsX10)
def wsX3_greatestDivisor : List Cond := .code yX3_greatestDivisor cX3_greatestDivisor 6 (some .int) :: ([])
def wsX3_alike_r1 : List Cond := [Cond.methodLink RX3 38 yX3_isSet, Cond.static yX3_isSet, Cond.initialized RX3, Cond.code yX3_isSet cX3_isSet 1 (some .boolean), Cond.methodLink RX3 129 yX3_countJoin, Cond.instanceMethod yX3_countJoin, Cond.selects RX3 yX3_countJoin yX3_countJoin, Cond.code yX3_countJoin cX3_countJoin 4 (some .int), Cond.fieldLink RX3 34 "PieceSets" "scratch" "LPieceSets$Numbers;", Cond.fieldLink RX3 10 "PieceSets" "now" "LPieceSets$State;", Cond.instanceMethod yX1_becomeJoin, Cond.initialized RX1, Cond.selects RX1 yX1_becomeJoin yX1_becomeJoin, Cond.code yX1_becomeJoin cX1_becomeJoin 5 none, Cond.fieldLink RX1 9 "PieceSets$Numbers" "words" "[J", Cond.methodLink RX1 27 yX1_join, Cond.static yX1_join, Cond.code yX1_join cX1_join 5 (some .long), Cond.constantLong RX1 31 (-1), Cond.instanceMethod yX1_count, Cond.selects RX1 yX1_count yX1_count, Cond.code yX1_count cX1_count 3 (some .int), Cond.methodLink RX1 54 yX1_countInPiece, Cond.instanceMethod yX1_countInPiece]
def wsX3_alike_r2 : List Cond := [Cond.selects RX1 yX1_countInPiece yX1_countInPiece, Cond.code yX1_countInPiece cX1_countInPiece 4 (some .int), Cond.methodLink RX1 33 yX1_wordAt, Cond.instanceMethod yX1_wordAt, Cond.selects RX1 yX1_wordAt yX1_wordAt, Cond.code yX1_wordAt cX1_wordAt 2 (some .long), Cond.methodLink RX1 58 yJ13_bitCount_95d88, Cond.static yJ13_bitCount_95d88, Cond.initialized RJ13, Cond.code yJ13_bitCount_95d88 cJ13_bitCount_95d88 2 (some .int), Cond.constantLong RJ13 314 (6148914691236517205), Cond.constantLong RJ13 316 (3689348814741910323), Cond.constantLong RJ13 318 (1085102592571150095), Cond.methodLink RX3 136 yX3_greatestDivisor, Cond.static yX3_greatestDivisor, Cond.code yX3_greatestDivisor cX3_greatestDivisor 6 (some .int)]
def wsX3_alike : List Cond := .code yX3_alike cX3_alike 7 (some .int) :: ((wsX3_alike_r1 ++ wsX3_alike_r2) ++ wsX30 ++ wsX20 ++ wsX10)
def wsX3_met : List Cond := .code yX3_met cX3_met 3 (some .int) :: ([.fieldLink RX3 10 "PieceSets" "now" "LPieceSets$State;", .methodLink RX3 139 yX3_isKind, .static yX3_isKind, .initialized RX3, .code yX3_isKind cX3_isKind 1 (some .boolean)] ++ wsX30 ++ wsX20)
def wsX3_converted : List Cond := .code yX3_converted cX3_converted 3 (some .int) :: ([.fieldLink RX3 10 "PieceSets" "now" "LPieceSets$State;", .methodLink RX3 139 yX3_isKind, .static yX3_isKind, .initialized RX3, .code yX3_isKind cX3_isKind 1 (some .boolean)] ++ wsX30 ++ wsX20)
def wsX3_undo : List Cond := .code yX3_undo cX3_undo 2 (some .int) :: ([.fieldLink RX3 20 "PieceSets" "kept" "I", .fieldLink RX3 10 "PieceSets" "now" "LPieceSets$State;", .fieldLink RX3 16 "PieceSets" "past" "[LPieceSets$State;"] ++ wsX30)
def wsX3_printPieces_r1 : List Cond := [Cond.constantLong RX3 155 (31), Cond.instanceMethod yX1_count, Cond.initialized RX1, Cond.selects RX1 yX1_count yX1_count, Cond.code yX1_count cX1_count 3 (some .int), Cond.methodLink RX1 54 yX1_countInPiece, Cond.instanceMethod yX1_countInPiece, Cond.selects RX1 yX1_countInPiece yX1_countInPiece, Cond.code yX1_countInPiece cX1_countInPiece 4 (some .int), Cond.methodLink RX1 33 yX1_wordAt, Cond.instanceMethod yX1_wordAt, Cond.selects RX1 yX1_wordAt yX1_wordAt, Cond.code yX1_wordAt cX1_wordAt 2 (some .long), Cond.fieldLink RX1 9 "PieceSets$Numbers" "words" "[J", Cond.methodLink RX1 58 yJ13_bitCount_95d88, Cond.static yJ13_bitCount_95d88, Cond.initialized RJ13, Cond.code yJ13_bitCount_95d88 cJ13_bitCount_95d88 2 (some .int), Cond.constantLong RJ13 314 (6148914691236517205), Cond.constantLong RJ13 316 (3689348814741910323), Cond.constantLong RJ13 318 (1085102592571150095), Cond.instanceMethod yX1_detail, Cond.selects RX1 yX1_detail yX1_detail, Cond.code yX1_detail cX1_detail 3 (some .int)]
def wsX3_printPieces_r2 : List Cond := [Cond.methodLink RX1 71 yX1_kindOf, Cond.instanceMethod yX1_kindOf, Cond.selects RX1 yX1_kindOf yX1_kindOf, Cond.code yX1_kindOf cX1_kindOf 5 (some .int), Cond.methodLink RX1 68 yX1_countRuns, Cond.instanceMethod yX1_countRuns, Cond.selects RX1 yX1_countRuns yX1_countRuns, Cond.code yX1_countRuns cX1_countRuns 9 (some .int), Cond.constantLong RX1 31 (-1), Cond.methodLink RX1 74 yX1_costOf, Cond.instanceMethod yX1_costOf, Cond.selects RX1 yX1_costOf yX1_costOf, Cond.code yX1_costOf cX1_costOf 2 (some .int)]
def wsX3_printPieces : List Cond := .code yX3_printPieces cX3_printPieces 7 (some .long) :: ((wsX3_printPieces_r1 ++ wsX3_printPieces_r2) ++ wsX10)
def wsX3_printNumbers : List Cond := .code yX3_printNumbers cX3_printNumbers 9 (some .long) :: ([.constantLong RX3 155 (31)] ++ wsX10)
def wsX3_fingerprint_r1 : List Cond := [Cond.constantLong RX3 149 (163), Cond.fieldLink RX3 10 "PieceSets" "now" "LPieceSets$State;", Cond.constantLong RX3 155 (31), Cond.methodLink RX3 151 yX3_printPieces, Cond.static yX3_printPieces, Cond.initialized RX3, Cond.code yX3_printPieces cX3_printPieces 7 (some .long), Cond.instanceMethod yX1_count, Cond.initialized RX1, Cond.selects RX1 yX1_count yX1_count, Cond.code yX1_count cX1_count 3 (some .int), Cond.methodLink RX1 54 yX1_countInPiece, Cond.instanceMethod yX1_countInPiece, Cond.selects RX1 yX1_countInPiece yX1_countInPiece, Cond.code yX1_countInPiece cX1_countInPiece 4 (some .int), Cond.methodLink RX1 33 yX1_wordAt, Cond.instanceMethod yX1_wordAt, Cond.selects RX1 yX1_wordAt yX1_wordAt, Cond.code yX1_wordAt cX1_wordAt 2 (some .long), Cond.fieldLink RX1 9 "PieceSets$Numbers" "words" "[J", Cond.methodLink RX1 58 yJ13_bitCount_95d88, Cond.static yJ13_bitCount_95d88, Cond.initialized RJ13, Cond.code yJ13_bitCount_95d88 cJ13_bitCount_95d88 2 (some .int)]
def wsX3_fingerprint_r2 : List Cond := [Cond.constantLong RJ13 314 (6148914691236517205), Cond.constantLong RJ13 316 (3689348814741910323), Cond.constantLong RJ13 318 (1085102592571150095), Cond.instanceMethod yX1_detail, Cond.selects RX1 yX1_detail yX1_detail, Cond.code yX1_detail cX1_detail 3 (some .int), Cond.methodLink RX1 71 yX1_kindOf, Cond.instanceMethod yX1_kindOf, Cond.selects RX1 yX1_kindOf yX1_kindOf, Cond.code yX1_kindOf cX1_kindOf 5 (some .int), Cond.methodLink RX1 68 yX1_countRuns, Cond.instanceMethod yX1_countRuns, Cond.selects RX1 yX1_countRuns yX1_countRuns, Cond.code yX1_countRuns cX1_countRuns 9 (some .int), Cond.constantLong RX1 31 (-1), Cond.methodLink RX1 74 yX1_costOf, Cond.instanceMethod yX1_costOf, Cond.selects RX1 yX1_costOf yX1_costOf, Cond.code yX1_costOf cX1_costOf 2 (some .int), Cond.methodLink RX3 157 yX3_printNumbers, Cond.static yX3_printNumbers, Cond.code yX3_printNumbers cX3_printNumbers 9 (some .long)]
def wsX3_fingerprint : List Cond := .code yX3_fingerprint cX3_fingerprint 4 (some .long) :: ((wsX3_fingerprint_r1 ++ wsX3_fingerprint_r2) ++ wsX30 ++ wsX20 ++ wsX10)
def wsX4_init : List Cond := .code yX4_init cX4_init 1 none :: ([.methodLink RX4 1 objectInit, .instanceMethod objectInit, .code objectInit ⟨#[0xb1]⟩ 1 none, .arrayClass .int, .fieldLink RX4 7 "PieceSetsModel" "v" "[I", .fieldLink RX4 13 "PieceSetsModel" "aside" "[I", .fieldLink RX4 16 "PieceSetsModel" "past" "[I", .fieldLink RX4 19 "PieceSetsModel" "buffer" "[I", .fieldLink RX4 22 "PieceSetsModel" "bits" "[I"] ++ wsX40)
def wsX4_in : List Cond := .code yX4_in cX4_in 3 (some .boolean) :: ([])
def wsX4_isSet : List Cond := .code yX4_isSet cX4_isSet 1 (some .boolean) :: ([.methodLink RX4 25 yX4_in, .static yX4_in, .initialized RX4, .code yX4_in cX4_in 3 (some .boolean)])
def wsX4_bit : List Cond := .code yX4_bit cX4_bit 3 (some .boolean) :: ([])
def wsX4_has : List Cond := .code yX4_has cX4_has 3 (some .boolean) :: ([.fieldLink RX4 7 "PieceSetsModel" "v" "[I", .methodLink RX4 29 yX4_bit, .static yX4_bit, .initialized RX4, .code yX4_bit cX4_bit 3 (some .boolean)] ++ wsX40)
def wsX4_puts : List Cond := .code yX4_puts cX4_puts 5 none :: ([.fieldLink RX4 7 "PieceSetsModel" "v" "[I"] ++ wsX40)
def wsX4_act : List Cond := .code yX4_act cX4_act 2 none :: ([.fieldLink RX4 33 "PieceSetsModel" "pastMany" "I", .fieldLink RX4 16 "PieceSetsModel" "past" "[I", .fieldLink RX4 7 "PieceSetsModel" "v" "[I", .fieldLink RX4 13 "PieceSetsModel" "aside" "[I"] ++ wsX40)
def wsX4_manyIn : List Cond := .code yX4_manyIn cX4_manyIn 5 (some .int) :: ([.methodLink RX4 29 yX4_bit, .static yX4_bit, .initialized RX4, .code yX4_bit cX4_bit 3 (some .boolean)])
def wsX4_runsIn : List Cond := .code yX4_runsIn cX4_runsIn 5 (some .int) :: ([.methodLink RX4 29 yX4_bit, .static yX4_bit, .initialized RX4, .code yX4_bit cX4_bit 3 (some .boolean)])
def wsX4_kindBy : List Cond := .code yX4_kindBy cX4_kindBy 4 (some .int) :: ([])
def wsX4_bytesBy : List Cond := .code yX4_bytesBy cX4_bytesBy 3 (some .int) :: ([.methodLink RX4 37 yX4_kindBy, .static yX4_kindBy, .initialized RX4, .code yX4_kindBy cX4_kindBy 4 (some .int)])
def wsX4_kindIn : List Cond := .code yX4_kindIn cX4_kindIn 3 (some .int) :: ([.methodLink RX4 41 yX4_manyIn, .static yX4_manyIn, .initialized RX4, .code yX4_manyIn cX4_manyIn 5 (some .int), .methodLink RX4 29 yX4_bit, .static yX4_bit, .code yX4_bit cX4_bit 3 (some .boolean), .methodLink RX4 45 yX4_runsIn, .static yX4_runsIn, .code yX4_runsIn cX4_runsIn 5 (some .int), .methodLink RX4 37 yX4_kindBy, .static yX4_kindBy, .code yX4_kindBy cX4_kindBy 4 (some .int)])
def wsX4_converts : List Cond := .code yX4_converts cX4_converts 5 none :: ([.fieldLink RX4 13 "PieceSetsModel" "aside" "[I", .fieldLink RX4 7 "PieceSetsModel" "v" "[I", .methodLink RX4 48 yX4_kindIn, .static yX4_kindIn, .initialized RX4, .code yX4_kindIn cX4_kindIn 3 (some .int), .methodLink RX4 41 yX4_manyIn, .static yX4_manyIn, .code yX4_manyIn cX4_manyIn 5 (some .int), .methodLink RX4 29 yX4_bit, .static yX4_bit, .code yX4_bit cX4_bit 3 (some .boolean), .methodLink RX4 45 yX4_runsIn, .static yX4_runsIn, .code yX4_runsIn cX4_runsIn 5 (some .int), .methodLink RX4 37 yX4_kindBy, .static yX4_kindBy, .code yX4_kindBy cX4_kindBy 4 (some .int)] ++ wsX40)
def wsX4_sizeOf : List Cond := .code yX4_sizeOf cX4_sizeOf 4 (some .int) :: ([.methodLink RX4 51 yX4_has, .instanceMethod yX4_has, .selects RX4 yX4_has yX4_has, .initialized RX4, .code yX4_has cX4_has 3 (some .boolean), .fieldLink RX4 7 "PieceSetsModel" "v" "[I", .methodLink RX4 29 yX4_bit, .static yX4_bit, .code yX4_bit cX4_bit 3 (some .boolean)] ++ wsX40)
def wsX4_isRange : List Cond := .code yX4_isRange cX4_isRange 3 (some .boolean) :: ([.methodLink RX4 55 yX4_isSet, .static yX4_isSet, .initialized RX4, .code yX4_isSet cX4_isSet 1 (some .boolean), .methodLink RX4 25 yX4_in, .static yX4_in, .code yX4_in cX4_in 3 (some .boolean)])
def wsX4_turns_r1 : List Cond := [Cond.methodLink RX4 59 yX4_act, Cond.instanceMethod yX4_act, Cond.selects RX4 yX4_act yX4_act, Cond.initialized RX4, Cond.code yX4_act cX4_act 2 none, Cond.fieldLink RX4 33 "PieceSetsModel" "pastMany" "I", Cond.fieldLink RX4 16 "PieceSetsModel" "past" "[I", Cond.fieldLink RX4 7 "PieceSetsModel" "v" "[I", Cond.fieldLink RX4 13 "PieceSetsModel" "aside" "[I", Cond.methodLink RX4 51 yX4_has, Cond.instanceMethod yX4_has, Cond.selects RX4 yX4_has yX4_has, Cond.code yX4_has cX4_has 3 (some .boolean), Cond.methodLink RX4 29 yX4_bit, Cond.static yX4_bit, Cond.code yX4_bit cX4_bit 3 (some .boolean), Cond.methodLink RX4 62 yX4_puts, Cond.instanceMethod yX4_puts, Cond.selects RX4 yX4_puts yX4_puts, Cond.code yX4_puts cX4_puts 5 none, Cond.methodLink RX4 66 yX4_converts, Cond.instanceMethod yX4_converts, Cond.selects RX4 yX4_converts yX4_converts, Cond.code yX4_converts cX4_converts 5 none]
def wsX4_turns_r2 : List Cond := [Cond.methodLink RX4 48 yX4_kindIn, Cond.static yX4_kindIn, Cond.code yX4_kindIn cX4_kindIn 3 (some .int), Cond.methodLink RX4 41 yX4_manyIn, Cond.static yX4_manyIn, Cond.code yX4_manyIn cX4_manyIn 5 (some .int), Cond.methodLink RX4 45 yX4_runsIn, Cond.static yX4_runsIn, Cond.code yX4_runsIn cX4_runsIn 5 (some .int), Cond.methodLink RX4 37 yX4_kindBy, Cond.static yX4_kindBy, Cond.code yX4_kindBy cX4_kindBy 4 (some .int)]
def wsX4_turns : List Cond := .code yX4_turns cX4_turns 7 (some .int) :: ((wsX4_turns_r1 ++ wsX4_turns_r2) ++ wsX40)
def wsX4_add_r1 : List Cond := [Cond.methodLink RX4 70 yX4_isRange, Cond.static yX4_isRange, Cond.initialized RX4, Cond.code yX4_isRange cX4_isRange 3 (some .boolean), Cond.methodLink RX4 55 yX4_isSet, Cond.static yX4_isSet, Cond.code yX4_isSet cX4_isSet 1 (some .boolean), Cond.methodLink RX4 25 yX4_in, Cond.static yX4_in, Cond.code yX4_in cX4_in 3 (some .boolean), Cond.methodLink RX4 73 yX4_turns, Cond.instanceMethod yX4_turns, Cond.selects RX4 yX4_turns yX4_turns, Cond.code yX4_turns cX4_turns 7 (some .int), Cond.methodLink RX4 59 yX4_act, Cond.instanceMethod yX4_act, Cond.selects RX4 yX4_act yX4_act, Cond.code yX4_act cX4_act 2 none, Cond.fieldLink RX4 33 "PieceSetsModel" "pastMany" "I", Cond.fieldLink RX4 16 "PieceSetsModel" "past" "[I", Cond.fieldLink RX4 7 "PieceSetsModel" "v" "[I", Cond.fieldLink RX4 13 "PieceSetsModel" "aside" "[I", Cond.methodLink RX4 51 yX4_has, Cond.instanceMethod yX4_has]
def wsX4_add_r2 : List Cond := [Cond.selects RX4 yX4_has yX4_has, Cond.code yX4_has cX4_has 3 (some .boolean), Cond.methodLink RX4 29 yX4_bit, Cond.static yX4_bit, Cond.code yX4_bit cX4_bit 3 (some .boolean), Cond.methodLink RX4 62 yX4_puts, Cond.instanceMethod yX4_puts, Cond.selects RX4 yX4_puts yX4_puts, Cond.code yX4_puts cX4_puts 5 none, Cond.methodLink RX4 66 yX4_converts, Cond.instanceMethod yX4_converts, Cond.selects RX4 yX4_converts yX4_converts, Cond.code yX4_converts cX4_converts 5 none, Cond.methodLink RX4 48 yX4_kindIn, Cond.static yX4_kindIn, Cond.code yX4_kindIn cX4_kindIn 3 (some .int), Cond.methodLink RX4 41 yX4_manyIn, Cond.static yX4_manyIn, Cond.code yX4_manyIn cX4_manyIn 5 (some .int), Cond.methodLink RX4 45 yX4_runsIn, Cond.static yX4_runsIn, Cond.code yX4_runsIn cX4_runsIn 5 (some .int), Cond.methodLink RX4 37 yX4_kindBy, Cond.static yX4_kindBy]
def wsX4_add_r3 : List Cond := [Cond.code yX4_kindBy cX4_kindBy 4 (some .int)]
def wsX4_add : List Cond := .code yX4_add cX4_add 4 (some .int) :: ((wsX4_add_r1 ++ (wsX4_add_r2 ++ wsX4_add_r3)) ++ wsX40)
def wsX4_remove_r1 : List Cond := [Cond.methodLink RX4 70 yX4_isRange, Cond.static yX4_isRange, Cond.initialized RX4, Cond.code yX4_isRange cX4_isRange 3 (some .boolean), Cond.methodLink RX4 55 yX4_isSet, Cond.static yX4_isSet, Cond.code yX4_isSet cX4_isSet 1 (some .boolean), Cond.methodLink RX4 25 yX4_in, Cond.static yX4_in, Cond.code yX4_in cX4_in 3 (some .boolean), Cond.methodLink RX4 73 yX4_turns, Cond.instanceMethod yX4_turns, Cond.selects RX4 yX4_turns yX4_turns, Cond.code yX4_turns cX4_turns 7 (some .int), Cond.methodLink RX4 59 yX4_act, Cond.instanceMethod yX4_act, Cond.selects RX4 yX4_act yX4_act, Cond.code yX4_act cX4_act 2 none, Cond.fieldLink RX4 33 "PieceSetsModel" "pastMany" "I", Cond.fieldLink RX4 16 "PieceSetsModel" "past" "[I", Cond.fieldLink RX4 7 "PieceSetsModel" "v" "[I", Cond.fieldLink RX4 13 "PieceSetsModel" "aside" "[I", Cond.methodLink RX4 51 yX4_has, Cond.instanceMethod yX4_has]
def wsX4_remove_r2 : List Cond := [Cond.selects RX4 yX4_has yX4_has, Cond.code yX4_has cX4_has 3 (some .boolean), Cond.methodLink RX4 29 yX4_bit, Cond.static yX4_bit, Cond.code yX4_bit cX4_bit 3 (some .boolean), Cond.methodLink RX4 62 yX4_puts, Cond.instanceMethod yX4_puts, Cond.selects RX4 yX4_puts yX4_puts, Cond.code yX4_puts cX4_puts 5 none, Cond.methodLink RX4 66 yX4_converts, Cond.instanceMethod yX4_converts, Cond.selects RX4 yX4_converts yX4_converts, Cond.code yX4_converts cX4_converts 5 none, Cond.methodLink RX4 48 yX4_kindIn, Cond.static yX4_kindIn, Cond.code yX4_kindIn cX4_kindIn 3 (some .int), Cond.methodLink RX4 41 yX4_manyIn, Cond.static yX4_manyIn, Cond.code yX4_manyIn cX4_manyIn 5 (some .int), Cond.methodLink RX4 45 yX4_runsIn, Cond.static yX4_runsIn, Cond.code yX4_runsIn cX4_runsIn 5 (some .int), Cond.methodLink RX4 37 yX4_kindBy, Cond.static yX4_kindBy]
def wsX4_remove_r3 : List Cond := [Cond.code yX4_kindBy cX4_kindBy 4 (some .int)]
def wsX4_remove : List Cond := .code yX4_remove cX4_remove 4 (some .int) :: ((wsX4_remove_r1 ++ (wsX4_remove_r2 ++ wsX4_remove_r3)) ++ wsX40)
def wsX4_flip_r1 : List Cond := [Cond.methodLink RX4 70 yX4_isRange, Cond.static yX4_isRange, Cond.initialized RX4, Cond.code yX4_isRange cX4_isRange 3 (some .boolean), Cond.methodLink RX4 55 yX4_isSet, Cond.static yX4_isSet, Cond.code yX4_isSet cX4_isSet 1 (some .boolean), Cond.methodLink RX4 25 yX4_in, Cond.static yX4_in, Cond.code yX4_in cX4_in 3 (some .boolean), Cond.methodLink RX4 73 yX4_turns, Cond.instanceMethod yX4_turns, Cond.selects RX4 yX4_turns yX4_turns, Cond.code yX4_turns cX4_turns 7 (some .int), Cond.methodLink RX4 59 yX4_act, Cond.instanceMethod yX4_act, Cond.selects RX4 yX4_act yX4_act, Cond.code yX4_act cX4_act 2 none, Cond.fieldLink RX4 33 "PieceSetsModel" "pastMany" "I", Cond.fieldLink RX4 16 "PieceSetsModel" "past" "[I", Cond.fieldLink RX4 7 "PieceSetsModel" "v" "[I", Cond.fieldLink RX4 13 "PieceSetsModel" "aside" "[I", Cond.methodLink RX4 51 yX4_has, Cond.instanceMethod yX4_has]
def wsX4_flip_r2 : List Cond := [Cond.selects RX4 yX4_has yX4_has, Cond.code yX4_has cX4_has 3 (some .boolean), Cond.methodLink RX4 29 yX4_bit, Cond.static yX4_bit, Cond.code yX4_bit cX4_bit 3 (some .boolean), Cond.methodLink RX4 62 yX4_puts, Cond.instanceMethod yX4_puts, Cond.selects RX4 yX4_puts yX4_puts, Cond.code yX4_puts cX4_puts 5 none, Cond.methodLink RX4 66 yX4_converts, Cond.instanceMethod yX4_converts, Cond.selects RX4 yX4_converts yX4_converts, Cond.code yX4_converts cX4_converts 5 none, Cond.methodLink RX4 48 yX4_kindIn, Cond.static yX4_kindIn, Cond.code yX4_kindIn cX4_kindIn 3 (some .int), Cond.methodLink RX4 41 yX4_manyIn, Cond.static yX4_manyIn, Cond.code yX4_manyIn cX4_manyIn 5 (some .int), Cond.methodLink RX4 45 yX4_runsIn, Cond.static yX4_runsIn, Cond.code yX4_runsIn cX4_runsIn 5 (some .int), Cond.methodLink RX4 37 yX4_kindBy, Cond.static yX4_kindBy]
def wsX4_flip_r3 : List Cond := [Cond.code yX4_kindBy cX4_kindBy 4 (some .int)]
def wsX4_flip : List Cond := .code yX4_flip cX4_flip 4 (some .int) :: ((wsX4_flip_r1 ++ (wsX4_flip_r2 ++ wsX4_flip_r3)) ++ wsX40)
def wsX4_scatter_r1 : List Cond := [Cond.constant RX4 77 (1103515245), Cond.methodLink RX4 55 yX4_isSet, Cond.static yX4_isSet, Cond.initialized RX4, Cond.code yX4_isSet cX4_isSet 1 (some .boolean), Cond.methodLink RX4 25 yX4_in, Cond.static yX4_in, Cond.code yX4_in cX4_in 3 (some .boolean), Cond.methodLink RX4 59 yX4_act, Cond.instanceMethod yX4_act, Cond.selects RX4 yX4_act yX4_act, Cond.code yX4_act cX4_act 2 none, Cond.fieldLink RX4 33 "PieceSetsModel" "pastMany" "I", Cond.fieldLink RX4 16 "PieceSetsModel" "past" "[I", Cond.fieldLink RX4 7 "PieceSetsModel" "v" "[I", Cond.fieldLink RX4 13 "PieceSetsModel" "aside" "[I", Cond.methodLink RX4 62 yX4_puts, Cond.instanceMethod yX4_puts, Cond.selects RX4 yX4_puts yX4_puts, Cond.code yX4_puts cX4_puts 5 none, Cond.methodLink RX4 66 yX4_converts, Cond.instanceMethod yX4_converts, Cond.selects RX4 yX4_converts yX4_converts, Cond.code yX4_converts cX4_converts 5 none]
def wsX4_scatter_r2 : List Cond := [Cond.methodLink RX4 48 yX4_kindIn, Cond.static yX4_kindIn, Cond.code yX4_kindIn cX4_kindIn 3 (some .int), Cond.methodLink RX4 41 yX4_manyIn, Cond.static yX4_manyIn, Cond.code yX4_manyIn cX4_manyIn 5 (some .int), Cond.methodLink RX4 29 yX4_bit, Cond.static yX4_bit, Cond.code yX4_bit cX4_bit 3 (some .boolean), Cond.methodLink RX4 45 yX4_runsIn, Cond.static yX4_runsIn, Cond.code yX4_runsIn cX4_runsIn 5 (some .int), Cond.methodLink RX4 37 yX4_kindBy, Cond.static yX4_kindBy, Cond.code yX4_kindBy cX4_kindBy 4 (some .int), Cond.methodLink RX4 78 yX4_sizeOf, Cond.instanceMethod yX4_sizeOf, Cond.selects RX4 yX4_sizeOf yX4_sizeOf, Cond.code yX4_sizeOf cX4_sizeOf 4 (some .int), Cond.methodLink RX4 51 yX4_has, Cond.instanceMethod yX4_has, Cond.selects RX4 yX4_has yX4_has, Cond.code yX4_has cX4_has 3 (some .boolean)]
def wsX4_scatter : List Cond := .code yX4_scatter cX4_scatter 6 (some .int) :: ((wsX4_scatter_r1 ++ wsX4_scatter_r2) ++ wsX40)
def wsX4_combine_r1 : List Cond := [Cond.fieldLink RX4 13 "PieceSetsModel" "aside" "[I", Cond.fieldLink RX4 7 "PieceSetsModel" "v" "[I", Cond.methodLink RX4 25 yX4_in, Cond.static yX4_in, Cond.initialized RX4, Cond.code yX4_in cX4_in 3 (some .boolean), Cond.methodLink RX4 55 yX4_isSet, Cond.static yX4_isSet, Cond.code yX4_isSet cX4_isSet 1 (some .boolean), Cond.methodLink RX4 59 yX4_act, Cond.instanceMethod yX4_act, Cond.selects RX4 yX4_act yX4_act, Cond.code yX4_act cX4_act 2 none, Cond.fieldLink RX4 33 "PieceSetsModel" "pastMany" "I", Cond.fieldLink RX4 16 "PieceSetsModel" "past" "[I", Cond.methodLink RX4 48 yX4_kindIn, Cond.static yX4_kindIn, Cond.code yX4_kindIn cX4_kindIn 3 (some .int), Cond.methodLink RX4 41 yX4_manyIn, Cond.static yX4_manyIn, Cond.code yX4_manyIn cX4_manyIn 5 (some .int), Cond.methodLink RX4 29 yX4_bit, Cond.static yX4_bit, Cond.code yX4_bit cX4_bit 3 (some .boolean)]
def wsX4_combine_r2 : List Cond := [Cond.methodLink RX4 45 yX4_runsIn, Cond.static yX4_runsIn, Cond.code yX4_runsIn cX4_runsIn 5 (some .int), Cond.methodLink RX4 37 yX4_kindBy, Cond.static yX4_kindBy, Cond.code yX4_kindBy cX4_kindBy 4 (some .int), Cond.methodLink RX4 66 yX4_converts, Cond.instanceMethod yX4_converts, Cond.selects RX4 yX4_converts yX4_converts, Cond.code yX4_converts cX4_converts 5 none, Cond.methodLink RX4 78 yX4_sizeOf, Cond.instanceMethod yX4_sizeOf, Cond.selects RX4 yX4_sizeOf yX4_sizeOf, Cond.code yX4_sizeOf cX4_sizeOf 4 (some .int), Cond.methodLink RX4 51 yX4_has, Cond.instanceMethod yX4_has, Cond.selects RX4 yX4_has yX4_has, Cond.code yX4_has cX4_has 3 (some .boolean)]
def wsX4_combine : List Cond := .code yX4_combine cX4_combine 8 (some .int) :: ((wsX4_combine_r1 ++ wsX4_combine_r2) ++ wsX40)
def wsX4_shift_r1 : List Cond := [Cond.fieldLink RX4 7 "PieceSetsModel" "v" "[I", Cond.fieldLink RX4 13 "PieceSetsModel" "aside" "[I", Cond.methodLink RX4 55 yX4_isSet, Cond.static yX4_isSet, Cond.initialized RX4, Cond.code yX4_isSet cX4_isSet 1 (some .boolean), Cond.methodLink RX4 25 yX4_in, Cond.static yX4_in, Cond.code yX4_in cX4_in 3 (some .boolean), Cond.methodLink RX4 59 yX4_act, Cond.instanceMethod yX4_act, Cond.selects RX4 yX4_act yX4_act, Cond.code yX4_act cX4_act 2 none, Cond.fieldLink RX4 33 "PieceSetsModel" "pastMany" "I", Cond.fieldLink RX4 16 "PieceSetsModel" "past" "[I", Cond.methodLink RX4 29 yX4_bit, Cond.static yX4_bit, Cond.code yX4_bit cX4_bit 3 (some .boolean), Cond.methodLink RX4 62 yX4_puts, Cond.instanceMethod yX4_puts, Cond.selects RX4 yX4_puts yX4_puts, Cond.code yX4_puts cX4_puts 5 none, Cond.methodLink RX4 66 yX4_converts, Cond.instanceMethod yX4_converts]
def wsX4_shift_r2 : List Cond := [Cond.selects RX4 yX4_converts yX4_converts, Cond.code yX4_converts cX4_converts 5 none, Cond.methodLink RX4 48 yX4_kindIn, Cond.static yX4_kindIn, Cond.code yX4_kindIn cX4_kindIn 3 (some .int), Cond.methodLink RX4 41 yX4_manyIn, Cond.static yX4_manyIn, Cond.code yX4_manyIn cX4_manyIn 5 (some .int), Cond.methodLink RX4 45 yX4_runsIn, Cond.static yX4_runsIn, Cond.code yX4_runsIn cX4_runsIn 5 (some .int), Cond.methodLink RX4 37 yX4_kindBy, Cond.static yX4_kindBy, Cond.code yX4_kindBy cX4_kindBy 4 (some .int)]
def wsX4_shift : List Cond := .code yX4_shift cX4_shift 5 (some .int) :: ((wsX4_shift_r1 ++ wsX4_shift_r2) ++ wsX40)
def wsX4_size : List Cond := .code yX4_size cX4_size 2 (some .int) :: ([.methodLink RX4 55 yX4_isSet, .static yX4_isSet, .initialized RX4, .code yX4_isSet cX4_isSet 1 (some .boolean), .methodLink RX4 25 yX4_in, .static yX4_in, .code yX4_in cX4_in 3 (some .boolean), .methodLink RX4 78 yX4_sizeOf, .instanceMethod yX4_sizeOf, .selects RX4 yX4_sizeOf yX4_sizeOf, .code yX4_sizeOf cX4_sizeOf 4 (some .int), .methodLink RX4 51 yX4_has, .instanceMethod yX4_has, .selects RX4 yX4_has yX4_has, .code yX4_has cX4_has 3 (some .boolean), .fieldLink RX4 7 "PieceSetsModel" "v" "[I", .methodLink RX4 29 yX4_bit, .static yX4_bit, .code yX4_bit cX4_bit 3 (some .boolean)] ++ wsX40)
def wsX4_contains : List Cond := .code yX4_contains cX4_contains 3 (some .int) :: ([.methodLink RX4 55 yX4_isSet, .static yX4_isSet, .initialized RX4, .code yX4_isSet cX4_isSet 1 (some .boolean), .methodLink RX4 25 yX4_in, .static yX4_in, .code yX4_in cX4_in 3 (some .boolean), .methodLink RX4 51 yX4_has, .instanceMethod yX4_has, .selects RX4 yX4_has yX4_has, .code yX4_has cX4_has 3 (some .boolean), .fieldLink RX4 7 "PieceSetsModel" "v" "[I", .methodLink RX4 29 yX4_bit, .static yX4_bit, .code yX4_bit cX4_bit 3 (some .boolean)] ++ wsX40)
def wsX4_rank : List Cond := .code yX4_rank cX4_rank 5 (some .int) :: ([.methodLink RX4 55 yX4_isSet, .static yX4_isSet, .initialized RX4, .code yX4_isSet cX4_isSet 1 (some .boolean), .methodLink RX4 25 yX4_in, .static yX4_in, .code yX4_in cX4_in 3 (some .boolean), .methodLink RX4 51 yX4_has, .instanceMethod yX4_has, .selects RX4 yX4_has yX4_has, .code yX4_has cX4_has 3 (some .boolean), .fieldLink RX4 7 "PieceSetsModel" "v" "[I", .methodLink RX4 29 yX4_bit, .static yX4_bit, .code yX4_bit cX4_bit 3 (some .boolean)] ++ wsX40)
def wsX4_select : List Cond := .code yX4_select cX4_select 5 (some .int) :: ([.methodLink RX4 55 yX4_isSet, .static yX4_isSet, .initialized RX4, .code yX4_isSet cX4_isSet 1 (some .boolean), .methodLink RX4 25 yX4_in, .static yX4_in, .code yX4_in cX4_in 3 (some .boolean), .methodLink RX4 51 yX4_has, .instanceMethod yX4_has, .selects RX4 yX4_has yX4_has, .code yX4_has cX4_has 3 (some .boolean), .fieldLink RX4 7 "PieceSetsModel" "v" "[I", .methodLink RX4 29 yX4_bit, .static yX4_bit, .code yX4_bit cX4_bit 3 (some .boolean)] ++ wsX40)
def wsX4_near : List Cond := .code yX4_near cX4_near 6 (some .int) :: ([.methodLink RX4 55 yX4_isSet, .static yX4_isSet, .initialized RX4, .code yX4_isSet cX4_isSet 1 (some .boolean), .methodLink RX4 25 yX4_in, .static yX4_in, .code yX4_in cX4_in 3 (some .boolean), .methodLink RX4 51 yX4_has, .instanceMethod yX4_has, .selects RX4 yX4_has yX4_has, .code yX4_has cX4_has 3 (some .boolean), .fieldLink RX4 7 "PieceSetsModel" "v" "[I", .methodLink RX4 29 yX4_bit, .static yX4_bit, .code yX4_bit cX4_bit 3 (some .boolean)] ++ wsX40)
def wsX4_begins : List Cond := .code yX4_begins cX4_begins 3 (some .boolean) :: ([.methodLink RX4 51 yX4_has, .instanceMethod yX4_has, .selects RX4 yX4_has yX4_has, .initialized RX4, .code yX4_has cX4_has 3 (some .boolean), .fieldLink RX4 7 "PieceSetsModel" "v" "[I", .methodLink RX4 29 yX4_bit, .static yX4_bit, .code yX4_bit cX4_bit 3 (some .boolean)] ++ wsX40)
def wsX4_runs : List Cond := .code yX4_runs cX4_runs 4 (some .int) :: ([.methodLink RX4 55 yX4_isSet, .static yX4_isSet, .initialized RX4, .code yX4_isSet cX4_isSet 1 (some .boolean), .methodLink RX4 25 yX4_in, .static yX4_in, .code yX4_in cX4_in 3 (some .boolean), .methodLink RX4 82 yX4_begins, .instanceMethod yX4_begins, .selects RX4 yX4_begins yX4_begins, .code yX4_begins cX4_begins 3 (some .boolean), .methodLink RX4 51 yX4_has, .instanceMethod yX4_has, .selects RX4 yX4_has yX4_has, .code yX4_has cX4_has 3 (some .boolean), .fieldLink RX4 7 "PieceSetsModel" "v" "[I", .methodLink RX4 29 yX4_bit, .static yX4_bit, .code yX4_bit cX4_bit 3 (some .boolean)] ++ wsX40)
def wsX4_run : List Cond := .code yX4_run cX4_run 6 (some .int) :: ([.methodLink RX4 55 yX4_isSet, .static yX4_isSet, .initialized RX4, .code yX4_isSet cX4_isSet 1 (some .boolean), .methodLink RX4 25 yX4_in, .static yX4_in, .code yX4_in cX4_in 3 (some .boolean), .methodLink RX4 82 yX4_begins, .instanceMethod yX4_begins, .selects RX4 yX4_begins yX4_begins, .code yX4_begins cX4_begins 3 (some .boolean), .methodLink RX4 51 yX4_has, .instanceMethod yX4_has, .selects RX4 yX4_has yX4_has, .code yX4_has cX4_has 3 (some .boolean), .fieldLink RX4 7 "PieceSetsModel" "v" "[I", .methodLink RX4 29 yX4_bit, .static yX4_bit, .code yX4_bit cX4_bit 3 (some .boolean)] ++ wsX40)
def wsX4_told : List Cond := .code yX4_told cX4_told 6 (some .int) :: ([.fieldLink RX4 7 "PieceSetsModel" "v" "[I", .methodLink RX4 41 yX4_manyIn, .static yX4_manyIn, .initialized RX4, .code yX4_manyIn cX4_manyIn 5 (some .int), .methodLink RX4 29 yX4_bit, .static yX4_bit, .code yX4_bit cX4_bit 3 (some .boolean), .methodLink RX4 45 yX4_runsIn, .static yX4_runsIn, .code yX4_runsIn cX4_runsIn 5 (some .int), .methodLink RX4 37 yX4_kindBy, .static yX4_kindBy, .code yX4_kindBy cX4_kindBy 4 (some .int), .methodLink RX4 85 yX4_bytesBy, .static yX4_bytesBy, .code yX4_bytesBy cX4_bytesBy 3 (some .int)] ++ wsX40)
def wsX4_piece_r1 : List Cond := [Cond.methodLink RX4 55 yX4_isSet, Cond.static yX4_isSet, Cond.initialized RX4, Cond.code yX4_isSet cX4_isSet 1 (some .boolean), Cond.methodLink RX4 25 yX4_in, Cond.static yX4_in, Cond.code yX4_in cX4_in 3 (some .boolean), Cond.methodLink RX4 88 yX4_told, Cond.instanceMethod yX4_told, Cond.selects RX4 yX4_told yX4_told, Cond.code yX4_told cX4_told 6 (some .int), Cond.fieldLink RX4 7 "PieceSetsModel" "v" "[I", Cond.methodLink RX4 41 yX4_manyIn, Cond.static yX4_manyIn, Cond.code yX4_manyIn cX4_manyIn 5 (some .int), Cond.methodLink RX4 29 yX4_bit, Cond.static yX4_bit, Cond.code yX4_bit cX4_bit 3 (some .boolean), Cond.methodLink RX4 45 yX4_runsIn, Cond.static yX4_runsIn, Cond.code yX4_runsIn cX4_runsIn 5 (some .int), Cond.methodLink RX4 37 yX4_kindBy, Cond.static yX4_kindBy, Cond.code yX4_kindBy cX4_kindBy 4 (some .int)]
def wsX4_piece_r2 : List Cond := [Cond.methodLink RX4 85 yX4_bytesBy, Cond.static yX4_bytesBy, Cond.code yX4_bytesBy cX4_bytesBy 3 (some .int)]
def wsX4_piece : List Cond := .code yX4_piece cX4_piece 4 (some .int) :: ((wsX4_piece_r1 ++ wsX4_piece_r2) ++ wsX40)
def wsX4_bytes_r1 : List Cond := [Cond.methodLink RX4 55 yX4_isSet, Cond.static yX4_isSet, Cond.initialized RX4, Cond.code yX4_isSet cX4_isSet 1 (some .boolean), Cond.methodLink RX4 25 yX4_in, Cond.static yX4_in, Cond.code yX4_in cX4_in 3 (some .boolean), Cond.methodLink RX4 88 yX4_told, Cond.instanceMethod yX4_told, Cond.selects RX4 yX4_told yX4_told, Cond.code yX4_told cX4_told 6 (some .int), Cond.fieldLink RX4 7 "PieceSetsModel" "v" "[I", Cond.methodLink RX4 41 yX4_manyIn, Cond.static yX4_manyIn, Cond.code yX4_manyIn cX4_manyIn 5 (some .int), Cond.methodLink RX4 29 yX4_bit, Cond.static yX4_bit, Cond.code yX4_bit cX4_bit 3 (some .boolean), Cond.methodLink RX4 45 yX4_runsIn, Cond.static yX4_runsIn, Cond.code yX4_runsIn cX4_runsIn 5 (some .int), Cond.methodLink RX4 37 yX4_kindBy, Cond.static yX4_kindBy, Cond.code yX4_kindBy cX4_kindBy 4 (some .int)]
def wsX4_bytes_r2 : List Cond := [Cond.methodLink RX4 85 yX4_bytesBy, Cond.static yX4_bytesBy, Cond.code yX4_bytesBy cX4_bytesBy 3 (some .int)]
def wsX4_bytes : List Cond := .code yX4_bytes cX4_bytes 4 (some .int) :: ((wsX4_bytes_r1 ++ wsX4_bytes_r2) ++ wsX40)
def wsX4_byteOf_r1 : List Cond := [Cond.methodLink RX4 88 yX4_told, Cond.instanceMethod yX4_told, Cond.selects RX4 yX4_told yX4_told, Cond.initialized RX4, Cond.code yX4_told cX4_told 6 (some .int), Cond.fieldLink RX4 7 "PieceSetsModel" "v" "[I", Cond.methodLink RX4 41 yX4_manyIn, Cond.static yX4_manyIn, Cond.code yX4_manyIn cX4_manyIn 5 (some .int), Cond.methodLink RX4 29 yX4_bit, Cond.static yX4_bit, Cond.code yX4_bit cX4_bit 3 (some .boolean), Cond.methodLink RX4 45 yX4_runsIn, Cond.static yX4_runsIn, Cond.code yX4_runsIn cX4_runsIn 5 (some .int), Cond.methodLink RX4 37 yX4_kindBy, Cond.static yX4_kindBy, Cond.code yX4_kindBy cX4_kindBy 4 (some .int), Cond.methodLink RX4 85 yX4_bytesBy, Cond.static yX4_bytesBy, Cond.code yX4_bytesBy cX4_bytesBy 3 (some .int), Cond.methodLink RX4 51 yX4_has, Cond.instanceMethod yX4_has, Cond.selects RX4 yX4_has yX4_has]
def wsX4_byteOf_r2 : List Cond := [Cond.code yX4_has cX4_has 3 (some .boolean)]
def wsX4_byteOf : List Cond := .code yX4_byteOf cX4_byteOf 10 (some .int) :: ((wsX4_byteOf_r1 ++ wsX4_byteOf_r2) ++ wsX40)
def wsX4_byteAt_r1 : List Cond := [Cond.methodLink RX4 55 yX4_isSet, Cond.static yX4_isSet, Cond.initialized RX4, Cond.code yX4_isSet cX4_isSet 1 (some .boolean), Cond.methodLink RX4 25 yX4_in, Cond.static yX4_in, Cond.code yX4_in cX4_in 3 (some .boolean), Cond.methodLink RX4 88 yX4_told, Cond.instanceMethod yX4_told, Cond.selects RX4 yX4_told yX4_told, Cond.code yX4_told cX4_told 6 (some .int), Cond.fieldLink RX4 7 "PieceSetsModel" "v" "[I", Cond.methodLink RX4 41 yX4_manyIn, Cond.static yX4_manyIn, Cond.code yX4_manyIn cX4_manyIn 5 (some .int), Cond.methodLink RX4 29 yX4_bit, Cond.static yX4_bit, Cond.code yX4_bit cX4_bit 3 (some .boolean), Cond.methodLink RX4 45 yX4_runsIn, Cond.static yX4_runsIn, Cond.code yX4_runsIn cX4_runsIn 5 (some .int), Cond.methodLink RX4 37 yX4_kindBy, Cond.static yX4_kindBy, Cond.code yX4_kindBy cX4_kindBy 4 (some .int)]
def wsX4_byteAt_r2 : List Cond := [Cond.methodLink RX4 85 yX4_bytesBy, Cond.static yX4_bytesBy, Cond.code yX4_bytesBy cX4_bytesBy 3 (some .int), Cond.methodLink RX4 92 yX4_byteOf, Cond.instanceMethod yX4_byteOf, Cond.selects RX4 yX4_byteOf yX4_byteOf, Cond.code yX4_byteOf cX4_byteOf 10 (some .int), Cond.methodLink RX4 51 yX4_has, Cond.instanceMethod yX4_has, Cond.selects RX4 yX4_has yX4_has, Cond.code yX4_has cX4_has 3 (some .boolean)]
def wsX4_byteAt : List Cond := .code yX4_byteAt cX4_byteAt 6 (some .int) :: ((wsX4_byteAt_r1 ++ wsX4_byteAt_r2) ++ wsX40)
def wsX4_put : List Cond := .code yX4_put cX4_put 2 (some .int) :: ([.fieldLink RX4 95 "PieceSetsModel" "bufferMany" "I", .fieldLink RX4 19 "PieceSetsModel" "buffer" "[I", .methodLink RX4 25 yX4_in, .static yX4_in, .initialized RX4, .code yX4_in cX4_in 3 (some .boolean)] ++ wsX40)
def wsX4_clear : List Cond := .code yX4_clear cX4_clear 2 (some .int) :: ([.fieldLink RX4 95 "PieceSetsModel" "bufferMany" "I"] ++ wsX40)
def wsX4_takes : List Cond := .code yX4_takes cX4_takes 2 none :: ([.fieldLink RX4 22 "PieceSetsModel" "bits" "[I"] ++ wsX40)
def wsX4_next : List Cond := .code yX4_next cX4_next 1 (some .int) :: ([.fieldLink RX4 98 "PieceSetsModel" "at" "I", .fieldLink RX4 95 "PieceSetsModel" "bufferMany" "I", .fieldLink RX4 19 "PieceSetsModel" "buffer" "[I"] ++ wsX40)
def wsX4_readsPlaces : List Cond := .code yX4_readsPlaces cX4_readsPlaces 8 (some .boolean) :: ([.fieldLink RX4 98 "PieceSetsModel" "at" "I", .methodLink RX4 101 yX4_next, .instanceMethod yX4_next, .selects RX4 yX4_next yX4_next, .initialized RX4, .code yX4_next cX4_next 1 (some .int), .fieldLink RX4 95 "PieceSetsModel" "bufferMany" "I", .fieldLink RX4 19 "PieceSetsModel" "buffer" "[I", .methodLink RX4 105 yX4_takes, .instanceMethod yX4_takes, .selects RX4 yX4_takes yX4_takes, .code yX4_takes cX4_takes 2 none, .fieldLink RX4 22 "PieceSetsModel" "bits" "[I"] ++ wsX40)
def wsX4_readsBitmap : List Cond := .code yX4_readsBitmap cX4_readsBitmap 4 (some .boolean) :: ([.fieldLink RX4 98 "PieceSetsModel" "at" "I", .methodLink RX4 101 yX4_next, .instanceMethod yX4_next, .selects RX4 yX4_next yX4_next, .initialized RX4, .code yX4_next cX4_next 1 (some .int), .fieldLink RX4 95 "PieceSetsModel" "bufferMany" "I", .fieldLink RX4 19 "PieceSetsModel" "buffer" "[I", .methodLink RX4 105 yX4_takes, .instanceMethod yX4_takes, .selects RX4 yX4_takes yX4_takes, .code yX4_takes cX4_takes 2 none, .fieldLink RX4 22 "PieceSetsModel" "bits" "[I"] ++ wsX40)
def wsX4_isKind : List Cond := .code yX4_isKind cX4_isKind 8 (some .boolean) :: ([.fieldLink RX4 22 "PieceSetsModel" "bits" "[I", .methodLink RX4 37 yX4_kindBy, .static yX4_kindBy, .initialized RX4, .code yX4_kindBy cX4_kindBy 4 (some .int)] ++ wsX40)
def wsX4_wrongAt_r1 : List Cond := [Cond.fieldLink RX4 22 "PieceSetsModel" "bits" "[I", Cond.fieldLink RX4 98 "PieceSetsModel" "at" "I", Cond.fieldLink RX4 95 "PieceSetsModel" "bufferMany" "I", Cond.fieldLink RX4 19 "PieceSetsModel" "buffer" "[I", Cond.methodLink RX4 108 yX4_readsBitmap, Cond.instanceMethod yX4_readsBitmap, Cond.selects RX4 yX4_readsBitmap yX4_readsBitmap, Cond.initialized RX4, Cond.code yX4_readsBitmap cX4_readsBitmap 4 (some .boolean), Cond.methodLink RX4 101 yX4_next, Cond.instanceMethod yX4_next, Cond.selects RX4 yX4_next yX4_next, Cond.code yX4_next cX4_next 1 (some .int), Cond.methodLink RX4 105 yX4_takes, Cond.instanceMethod yX4_takes, Cond.selects RX4 yX4_takes yX4_takes, Cond.code yX4_takes cX4_takes 2 none, Cond.methodLink RX4 111 yX4_readsPlaces, Cond.instanceMethod yX4_readsPlaces, Cond.selects RX4 yX4_readsPlaces yX4_readsPlaces, Cond.code yX4_readsPlaces cX4_readsPlaces 8 (some .boolean), Cond.methodLink RX4 115 yX4_isKind, Cond.instanceMethod yX4_isKind, Cond.selects RX4 yX4_isKind yX4_isKind]
def wsX4_wrongAt_r2 : List Cond := [Cond.code yX4_isKind cX4_isKind 8 (some .boolean), Cond.methodLink RX4 37 yX4_kindBy, Cond.static yX4_kindBy, Cond.code yX4_kindBy cX4_kindBy 4 (some .int)]
def wsX4_wrongAt : List Cond := .code yX4_wrongAt cX4_wrongAt 6 (some .int) :: ((wsX4_wrongAt_r1 ++ wsX4_wrongAt_r2) ++ wsX40)
def wsX4_read_r1 : List Cond := [Cond.fieldLink RX4 7 "PieceSetsModel" "v" "[I", Cond.fieldLink RX4 22 "PieceSetsModel" "bits" "[I", Cond.fieldLink RX4 95 "PieceSetsModel" "bufferMany" "I", Cond.methodLink RX4 55 yX4_isSet, Cond.static yX4_isSet, Cond.initialized RX4, Cond.code yX4_isSet cX4_isSet 1 (some .boolean), Cond.methodLink RX4 25 yX4_in, Cond.static yX4_in, Cond.code yX4_in cX4_in 3 (some .boolean), Cond.methodLink RX4 118 yX4_wrongAt, Cond.instanceMethod yX4_wrongAt, Cond.selects RX4 yX4_wrongAt yX4_wrongAt, Cond.code yX4_wrongAt cX4_wrongAt 6 (some .int), Cond.fieldLink RX4 98 "PieceSetsModel" "at" "I", Cond.fieldLink RX4 19 "PieceSetsModel" "buffer" "[I", Cond.methodLink RX4 108 yX4_readsBitmap, Cond.instanceMethod yX4_readsBitmap, Cond.selects RX4 yX4_readsBitmap yX4_readsBitmap, Cond.code yX4_readsBitmap cX4_readsBitmap 4 (some .boolean), Cond.methodLink RX4 101 yX4_next, Cond.instanceMethod yX4_next, Cond.selects RX4 yX4_next yX4_next, Cond.code yX4_next cX4_next 1 (some .int)]
def wsX4_read_r2 : List Cond := [Cond.methodLink RX4 105 yX4_takes, Cond.instanceMethod yX4_takes, Cond.selects RX4 yX4_takes yX4_takes, Cond.code yX4_takes cX4_takes 2 none, Cond.methodLink RX4 111 yX4_readsPlaces, Cond.instanceMethod yX4_readsPlaces, Cond.selects RX4 yX4_readsPlaces yX4_readsPlaces, Cond.code yX4_readsPlaces cX4_readsPlaces 8 (some .boolean), Cond.methodLink RX4 115 yX4_isKind, Cond.instanceMethod yX4_isKind, Cond.selects RX4 yX4_isKind yX4_isKind, Cond.code yX4_isKind cX4_isKind 8 (some .boolean), Cond.methodLink RX4 37 yX4_kindBy, Cond.static yX4_kindBy, Cond.code yX4_kindBy cX4_kindBy 4 (some .int), Cond.methodLink RX4 59 yX4_act, Cond.instanceMethod yX4_act, Cond.selects RX4 yX4_act yX4_act, Cond.code yX4_act cX4_act 2 none, Cond.fieldLink RX4 33 "PieceSetsModel" "pastMany" "I", Cond.fieldLink RX4 16 "PieceSetsModel" "past" "[I", Cond.fieldLink RX4 13 "PieceSetsModel" "aside" "[I", Cond.methodLink RX4 66 yX4_converts, Cond.instanceMethod yX4_converts]
def wsX4_read_r3 : List Cond := [Cond.selects RX4 yX4_converts yX4_converts, Cond.code yX4_converts cX4_converts 5 none, Cond.methodLink RX4 48 yX4_kindIn, Cond.static yX4_kindIn, Cond.code yX4_kindIn cX4_kindIn 3 (some .int), Cond.methodLink RX4 41 yX4_manyIn, Cond.static yX4_manyIn, Cond.code yX4_manyIn cX4_manyIn 5 (some .int), Cond.methodLink RX4 29 yX4_bit, Cond.static yX4_bit, Cond.code yX4_bit cX4_bit 3 (some .boolean), Cond.methodLink RX4 45 yX4_runsIn, Cond.static yX4_runsIn, Cond.code yX4_runsIn cX4_runsIn 5 (some .int), Cond.methodLink RX4 78 yX4_sizeOf, Cond.instanceMethod yX4_sizeOf, Cond.selects RX4 yX4_sizeOf yX4_sizeOf, Cond.code yX4_sizeOf cX4_sizeOf 4 (some .int), Cond.methodLink RX4 51 yX4_has, Cond.instanceMethod yX4_has, Cond.selects RX4 yX4_has yX4_has, Cond.code yX4_has cX4_has 3 (some .boolean)]
def wsX4_read : List Cond := .code yX4_read cX4_read 4 (some .int) :: ((wsX4_read_r1 ++ (wsX4_read_r2 ++ wsX4_read_r3)) ++ wsX40)
def wsX4_comparison : List Cond := .code yX4_comparison cX4_comparison 14 (some .int) :: ([.methodLink RX4 51 yX4_has, .instanceMethod yX4_has, .selects RX4 yX4_has yX4_has, .initialized RX4, .code yX4_has cX4_has 3 (some .boolean), .fieldLink RX4 7 "PieceSetsModel" "v" "[I", .methodLink RX4 29 yX4_bit, .static yX4_bit, .code yX4_bit cX4_bit 3 (some .boolean)] ++ wsX40)
def wsX4_compare : List Cond := .code yX4_compare cX4_compare 4 (some .int) :: ([.methodLink RX4 55 yX4_isSet, .static yX4_isSet, .initialized RX4, .code yX4_isSet cX4_isSet 1 (some .boolean), .methodLink RX4 25 yX4_in, .static yX4_in, .code yX4_in cX4_in 3 (some .boolean), .methodLink RX4 121 yX4_comparison, .instanceMethod yX4_comparison, .selects RX4 yX4_comparison yX4_comparison, .code yX4_comparison cX4_comparison 14 (some .int), .methodLink RX4 51 yX4_has, .instanceMethod yX4_has, .selects RX4 yX4_has yX4_has, .code yX4_has cX4_has 3 (some .boolean), .fieldLink RX4 7 "PieceSetsModel" "v" "[I", .methodLink RX4 29 yX4_bit, .static yX4_bit, .code yX4_bit cX4_bit 3 (some .boolean)] ++ wsX40)
def wsX4_alike : List Cond := .code yX4_alike cX4_alike 9 (some .int) :: ([.methodLink RX4 55 yX4_isSet, .static yX4_isSet, .initialized RX4, .code yX4_isSet cX4_isSet 1 (some .boolean), .methodLink RX4 25 yX4_in, .static yX4_in, .code yX4_in cX4_in 3 (some .boolean), .methodLink RX4 121 yX4_comparison, .instanceMethod yX4_comparison, .selects RX4 yX4_comparison yX4_comparison, .code yX4_comparison cX4_comparison 14 (some .int), .methodLink RX4 51 yX4_has, .instanceMethod yX4_has, .selects RX4 yX4_has yX4_has, .code yX4_has cX4_has 3 (some .boolean), .fieldLink RX4 7 "PieceSetsModel" "v" "[I", .methodLink RX4 29 yX4_bit, .static yX4_bit, .code yX4_bit cX4_bit 3 (some .boolean)] ++ wsX40)
def wsX4_isKindNumber : List Cond := .code yX4_isKindNumber cX4_isKindNumber 1 (some .boolean) :: ([.methodLink RX4 25 yX4_in, .static yX4_in, .initialized RX4, .code yX4_in cX4_in 3 (some .boolean)])
def wsX4_met : List Cond := .code yX4_met cX4_met 3 (some .int) :: ([.fieldLink RX4 7 "PieceSetsModel" "v" "[I", .methodLink RX4 124 yX4_isKindNumber, .static yX4_isKindNumber, .initialized RX4, .code yX4_isKindNumber cX4_isKindNumber 1 (some .boolean), .methodLink RX4 25 yX4_in, .static yX4_in, .code yX4_in cX4_in 3 (some .boolean)] ++ wsX40)
def wsX4_converted : List Cond := .code yX4_converted cX4_converted 3 (some .int) :: ([.fieldLink RX4 7 "PieceSetsModel" "v" "[I", .methodLink RX4 124 yX4_isKindNumber, .static yX4_isKindNumber, .initialized RX4, .code yX4_isKindNumber cX4_isKindNumber 1 (some .boolean), .methodLink RX4 25 yX4_in, .static yX4_in, .code yX4_in cX4_in 3 (some .boolean)] ++ wsX40)
def wsX4_undo : List Cond := .code yX4_undo cX4_undo 2 (some .int) :: ([.fieldLink RX4 33 "PieceSetsModel" "pastMany" "I", .fieldLink RX4 7 "PieceSetsModel" "v" "[I", .fieldLink RX4 16 "PieceSetsModel" "past" "[I"] ++ wsX40)
def wsX4_fingerprint_r1 : List Cond := [Cond.constantLong RX4 127 (163), Cond.constantLong RX4 129 (31), Cond.fieldLink RX4 7 "PieceSetsModel" "v" "[I", Cond.methodLink RX4 78 yX4_sizeOf, Cond.instanceMethod yX4_sizeOf, Cond.selects RX4 yX4_sizeOf yX4_sizeOf, Cond.initialized RX4, Cond.code yX4_sizeOf cX4_sizeOf 4 (some .int), Cond.methodLink RX4 51 yX4_has, Cond.instanceMethod yX4_has, Cond.selects RX4 yX4_has yX4_has, Cond.code yX4_has cX4_has 3 (some .boolean), Cond.methodLink RX4 29 yX4_bit, Cond.static yX4_bit, Cond.code yX4_bit cX4_bit 3 (some .boolean), Cond.methodLink RX4 41 yX4_manyIn, Cond.static yX4_manyIn, Cond.code yX4_manyIn cX4_manyIn 5 (some .int), Cond.methodLink RX4 88 yX4_told, Cond.instanceMethod yX4_told, Cond.selects RX4 yX4_told yX4_told, Cond.code yX4_told cX4_told 6 (some .int), Cond.methodLink RX4 45 yX4_runsIn, Cond.static yX4_runsIn]
def wsX4_fingerprint_r2 : List Cond := [Cond.code yX4_runsIn cX4_runsIn 5 (some .int), Cond.methodLink RX4 37 yX4_kindBy, Cond.static yX4_kindBy, Cond.code yX4_kindBy cX4_kindBy 4 (some .int), Cond.methodLink RX4 85 yX4_bytesBy, Cond.static yX4_bytesBy, Cond.code yX4_bytesBy cX4_bytesBy 3 (some .int)]
def wsX4_fingerprint : List Cond := .code yX4_fingerprint cX4_fingerprint 6 (some .long) :: ((wsX4_fingerprint_r1 ++ wsX4_fingerprint_r2) ++ wsX40)
def wsJ9_max_7cf53 : List Cond := .code yJ9_max_7cf53 cJ9_max_7cf53 2 (some .int) :: ([])
def wsJ9_min_7cf53 : List Cond := .code yJ9_min_7cf53 cJ9_min_7cf53 2 (some .int) :: ([])
def wsL_law_r1 : List Cond := [Cond.classLink RL 7 RX3, Cond.instantiable RX3 5, Cond.initialized RX3, Cond.classLink RL 10 RX4, Cond.instantiable RX4 8, Cond.initialized RX4, Cond.methodLink RL 9 yX3_init, Cond.instanceMethod yX3_init, Cond.code yX3_init cX3_init 2 none, Cond.methodLink RX3 1 objectInit, Cond.instanceMethod objectInit, Cond.code objectInit ⟨#[0xb1]⟩ 1 none, Cond.classLink RX3 7 RX2, Cond.instantiable RX2 3, Cond.initialized RX2, Cond.fieldLink RX3 10 "PieceSets" "now" "LPieceSets$State;", Cond.fieldLink RX3 16 "PieceSets" "past" "[LPieceSets$State;", Cond.fieldLink RX3 20 "PieceSets" "kept" "I", Cond.classLink RX3 24 RX0, Cond.instantiable RX0 2, Cond.initialized RX0, Cond.fieldLink RX3 27 "PieceSets" "buffer" "LPieceSets$Buffer;", Cond.classLink RX3 31 RX1, Cond.instantiable RX1 1]
def wsL_law_r2 : List Cond := [Cond.initialized RX1, Cond.fieldLink RX3 34 "PieceSets" "scratch" "LPieceSets$Numbers;", Cond.instanceMethod yX2_init, Cond.code yX2_init cX2_init 2 none, Cond.methodLink RX2 3 objectInit, Cond.classLink RX2 9 RX1, Cond.fieldLink RX2 11 "PieceSets$State" "sets" "[LPieceSets$Numbers;", Cond.arrayClass .int, Cond.fieldLink RX2 18 "PieceSets$State" "meetings" "[I", Cond.fieldLink RX2 22 "PieceSets$State" "conversions" "[I", Cond.instanceMethod yX1_init, Cond.code yX1_init cX1_init 1 none, Cond.methodLink RX1 3 objectInit, Cond.arrayClass .long, Cond.fieldLink RX1 9 "PieceSets$Numbers" "words" "[J", Cond.instanceMethod yX0_init, Cond.code yX0_init cX0_init 1 none, Cond.methodLink RX0 3 objectInit, Cond.fieldLink RX0 9 "PieceSets$Buffer" "row" "[I", Cond.fieldLink RX0 15 "PieceSets$Buffer" "length" "I", Cond.methodLink RL 12 yX4_init, Cond.instanceMethod yX4_init, Cond.code yX4_init cX4_init 1 none, Cond.methodLink RX4 1 objectInit]
def wsL_law_r3 : List Cond := [Cond.fieldLink RX4 7 "PieceSetsModel" "v" "[I", Cond.fieldLink RX4 13 "PieceSetsModel" "aside" "[I", Cond.fieldLink RX4 16 "PieceSetsModel" "past" "[I", Cond.fieldLink RX4 19 "PieceSetsModel" "buffer" "[I", Cond.fieldLink RX4 22 "PieceSetsModel" "bits" "[I", Cond.methodLink RL 13 yX3_add, Cond.instanceMethod yX3_add, Cond.selects RX3 yX3_add yX3_add, Cond.code yX3_add cX3_add 6 (some .int), Cond.methodLink RX3 38 yX3_isSet, Cond.static yX3_isSet, Cond.code yX3_isSet cX3_isSet 1 (some .boolean), Cond.methodLink RX3 42 yX3_isRange, Cond.static yX3_isRange, Cond.code yX3_isRange cX3_isRange 2 (some .boolean), Cond.methodLink RX3 160 yX3_isNumber, Cond.static yX3_isNumber, Cond.code yX3_isNumber cX3_isNumber 1 (some .boolean), Cond.methodLink RX3 46 yX3_keepState, Cond.instanceMethod yX3_keepState, Cond.selects RX3 yX3_keepState yX3_keepState, Cond.code yX3_keepState cX3_keepState 3 (some (.object "PieceSets$State")), Cond.instanceMethod yX2_become, Cond.selects RX2 yX2_become yX2_become]
def wsL_law_r4 : List Cond := [Cond.code yX2_become cX2_become 3 none, Cond.methodLink RX2 29 arraycopyName, Cond.native arraycopyName, Cond.static arraycopyName, Cond.initialized "java/lang/System", Cond.instanceMethod yX1_become, Cond.selects RX1 yX1_become yX1_become, Cond.code yX1_become cX1_become 2 none, Cond.methodLink RX1 15 arraycopyName, Cond.instanceMethod yX1_includeAll, Cond.selects RX1 yX1_includeAll yX1_includeAll, Cond.code yX1_includeAll cX1_includeAll 4 none, Cond.methodLink RX1 41 yX1_mask, Cond.static yX1_mask, Cond.code yX1_mask cX1_mask 5 (some .long), Cond.methodLink RX1 45 Lib.Math.max.name, Cond.static Lib.Math.max.name, Cond.initialized "java/lang/Math", Cond.code Lib.Math.max.name Lib.Math.max.code 2 (some .int), Cond.methodLink RX1 51 Lib.Math.min.name, Cond.static Lib.Math.min.name, Cond.code Lib.Math.min.name Lib.Math.min.code 2 (some .int), Cond.constantLong RX1 31 (-1), Cond.instanceMethod yX2_countConversions]
def wsL_law_r5 : List Cond := [Cond.selects RX2 yX2_countConversions yX2_countConversions, Cond.code yX2_countConversions cX2_countConversions 6 none, Cond.instanceMethod yX1_kindOf, Cond.selects RX1 yX1_kindOf yX1_kindOf, Cond.code yX1_kindOf cX1_kindOf 5 (some .int), Cond.methodLink RX1 54 yX1_countInPiece, Cond.instanceMethod yX1_countInPiece, Cond.selects RX1 yX1_countInPiece yX1_countInPiece, Cond.code yX1_countInPiece cX1_countInPiece 4 (some .int), Cond.methodLink RX1 33 yX1_wordAt, Cond.instanceMethod yX1_wordAt, Cond.selects RX1 yX1_wordAt yX1_wordAt, Cond.code yX1_wordAt cX1_wordAt 2 (some .long), Cond.methodLink RX1 58 yJ13_bitCount_95d88, Cond.static yJ13_bitCount_95d88, Cond.initialized RJ13, Cond.code yJ13_bitCount_95d88 cJ13_bitCount_95d88 2 (some .int), Cond.constantLong RJ13 314 (6148914691236517205), Cond.constantLong RJ13 316 (3689348814741910323), Cond.constantLong RJ13 318 (1085102592571150095), Cond.methodLink RX1 68 yX1_countRuns, Cond.instanceMethod yX1_countRuns, Cond.selects RX1 yX1_countRuns yX1_countRuns, Cond.code yX1_countRuns cX1_countRuns 9 (some .int)]
def wsL_law_r6 : List Cond := [Cond.static yX3_isKind, Cond.code yX3_isKind cX3_isKind 1 (some .boolean), Cond.instanceMethod yX1_count, Cond.selects RX1 yX1_count yX1_count, Cond.code yX1_count cX1_count 3 (some .int), Cond.methodLink RL 17 yX4_add, Cond.instanceMethod yX4_add, Cond.selects RX4 yX4_add yX4_add, Cond.code yX4_add cX4_add 4 (some .int), Cond.methodLink RX4 70 yX4_isRange, Cond.static yX4_isRange, Cond.code yX4_isRange cX4_isRange 3 (some .boolean), Cond.methodLink RX4 55 yX4_isSet, Cond.static yX4_isSet, Cond.code yX4_isSet cX4_isSet 1 (some .boolean), Cond.methodLink RX4 25 yX4_in, Cond.static yX4_in, Cond.code yX4_in cX4_in 3 (some .boolean), Cond.methodLink RX4 73 yX4_turns, Cond.instanceMethod yX4_turns, Cond.selects RX4 yX4_turns yX4_turns, Cond.code yX4_turns cX4_turns 7 (some .int), Cond.methodLink RX4 59 yX4_act, Cond.instanceMethod yX4_act]
def wsL_law_r7 : List Cond := [Cond.selects RX4 yX4_act yX4_act, Cond.code yX4_act cX4_act 2 none, Cond.fieldLink RX4 33 "PieceSetsModel" "pastMany" "I", Cond.methodLink RX4 51 yX4_has, Cond.instanceMethod yX4_has, Cond.selects RX4 yX4_has yX4_has, Cond.code yX4_has cX4_has 3 (some .boolean), Cond.methodLink RX4 29 yX4_bit, Cond.static yX4_bit, Cond.code yX4_bit cX4_bit 3 (some .boolean), Cond.methodLink RX4 62 yX4_puts, Cond.instanceMethod yX4_puts, Cond.selects RX4 yX4_puts yX4_puts, Cond.code yX4_puts cX4_puts 5 none, Cond.methodLink RX4 66 yX4_converts, Cond.instanceMethod yX4_converts, Cond.selects RX4 yX4_converts yX4_converts, Cond.code yX4_converts cX4_converts 5 none, Cond.methodLink RX4 48 yX4_kindIn, Cond.static yX4_kindIn, Cond.code yX4_kindIn cX4_kindIn 3 (some .int), Cond.methodLink RX4 41 yX4_manyIn, Cond.static yX4_manyIn, Cond.code yX4_manyIn cX4_manyIn 5 (some .int)]
def wsL_law_r8 : List Cond := [Cond.methodLink RX4 45 yX4_runsIn, Cond.static yX4_runsIn, Cond.code yX4_runsIn cX4_runsIn 5 (some .int), Cond.methodLink RX4 37 yX4_kindBy, Cond.static yX4_kindBy, Cond.code yX4_kindBy cX4_kindBy 4 (some .int), Cond.methodLink RL 18 yX3_remove, Cond.instanceMethod yX3_remove, Cond.selects RX3 yX3_remove yX3_remove, Cond.code yX3_remove cX3_remove 6 (some .int), Cond.instanceMethod yX1_excludeAll, Cond.selects RX1 yX1_excludeAll yX1_excludeAll, Cond.code yX1_excludeAll cX1_excludeAll 4 none, Cond.methodLink RL 21 yX4_remove, Cond.instanceMethod yX4_remove, Cond.selects RX4 yX4_remove yX4_remove, Cond.code yX4_remove cX4_remove 4 (some .int), Cond.methodLink RL 22 yX3_flip, Cond.instanceMethod yX3_flip, Cond.selects RX3 yX3_flip yX3_flip, Cond.code yX3_flip cX3_flip 6 (some .int), Cond.instanceMethod yX1_turnAll, Cond.selects RX1 yX1_turnAll yX1_turnAll, Cond.code yX1_turnAll cX1_turnAll 4 none]
def wsL_law_r9 : List Cond := [Cond.instanceMethod yX1_countIn, Cond.selects RX1 yX1_countIn yX1_countIn, Cond.code yX1_countIn cX1_countIn 5 (some .int), Cond.methodLink RL 25 yX4_flip, Cond.instanceMethod yX4_flip, Cond.selects RX4 yX4_flip yX4_flip, Cond.code yX4_flip cX4_flip 4 (some .int), Cond.methodLink RL 26 yX3_scatter, Cond.instanceMethod yX3_scatter, Cond.selects RX3 yX3_scatter yX3_scatter, Cond.code yX3_scatter cX3_scatter 8 (some .int), Cond.constant RX3 76 (1103515245), Cond.instanceMethod yX1_include, Cond.selects RX1 yX1_include yX1_include, Cond.code yX1_include cX1_include 2 none, Cond.methodLink RL 29 yX4_scatter, Cond.instanceMethod yX4_scatter, Cond.selects RX4 yX4_scatter yX4_scatter, Cond.code yX4_scatter cX4_scatter 6 (some .int), Cond.constant RX4 77 (1103515245), Cond.methodLink RX4 78 yX4_sizeOf, Cond.instanceMethod yX4_sizeOf, Cond.selects RX4 yX4_sizeOf yX4_sizeOf, Cond.code yX4_sizeOf cX4_sizeOf 4 (some .int)]
def wsL_law_r10 : List Cond := [Cond.methodLink RL 30 yX3_combine, Cond.instanceMethod yX3_combine, Cond.selects RX3 yX3_combine yX3_combine, Cond.code yX3_combine cX3_combine 7 (some .int), Cond.instanceMethod yX1_becomeJoin, Cond.selects RX1 yX1_becomeJoin yX1_becomeJoin, Cond.code yX1_becomeJoin cX1_becomeJoin 5 none, Cond.methodLink RX1 27 yX1_join, Cond.static yX1_join, Cond.code yX1_join cX1_join 5 (some .long), Cond.instanceMethod yX2_countMeetings, Cond.selects RX2 yX2_countMeetings yX2_countMeetings, Cond.code yX2_countMeetings cX2_countMeetings 6 none, Cond.methodLink RL 34 yX4_combine, Cond.instanceMethod yX4_combine, Cond.selects RX4 yX4_combine yX4_combine, Cond.code yX4_combine cX4_combine 8 (some .int), Cond.methodLink RL 35 yX3_shift, Cond.instanceMethod yX3_shift, Cond.selects RX3 yX3_shift yX3_shift, Cond.code yX3_shift cX3_shift 5 (some .int), Cond.instanceMethod yX1_becomeMoved, Cond.selects RX1 yX1_becomeMoved yX1_becomeMoved, Cond.code yX1_becomeMoved cX1_becomeMoved 10 none]
def wsL_law_r11 : List Cond := [Cond.methodLink RL 39 yX4_shift, Cond.instanceMethod yX4_shift, Cond.selects RX4 yX4_shift yX4_shift, Cond.code yX4_shift cX4_shift 5 (some .int), Cond.methodLink RL 40 yX3_size, Cond.instanceMethod yX3_size, Cond.selects RX3 yX3_size yX3_size, Cond.code yX3_size cX3_size 2 (some .int), Cond.methodLink RL 44 yX4_size, Cond.instanceMethod yX4_size, Cond.selects RX4 yX4_size yX4_size, Cond.code yX4_size cX4_size 2 (some .int), Cond.methodLink RL 45 yX3_contains, Cond.instanceMethod yX3_contains, Cond.selects RX3 yX3_contains yX3_contains, Cond.code yX3_contains cX3_contains 3 (some .int), Cond.instanceMethod yX1_holds, Cond.selects RX1 yX1_holds yX1_holds, Cond.code yX1_holds cX1_holds 2 (some .boolean), Cond.methodLink RL 48 yX4_contains, Cond.instanceMethod yX4_contains, Cond.selects RX4 yX4_contains yX4_contains, Cond.code yX4_contains cX4_contains 3 (some .int), Cond.methodLink RL 49 yX3_rank]
def wsL_law_r12 : List Cond := [Cond.instanceMethod yX3_rank, Cond.selects RX3 yX3_rank yX3_rank, Cond.code yX3_rank cX3_rank 3 (some .int), Cond.methodLink RL 52 yX4_rank, Cond.instanceMethod yX4_rank, Cond.selects RX4 yX4_rank yX4_rank, Cond.code yX4_rank cX4_rank 5 (some .int), Cond.methodLink RL 53 yX3_select, Cond.instanceMethod yX3_select, Cond.selects RX3 yX3_select yX3_select, Cond.code yX3_select cX3_select 3 (some .int), Cond.instanceMethod yX1_nth, Cond.selects RX1 yX1_nth yX1_nth, Cond.code yX1_nth cX1_nth 5 (some .int), Cond.methodLink RX1 64 yX1_nthBit, Cond.static yX1_nthBit, Cond.code yX1_nthBit cX1_nthBit 5 (some .int), Cond.methodLink RL 56 yX4_select, Cond.instanceMethod yX4_select, Cond.selects RX4 yX4_select yX4_select, Cond.code yX4_select cX4_select 5 (some .int), Cond.methodLink RL 57 yX3_near, Cond.instanceMethod yX3_near, Cond.selects RX3 yX3_near yX3_near]
def wsL_law_r13 : List Cond := [Cond.code yX3_near cX3_near 5 (some .int), Cond.methodLink RL 61 yX4_near, Cond.instanceMethod yX4_near, Cond.selects RX4 yX4_near yX4_near, Cond.code yX4_near cX4_near 6 (some .int), Cond.methodLink RL 62 yX3_runs, Cond.instanceMethod yX3_runs, Cond.selects RX3 yX3_runs yX3_runs, Cond.code yX3_runs cX3_runs 2 (some .int), Cond.methodLink RL 65 yX4_runs, Cond.instanceMethod yX4_runs, Cond.selects RX4 yX4_runs yX4_runs, Cond.code yX4_runs cX4_runs 4 (some .int), Cond.methodLink RX4 82 yX4_begins, Cond.instanceMethod yX4_begins, Cond.selects RX4 yX4_begins yX4_begins, Cond.code yX4_begins cX4_begins 3 (some .boolean), Cond.methodLink RL 66 yX3_run, Cond.instanceMethod yX3_run, Cond.selects RX3 yX3_run yX3_run, Cond.code yX3_run cX3_run 5 (some .int), Cond.methodLink RX3 102 yX3_nthEdge, Cond.instanceMethod yX3_nthEdge, Cond.selects RX3 yX3_nthEdge yX3_nthEdge]
def wsL_law_r14 : List Cond := [Cond.code yX3_nthEdge cX3_nthEdge 4 (some .int), Cond.methodLink RL 69 yX4_run, Cond.instanceMethod yX4_run, Cond.selects RX4 yX4_run yX4_run, Cond.code yX4_run cX4_run 6 (some .int), Cond.methodLink RL 70 yX3_piece, Cond.instanceMethod yX3_piece, Cond.selects RX3 yX3_piece yX3_piece, Cond.code yX3_piece cX3_piece 4 (some .int), Cond.instanceMethod yX1_detail, Cond.selects RX1 yX1_detail yX1_detail, Cond.code yX1_detail cX1_detail 3 (some .int), Cond.methodLink RX1 71 yX1_kindOf, Cond.methodLink RX1 74 yX1_costOf, Cond.instanceMethod yX1_costOf, Cond.selects RX1 yX1_costOf yX1_costOf, Cond.code yX1_costOf cX1_costOf 2 (some .int), Cond.methodLink RL 73 yX4_piece, Cond.instanceMethod yX4_piece, Cond.selects RX4 yX4_piece yX4_piece, Cond.code yX4_piece cX4_piece 4 (some .int), Cond.methodLink RX4 88 yX4_told, Cond.instanceMethod yX4_told, Cond.selects RX4 yX4_told yX4_told]
def wsL_law_r15 : List Cond := [Cond.code yX4_told cX4_told 6 (some .int), Cond.methodLink RX4 85 yX4_bytesBy, Cond.static yX4_bytesBy, Cond.code yX4_bytesBy cX4_bytesBy 3 (some .int), Cond.methodLink RL 74 yX3_bytes, Cond.instanceMethod yX3_bytes, Cond.selects RX3 yX3_bytes yX3_bytes, Cond.code yX3_bytes cX3_bytes 4 (some .int), Cond.methodLink RL 77 yX4_bytes, Cond.instanceMethod yX4_bytes, Cond.selects RX4 yX4_bytes yX4_bytes, Cond.code yX4_bytes cX4_bytes 4 (some .int), Cond.methodLink RL 78 yX3_byteAt, Cond.instanceMethod yX3_byteAt, Cond.selects RX3 yX3_byteAt yX3_byteAt, Cond.code yX3_byteAt cX3_byteAt 7 (some .int), Cond.instanceMethod yX1_writtenByte, Cond.selects RX1 yX1_writtenByte yX1_writtenByte, Cond.code yX1_writtenByte cX1_writtenByte 4 (some .int), Cond.methodLink RX1 77 yX1_bitmapByte, Cond.instanceMethod yX1_bitmapByte, Cond.selects RX1 yX1_bitmapByte yX1_bitmapByte, Cond.code yX1_bitmapByte cX1_bitmapByte 3 (some .int), Cond.constantLong RX1 86 (255)]
def wsL_law_r16 : List Cond := [Cond.methodLink RX1 80 yX1_nthPlace, Cond.instanceMethod yX1_nthPlace, Cond.selects RX1 yX1_nthPlace yX1_nthPlace, Cond.code yX1_nthPlace cX1_nthPlace 3 (some .int), Cond.methodLink RX1 88 yX1_countIn, Cond.methodLink RX1 91 yX1_nth, Cond.methodLink RX1 83 yX1_nthBorder, Cond.instanceMethod yX1_nthBorder, Cond.selects RX1 yX1_nthBorder yX1_nthBorder, Cond.code yX1_nthBorder cX1_nthBorder 6 (some .int), Cond.methodLink RX1 94 yX1_holds, Cond.methodLink RL 81 yX4_byteAt, Cond.instanceMethod yX4_byteAt, Cond.selects RX4 yX4_byteAt yX4_byteAt, Cond.code yX4_byteAt cX4_byteAt 6 (some .int), Cond.methodLink RX4 92 yX4_byteOf, Cond.instanceMethod yX4_byteOf, Cond.selects RX4 yX4_byteOf yX4_byteOf, Cond.code yX4_byteOf cX4_byteOf 10 (some .int), Cond.methodLink RL 82 yX3_put, Cond.instanceMethod yX3_put, Cond.selects RX3 yX3_put yX3_put, Cond.code yX3_put cX3_put 2 (some .int), Cond.instanceMethod yX0_append]
def wsL_law_r17 : List Cond := [Cond.selects RX0 yX0_append yX0_append, Cond.code yX0_append cX0_append 2 (some .boolean), Cond.methodLink RL 85 yX4_put, Cond.instanceMethod yX4_put, Cond.selects RX4 yX4_put yX4_put, Cond.code yX4_put cX4_put 2 (some .int), Cond.fieldLink RX4 95 "PieceSetsModel" "bufferMany" "I", Cond.methodLink RL 86 yX3_clear, Cond.instanceMethod yX3_clear, Cond.selects RX3 yX3_clear yX3_clear, Cond.code yX3_clear cX3_clear 2 (some .int), Cond.methodLink RL 90 yX4_clear, Cond.instanceMethod yX4_clear, Cond.selects RX4 yX4_clear yX4_clear, Cond.code yX4_clear cX4_clear 2 (some .int), Cond.methodLink RL 91 yX3_read, Cond.instanceMethod yX3_read, Cond.selects RX3 yX3_read yX3_read, Cond.code yX3_read cX3_read 5 (some .int), Cond.instanceMethod yX0_parse, Cond.selects RX0 yX0_parse yX0_parse, Cond.code yX0_parse cX0_parse 8 (some .int), Cond.instanceMethod yX1_becomeEmpty, Cond.selects RX1 yX1_becomeEmpty yX1_becomeEmpty]
def wsL_law_r18 : List Cond := [Cond.code yX1_becomeEmpty cX1_becomeEmpty 1 none, Cond.methodLink RX1 21 yJ7_fill_d0a16, Cond.static yJ7_fill_d0a16, Cond.initialized RJ7, Cond.code yJ7_fill_d0a16 cJ7_fill_d0a16 5 none, Cond.methodLink RX0 28 yX0_parsePiece, Cond.instanceMethod yX0_parsePiece, Cond.selects RX0 yX0_parsePiece yX0_parsePiece, Cond.code yX0_parsePiece cX0_parsePiece 5 (some .int), Cond.methodLink RX0 36 yX0_parseBitmap, Cond.instanceMethod yX0_parseBitmap, Cond.selects RX0 yX0_parseBitmap yX0_parseBitmap, Cond.code yX0_parseBitmap cX0_parseBitmap 6 (some .int), Cond.methodLink RX0 40 yX0_parseArray, Cond.instanceMethod yX0_parseArray, Cond.selects RX0 yX0_parseArray yX0_parseArray, Cond.code yX0_parseArray cX0_parseArray 7 (some .int), Cond.methodLink RX0 43 yX0_parseRuns, Cond.instanceMethod yX0_parseRuns, Cond.selects RX0 yX0_parseRuns yX0_parseRuns, Cond.code yX0_parseRuns cX0_parseRuns 8 (some .int), Cond.methodLink RL 94 yX4_read, Cond.instanceMethod yX4_read, Cond.selects RX4 yX4_read yX4_read]
def wsL_law_r19 : List Cond := [Cond.code yX4_read cX4_read 4 (some .int), Cond.methodLink RX4 118 yX4_wrongAt, Cond.instanceMethod yX4_wrongAt, Cond.selects RX4 yX4_wrongAt yX4_wrongAt, Cond.code yX4_wrongAt cX4_wrongAt 6 (some .int), Cond.fieldLink RX4 98 "PieceSetsModel" "at" "I", Cond.methodLink RX4 108 yX4_readsBitmap, Cond.instanceMethod yX4_readsBitmap, Cond.selects RX4 yX4_readsBitmap yX4_readsBitmap, Cond.code yX4_readsBitmap cX4_readsBitmap 4 (some .boolean), Cond.methodLink RX4 101 yX4_next, Cond.instanceMethod yX4_next, Cond.selects RX4 yX4_next yX4_next, Cond.code yX4_next cX4_next 1 (some .int), Cond.methodLink RX4 105 yX4_takes, Cond.instanceMethod yX4_takes, Cond.selects RX4 yX4_takes yX4_takes, Cond.code yX4_takes cX4_takes 2 none, Cond.methodLink RX4 111 yX4_readsPlaces, Cond.instanceMethod yX4_readsPlaces, Cond.selects RX4 yX4_readsPlaces yX4_readsPlaces, Cond.code yX4_readsPlaces cX4_readsPlaces 8 (some .boolean), Cond.methodLink RX4 115 yX4_isKind, Cond.instanceMethod yX4_isKind]
def wsL_law_r20 : List Cond := [Cond.selects RX4 yX4_isKind yX4_isKind, Cond.code yX4_isKind cX4_isKind 8 (some .boolean), Cond.methodLink RL 95 yX3_compare, Cond.instanceMethod yX3_compare, Cond.selects RX3 yX3_compare yX3_compare, Cond.code yX3_compare cX3_compare 4 (some .int), Cond.methodLink RX3 129 yX3_countJoin, Cond.instanceMethod yX3_countJoin, Cond.selects RX3 yX3_countJoin yX3_countJoin, Cond.code yX3_countJoin cX3_countJoin 4 (some .int), Cond.methodLink RX3 133 yX3_countSamePieces, Cond.instanceMethod yX3_countSamePieces, Cond.selects RX3 yX3_countSamePieces yX3_countSamePieces, Cond.code yX3_countSamePieces cX3_countSamePieces 5 (some .int), Cond.methodLink RL 98 yX4_compare, Cond.instanceMethod yX4_compare, Cond.selects RX4 yX4_compare yX4_compare, Cond.code yX4_compare cX4_compare 4 (some .int), Cond.methodLink RX4 121 yX4_comparison, Cond.instanceMethod yX4_comparison, Cond.selects RX4 yX4_comparison yX4_comparison, Cond.code yX4_comparison cX4_comparison 14 (some .int), Cond.methodLink RL 99 yX3_alike, Cond.instanceMethod yX3_alike]
def wsL_law_r21 : List Cond := [Cond.selects RX3 yX3_alike yX3_alike, Cond.code yX3_alike cX3_alike 7 (some .int), Cond.methodLink RX3 136 yX3_greatestDivisor, Cond.static yX3_greatestDivisor, Cond.code yX3_greatestDivisor cX3_greatestDivisor 6 (some .int), Cond.methodLink RL 102 yX4_alike, Cond.instanceMethod yX4_alike, Cond.selects RX4 yX4_alike yX4_alike, Cond.code yX4_alike cX4_alike 9 (some .int), Cond.methodLink RL 103 yX3_met, Cond.instanceMethod yX3_met, Cond.selects RX3 yX3_met yX3_met, Cond.code yX3_met cX3_met 3 (some .int), Cond.methodLink RX3 139 yX3_isKind, Cond.methodLink RL 106 yX4_met, Cond.instanceMethod yX4_met, Cond.selects RX4 yX4_met yX4_met, Cond.code yX4_met cX4_met 3 (some .int), Cond.methodLink RX4 124 yX4_isKindNumber, Cond.static yX4_isKindNumber, Cond.code yX4_isKindNumber cX4_isKindNumber 1 (some .boolean), Cond.methodLink RL 107 yX3_converted, Cond.instanceMethod yX3_converted, Cond.selects RX3 yX3_converted yX3_converted]
def wsL_law_r22 : List Cond := [Cond.code yX3_converted cX3_converted 3 (some .int), Cond.methodLink RL 110 yX4_converted, Cond.instanceMethod yX4_converted, Cond.selects RX4 yX4_converted yX4_converted, Cond.code yX4_converted cX4_converted 3 (some .int), Cond.methodLink RL 111 yX3_undo, Cond.instanceMethod yX3_undo, Cond.selects RX3 yX3_undo yX3_undo, Cond.code yX3_undo cX3_undo 2 (some .int), Cond.methodLink RL 114 yX4_undo, Cond.instanceMethod yX4_undo, Cond.selects RX4 yX4_undo yX4_undo, Cond.code yX4_undo cX4_undo 2 (some .int), Cond.methodLink RL 115 yX3_fingerprint, Cond.instanceMethod yX3_fingerprint, Cond.selects RX3 yX3_fingerprint yX3_fingerprint, Cond.code yX3_fingerprint cX3_fingerprint 4 (some .long), Cond.constantLong RX3 149 (163), Cond.constantLong RX3 155 (31), Cond.methodLink RX3 151 yX3_printPieces, Cond.static yX3_printPieces, Cond.code yX3_printPieces cX3_printPieces 7 (some .long), Cond.methodLink RX3 157 yX3_printNumbers, Cond.static yX3_printNumbers]
def wsL_law_r23 : List Cond := [Cond.code yX3_printNumbers cX3_printNumbers 9 (some .long), Cond.methodLink RL 119 yX4_fingerprint, Cond.instanceMethod yX4_fingerprint, Cond.selects RX4 yX4_fingerprint yX4_fingerprint, Cond.code yX4_fingerprint cX4_fingerprint 6 (some .long), Cond.constantLong RX4 127 (163), Cond.constantLong RX4 129 (31)]
def wsL_law : List Cond := (wsL_law_r1 ++ (wsL_law_r2 ++ (wsL_law_r3 ++ (wsL_law_r4 ++ (wsL_law_r5 ++ (wsL_law_r6 ++ (wsL_law_r7 ++ (wsL_law_r8 ++ (wsL_law_r9 ++ (wsL_law_r10 ++ (wsL_law_r11 ++ (wsL_law_r12 ++ (wsL_law_r13 ++ (wsL_law_r14 ++ (wsL_law_r15 ++ (wsL_law_r16 ++ (wsL_law_r17 ++ (wsL_law_r18 ++ (wsL_law_r19 ++ (wsL_law_r20 ++ (wsL_law_r21 ++ (wsL_law_r22 ++ wsL_law_r23)))))))))))))))))))))) ++ wsX30 ++ wsX40 ++ wsX20 ++ wsX00 ++ wsX10 ++ ([] : List Cond)
theorem inlX0 : ∀ w ∈ wsX00, w ∈ wsL_law := fun _ h => List.mem_append_left _ (List.mem_append_left _ (List.mem_append_right _ h))
theorem inlX1 : ∀ w ∈ wsX10, w ∈ wsL_law := fun _ h => List.mem_append_left _ (List.mem_append_right _ h)
theorem inlX2 : ∀ w ∈ wsX20, w ∈ wsL_law := fun _ h => List.mem_append_left _ (List.mem_append_left _ (List.mem_append_left _ (List.mem_append_right _ h)))
theorem inlX3 : ∀ w ∈ wsX30, w ∈ wsL_law := fun _ h => List.mem_append_left _ (List.mem_append_left _ (List.mem_append_left _ (List.mem_append_left _ (List.mem_append_left _ (List.mem_append_right _ h)))))
theorem inlX4 : ∀ w ∈ wsX40, w ∈ wsL_law := fun _ h => List.mem_append_left _ (List.mem_append_left _ (List.mem_append_left _ (List.mem_append_left _ (List.mem_append_right _ h))))
theorem inJ13 : ∀ w ∈ wsJ130, w ∈ lw_tbl := by decide +kernel
theorem inJ9 : ∀ w ∈ wsJ90, w ∈ lw_tbl := by decide +kernel
theorem inJ10 : ∀ w ∈ wsJ100, w ∈ lw_tbl := by decide +kernel
theorem inJ7 : ∀ w ∈ wsJ70, w ∈ lw_tbl := by decide +kernel
end
section
theorem dX0_init_0 : decode cX0_init 0 = .ok (.aload_n 0, 1) := by decide +kernel
theorem dX0_init_1 : decode cX0_init 1 = .ok (.invokespecial 3, 3) := by decide +kernel
theorem dX0_init_4 : decode cX0_init 4 = .ok (.aload_n 0, 1) := by decide +kernel
theorem dX0_init_5 : decode cX0_init 5 = .ok (.sipush 200, 3) := by decide +kernel
theorem dX0_init_8 : decode cX0_init 8 = .ok (.newarray .int, 2) := by decide +kernel
theorem dX0_init_10 : decode cX0_init 10 = .ok (.putfield 9, 3) := by decide +kernel
theorem dX0_init_13 : decode cX0_init 13 = .ok (.aload_n 0, 1) := by decide +kernel
theorem dX0_init_14 : decode cX0_init 14 = .ok (.iconst 0, 1) := by decide +kernel
theorem dX0_init_15 : decode cX0_init 15 = .ok (.putfield 15, 3) := by decide +kernel
theorem dX0_init_18 : decode cX0_init 18 = .ok (.return_, 1) := by decide +kernel
theorem dX0_append_0 : decode cX0_append 0 = .ok (.aload_n 0, 1) := by decide +kernel
theorem dX0_append_1 : decode cX0_append 1 = .ok (.getfield 15, 3) := by decide +kernel
theorem dX0_append_4 : decode cX0_append 4 = .ok (.ifCond .lt 13, 3) := by decide +kernel
theorem dX0_append_7 : decode cX0_append 7 = .ok (.aload_n 0, 1) := by decide +kernel
theorem dX0_append_8 : decode cX0_append 8 = .ok (.getfield 15, 3) := by decide +kernel
theorem dX0_append_11 : decode cX0_append 11 = .ok (.sipush 200, 3) := by decide +kernel
theorem dX0_append_14 : decode cX0_append 14 = .ok (.if_icmp .lt 5, 3) := by decide +kernel
theorem dX0_append_17 : decode cX0_append 17 = .ok (.iconst 0, 1) := by decide +kernel
theorem dX0_append_18 : decode cX0_append 18 = .ok (.ireturn, 1) := by decide +kernel
theorem dX0_append_19 : decode cX0_append 19 = .ok (.aload_n 0, 1) := by decide +kernel
theorem dX0_append_20 : decode cX0_append 20 = .ok (.getfield 9, 3) := by decide +kernel
theorem dX0_append_23 : decode cX0_append 23 = .ok (.aload_n 0, 1) := by decide +kernel
theorem dX0_append_24 : decode cX0_append 24 = .ok (.getfield 15, 3) := by decide +kernel
theorem dX0_append_27 : decode cX0_append 27 = .ok (.iload_n 1, 1) := by decide +kernel
theorem dX0_append_28 : decode cX0_append 28 = .ok (.iastore, 1) := by decide +kernel
theorem dX0_append_29 : decode cX0_append 29 = .ok (.aload_n 0, 1) := by decide +kernel
theorem dX0_append_30 : decode cX0_append 30 = .ok (.dup, 1) := by decide +kernel
theorem dX0_append_31 : decode cX0_append 31 = .ok (.getfield 15, 3) := by decide +kernel
theorem dX0_append_34 : decode cX0_append 34 = .ok (.iconst 1, 1) := by decide +kernel
theorem dX0_append_35 : decode cX0_append 35 = .ok (.iadd, 1) := by decide +kernel
theorem dX0_append_36 : decode cX0_append 36 = .ok (.putfield 15, 3) := by decide +kernel
theorem dX0_append_39 : decode cX0_append 39 = .ok (.iconst 1, 1) := by decide +kernel
theorem dX0_append_40 : decode cX0_append 40 = .ok (.ireturn, 1) := by decide +kernel
set_option maxRecDepth 20000 in
theorem ggX0_parse_X1_becomeEmpty : GoodIn wsX0_parse wsX1_becomeEmpty := goodIn_r _ [6, 7, 8, 9, 10, 11, 75] (by decide +kernel) (by decide +kernel)
set_option maxRecDepth 20000 in
theorem gX0_parse_X1_becomeEmpty_n19 : GoodIn wsX0_parse (wsX1_becomeEmpty) := ggX0_parse_X1_becomeEmpty
set_option maxRecDepth 20000 in
theorem ggX0_parse_X3_isKind : GoodIn wsX0_parse wsX3_isKind := goodIn_r _ [14] (by decide +kernel) (by decide +kernel)
set_option maxRecDepth 20000 in
theorem gX0_parse_X3_isKind_n24 : GoodIn wsX0_parse (wsX3_isKind) := ggX0_parse_X3_isKind
set_option maxRecDepth 20000 in
theorem ggX0_parse_X0_parsePiece : GoodIn wsX0_parse wsX0_parsePiece := goodIn_r _ [19, 1, 2, 20, 21, 22, 18, 23, 24, 4, 25, 26, 7, 27, 13, 28, 29, 30, 31, 32, 33, 34, 35, 36, 37, 38, 39, 40, 41, 42, 43, 44, 45, 46, 47, 48, 49, 50, 73, 74, 75] (by decide +kernel) (by decide +kernel)
set_option maxRecDepth 20000 in
theorem gX0_parse_X0_parsePiece : GoodIn wsX0_parse (wsV RX0 28 RX0 yX0_parsePiece wsX0_parsePiece) := goodIn_app (goodIn_of _ (by decide +kernel)) ggX0_parse_X0_parsePiece
set_option maxRecDepth 20000 in
theorem ggX0_parse_X1_kindOf : GoodIn wsX0_parse wsX1_kindOf := goodIn_r _ [53, 54, 55, 56, 4, 57, 58, 59, 60, 61, 7, 62, 63, 64, 65, 66, 67, 68, 69, 70, 71, 72, 50, 75] (by decide +kernel) (by decide +kernel)
set_option maxRecDepth 20000 in
theorem gX0_parse_X1_kindOf_n32 : GoodIn wsX0_parse (wsX1_kindOf) := ggX0_parse_X1_kindOf
theorem dX0_parse_0 : decode cX0_parse 0 = .ok (.aload_n 1, 1) := by decide +kernel
theorem dX0_parse_1 : decode cX0_parse 1 = .ok (.invokevirtual 19, 3) := by decide +kernel
theorem dX0_parse_4 : decode cX0_parse 4 = .ok (.iconst 0, 1) := by decide +kernel
theorem dX0_parse_5 : decode cX0_parse 5 = .ok (.istore_n 2, 1) := by decide +kernel
theorem dX0_parse_6 : decode cX0_parse 6 = .ok (.iconst (-1), 1) := by decide +kernel
theorem dX0_parse_7 : decode cX0_parse 7 = .ok (.istore_n 3, 1) := by decide +kernel
theorem dX0_parse_8 : decode cX0_parse 8 = .ok (.iconst 0, 1) := by decide +kernel
theorem dX0_parse_9 : decode cX0_parse 9 = .ok (.istore 4, 2) := by decide +kernel
theorem dX0_parse_11 : decode cX0_parse 11 = .ok (.iload 4, 2) := by decide +kernel
theorem dX0_parse_13 : decode cX0_parse 13 = .ok (.bipush 16, 2) := by decide +kernel
theorem dX0_parse_15 : decode cX0_parse 15 = .ok (.if_icmp .gt 103, 3) := by decide +kernel
theorem dX0_parse_18 : decode cX0_parse 18 = .ok (.iload_n 2, 1) := by decide +kernel
theorem dX0_parse_19 : decode cX0_parse 19 = .ok (.aload_n 0, 1) := by decide +kernel
theorem dX0_parse_20 : decode cX0_parse 20 = .ok (.getfield 15, 3) := by decide +kernel
theorem dX0_parse_23 : decode cX0_parse 23 = .ok (.if_icmp .ge 95, 3) := by decide +kernel
theorem dX0_parse_26 : decode cX0_parse 26 = .ok (.aload_n 0, 1) := by decide +kernel
theorem dX0_parse_27 : decode cX0_parse 27 = .ok (.getfield 9, 3) := by decide +kernel
theorem dX0_parse_30 : decode cX0_parse 30 = .ok (.iload_n 2, 1) := by decide +kernel
theorem dX0_parse_31 : decode cX0_parse 31 = .ok (.iaload, 1) := by decide +kernel
theorem dX0_parse_32 : decode cX0_parse 32 = .ok (.iconst 4, 1) := by decide +kernel
theorem dX0_parse_33 : decode cX0_parse 33 = .ok (.idiv, 1) := by decide +kernel
theorem dX0_parse_34 : decode cX0_parse 34 = .ok (.istore 5, 2) := by decide +kernel
theorem dX0_parse_36 : decode cX0_parse 36 = .ok (.aload_n 0, 1) := by decide +kernel
theorem dX0_parse_37 : decode cX0_parse 37 = .ok (.getfield 9, 3) := by decide +kernel
theorem dX0_parse_40 : decode cX0_parse 40 = .ok (.iload_n 2, 1) := by decide +kernel
theorem dX0_parse_41 : decode cX0_parse 41 = .ok (.iaload, 1) := by decide +kernel
theorem dX0_parse_42 : decode cX0_parse 42 = .ok (.iconst 4, 1) := by decide +kernel
theorem dX0_parse_43 : decode cX0_parse 43 = .ok (.irem, 1) := by decide +kernel
theorem dX0_parse_44 : decode cX0_parse 44 = .ok (.istore 6, 2) := by decide +kernel
theorem dX0_parse_46 : decode cX0_parse 46 = .ok (.iload 5, 2) := by decide +kernel
theorem dX0_parse_48 : decode cX0_parse 48 = .ok (.bipush 16, 2) := by decide +kernel
theorem dX0_parse_50 : decode cX0_parse 50 = .ok (.if_icmp .ge 17, 3) := by decide +kernel
theorem dX0_parse_53 : decode cX0_parse 53 = .ok (.iload 6, 2) := by decide +kernel
theorem dX0_parse_55 : decode cX0_parse 55 = .ok (.invokestatic 24, 3) := by decide +kernel
theorem dX0_parse_58 : decode cX0_parse 58 = .ok (.ifCond .eq 9, 3) := by decide +kernel
theorem dX0_parse_61 : decode cX0_parse 61 = .ok (.iload 5, 2) := by decide +kernel
theorem dX0_parse_63 : decode cX0_parse 63 = .ok (.iload_n 3, 1) := by decide +kernel
theorem dX0_parse_64 : decode cX0_parse 64 = .ok (.if_icmp .gt 5, 3) := by decide +kernel
theorem dX0_parse_67 : decode cX0_parse 67 = .ok (.iload_n 2, 1) := by decide +kernel
theorem dX0_parse_68 : decode cX0_parse 68 = .ok (.ireturn, 1) := by decide +kernel
theorem dX0_parse_69 : decode cX0_parse 69 = .ok (.aload_n 0, 1) := by decide +kernel
theorem dX0_parse_70 : decode cX0_parse 70 = .ok (.iload 5, 2) := by decide +kernel
theorem dX0_parse_72 : decode cX0_parse 72 = .ok (.iload 6, 2) := by decide +kernel
theorem dX0_parse_74 : decode cX0_parse 74 = .ok (.iload_n 2, 1) := by decide +kernel
theorem dX0_parse_75 : decode cX0_parse 75 = .ok (.iconst 1, 1) := by decide +kernel
theorem dX0_parse_76 : decode cX0_parse 76 = .ok (.iadd, 1) := by decide +kernel
theorem dX0_parse_77 : decode cX0_parse 77 = .ok (.aload_n 1, 1) := by decide +kernel
theorem dX0_parse_78 : decode cX0_parse 78 = .ok (.invokevirtual 28, 3) := by decide +kernel
theorem dX0_parse_81 : decode cX0_parse 81 = .ok (.istore 7, 2) := by decide +kernel
theorem dX0_parse_83 : decode cX0_parse 83 = .ok (.iload 7, 2) := by decide +kernel
theorem dX0_parse_85 : decode cX0_parse 85 = .ok (.ifCond .ge 8, 3) := by decide +kernel
theorem dX0_parse_88 : decode cX0_parse 88 = .ok (.iconst (-1), 1) := by decide +kernel
theorem dX0_parse_89 : decode cX0_parse 89 = .ok (.iload 7, 2) := by decide +kernel
theorem dX0_parse_91 : decode cX0_parse 91 = .ok (.isub, 1) := by decide +kernel
theorem dX0_parse_92 : decode cX0_parse 92 = .ok (.ireturn, 1) := by decide +kernel
theorem dX0_parse_93 : decode cX0_parse 93 = .ok (.aload_n 1, 1) := by decide +kernel
theorem dX0_parse_94 : decode cX0_parse 94 = .ok (.iload 5, 2) := by decide +kernel
theorem dX0_parse_96 : decode cX0_parse 96 = .ok (.invokevirtual 32, 3) := by decide +kernel
theorem dX0_parse_99 : decode cX0_parse 99 = .ok (.iload 6, 2) := by decide +kernel
theorem dX0_parse_101 : decode cX0_parse 101 = .ok (.if_icmp .eq 5, 3) := by decide +kernel
theorem dX0_parse_104 : decode cX0_parse 104 = .ok (.iload_n 2, 1) := by decide +kernel
theorem dX0_parse_105 : decode cX0_parse 105 = .ok (.ireturn, 1) := by decide +kernel
theorem dX0_parse_106 : decode cX0_parse 106 = .ok (.iload 5, 2) := by decide +kernel
theorem dX0_parse_108 : decode cX0_parse 108 = .ok (.istore_n 3, 1) := by decide +kernel
theorem dX0_parse_109 : decode cX0_parse 109 = .ok (.iload 7, 2) := by decide +kernel
theorem dX0_parse_111 : decode cX0_parse 111 = .ok (.istore_n 2, 1) := by decide +kernel
theorem dX0_parse_112 : decode cX0_parse 112 = .ok (.iinc 4 1, 3) := by decide +kernel
theorem dX0_parse_115 : decode cX0_parse 115 = .ok (.goto (-104), 3) := by decide +kernel
theorem dX0_parse_118 : decode cX0_parse 118 = .ok (.bipush (-9), 2) := by decide +kernel
theorem dX0_parse_120 : decode cX0_parse 120 = .ok (.ireturn, 1) := by decide +kernel
set_option maxRecDepth 20000 in
theorem ggX0_parsePiece_X0_parseBitmap : GoodIn wsX0_parsePiece wsX0_parseBitmap := goodIn_r _ [7, 1, 2, 8, 9, 10, 11, 12, 13, 14, 15, 38, 39, 40] (by decide +kernel) (by decide +kernel)
set_option maxRecDepth 20000 in
theorem gX0_parsePiece_X0_parseBitmap : GoodIn wsX0_parsePiece (wsV RX0 36 RX0 yX0_parseBitmap wsX0_parseBitmap) := goodIn_app (goodIn_of _ (by decide +kernel)) ggX0_parsePiece_X0_parseBitmap
set_option maxRecDepth 20000 in
theorem ggX0_parsePiece_X0_parseArray : GoodIn wsX0_parsePiece wsX0_parseArray := goodIn_r _ [19, 1, 2, 8, 9, 10, 11, 12, 13, 14, 15, 38, 39, 40] (by decide +kernel) (by decide +kernel)
set_option maxRecDepth 20000 in
theorem gX0_parsePiece_X0_parseArray : GoodIn wsX0_parsePiece (wsV RX0 40 RX0 yX0_parseArray wsX0_parseArray) := goodIn_app (goodIn_of _ (by decide +kernel)) ggX0_parsePiece_X0_parseArray
set_option maxRecDepth 20000 in
theorem ggX0_parsePiece_X0_parseRuns : GoodIn wsX0_parsePiece wsX0_parseRuns := goodIn_r _ [23, 1, 2, 24, 9, 25, 26, 12, 27, 28, 29, 30, 31, 32, 33, 34, 35, 36, 37, 38, 39, 40] (by decide +kernel) (by decide +kernel)
set_option maxRecDepth 20000 in
theorem gX0_parsePiece_X0_parseRuns : GoodIn wsX0_parsePiece (wsV RX0 43 RX0 yX0_parseRuns wsX0_parseRuns) := goodIn_app (goodIn_of _ (by decide +kernel)) ggX0_parsePiece_X0_parseRuns
theorem dX0_parsePiece_0 : decode cX0_parsePiece 0 = .ok (.iload_n 2, 1) := by decide +kernel
theorem dX0_parsePiece_1 : decode cX0_parsePiece 1 = .ok (.iconst 2, 1) := by decide +kernel
theorem dX0_parsePiece_2 : decode cX0_parsePiece 2 = .ok (.if_icmp .ne 12, 3) := by decide +kernel
theorem dX0_parsePiece_5 : decode cX0_parsePiece 5 = .ok (.aload_n 0, 1) := by decide +kernel
theorem dX0_parsePiece_6 : decode cX0_parsePiece 6 = .ok (.iload_n 1, 1) := by decide +kernel
theorem dX0_parsePiece_7 : decode cX0_parsePiece 7 = .ok (.iload_n 3, 1) := by decide +kernel
theorem dX0_parsePiece_8 : decode cX0_parsePiece 8 = .ok (.aload 4, 2) := by decide +kernel
theorem dX0_parsePiece_10 : decode cX0_parsePiece 10 = .ok (.invokevirtual 36, 3) := by decide +kernel
theorem dX0_parsePiece_13 : decode cX0_parsePiece 13 = .ok (.ireturn, 1) := by decide +kernel
theorem dX0_parsePiece_14 : decode cX0_parsePiece 14 = .ok (.iload_n 3, 1) := by decide +kernel
theorem dX0_parsePiece_15 : decode cX0_parsePiece 15 = .ok (.aload_n 0, 1) := by decide +kernel
theorem dX0_parsePiece_16 : decode cX0_parsePiece 16 = .ok (.getfield 15, 3) := by decide +kernel
theorem dX0_parsePiece_19 : decode cX0_parsePiece 19 = .ok (.if_icmp .lt 10, 3) := by decide +kernel
theorem dX0_parsePiece_22 : decode cX0_parsePiece 22 = .ok (.iconst (-1), 1) := by decide +kernel
theorem dX0_parsePiece_23 : decode cX0_parsePiece 23 = .ok (.aload_n 0, 1) := by decide +kernel
theorem dX0_parsePiece_24 : decode cX0_parsePiece 24 = .ok (.getfield 15, 3) := by decide +kernel
theorem dX0_parsePiece_27 : decode cX0_parsePiece 27 = .ok (.isub, 1) := by decide +kernel
theorem dX0_parsePiece_28 : decode cX0_parsePiece 28 = .ok (.ireturn, 1) := by decide +kernel
theorem dX0_parsePiece_29 : decode cX0_parsePiece 29 = .ok (.aload_n 0, 1) := by decide +kernel
theorem dX0_parsePiece_30 : decode cX0_parsePiece 30 = .ok (.getfield 9, 3) := by decide +kernel
theorem dX0_parsePiece_33 : decode cX0_parsePiece 33 = .ok (.iload_n 3, 1) := by decide +kernel
theorem dX0_parsePiece_34 : decode cX0_parsePiece 34 = .ok (.iaload, 1) := by decide +kernel
theorem dX0_parsePiece_35 : decode cX0_parsePiece 35 = .ok (.iconst 1, 1) := by decide +kernel
theorem dX0_parsePiece_36 : decode cX0_parsePiece 36 = .ok (.if_icmp .ge 7, 3) := by decide +kernel
theorem dX0_parsePiece_39 : decode cX0_parsePiece 39 = .ok (.iconst (-1), 1) := by decide +kernel
theorem dX0_parsePiece_40 : decode cX0_parsePiece 40 = .ok (.iload_n 3, 1) := by decide +kernel
theorem dX0_parsePiece_41 : decode cX0_parsePiece 41 = .ok (.isub, 1) := by decide +kernel
theorem dX0_parsePiece_42 : decode cX0_parsePiece 42 = .ok (.ireturn, 1) := by decide +kernel
theorem dX0_parsePiece_43 : decode cX0_parsePiece 43 = .ok (.iload_n 2, 1) := by decide +kernel
theorem dX0_parsePiece_44 : decode cX0_parsePiece 44 = .ok (.ifCond .ne 22, 3) := by decide +kernel
theorem dX0_parsePiece_47 : decode cX0_parsePiece 47 = .ok (.aload_n 0, 1) := by decide +kernel
theorem dX0_parsePiece_48 : decode cX0_parsePiece 48 = .ok (.iload_n 1, 1) := by decide +kernel
theorem dX0_parsePiece_49 : decode cX0_parsePiece 49 = .ok (.aload_n 0, 1) := by decide +kernel
theorem dX0_parsePiece_50 : decode cX0_parsePiece 50 = .ok (.getfield 9, 3) := by decide +kernel
theorem dX0_parsePiece_53 : decode cX0_parsePiece 53 = .ok (.iload_n 3, 1) := by decide +kernel
theorem dX0_parsePiece_54 : decode cX0_parsePiece 54 = .ok (.iaload, 1) := by decide +kernel
theorem dX0_parsePiece_55 : decode cX0_parsePiece 55 = .ok (.iload_n 3, 1) := by decide +kernel
theorem dX0_parsePiece_56 : decode cX0_parsePiece 56 = .ok (.iconst 1, 1) := by decide +kernel
theorem dX0_parsePiece_57 : decode cX0_parsePiece 57 = .ok (.iadd, 1) := by decide +kernel
theorem dX0_parsePiece_58 : decode cX0_parsePiece 58 = .ok (.aload 4, 2) := by decide +kernel
theorem dX0_parsePiece_60 : decode cX0_parsePiece 60 = .ok (.invokevirtual 40, 3) := by decide +kernel
theorem dX0_parsePiece_63 : decode cX0_parsePiece 63 = .ok (.goto 19, 3) := by decide +kernel
theorem dX0_parsePiece_66 : decode cX0_parsePiece 66 = .ok (.aload_n 0, 1) := by decide +kernel
theorem dX0_parsePiece_67 : decode cX0_parsePiece 67 = .ok (.iload_n 1, 1) := by decide +kernel
theorem dX0_parsePiece_68 : decode cX0_parsePiece 68 = .ok (.aload_n 0, 1) := by decide +kernel
theorem dX0_parsePiece_69 : decode cX0_parsePiece 69 = .ok (.getfield 9, 3) := by decide +kernel
theorem dX0_parsePiece_72 : decode cX0_parsePiece 72 = .ok (.iload_n 3, 1) := by decide +kernel
theorem dX0_parsePiece_73 : decode cX0_parsePiece 73 = .ok (.iaload, 1) := by decide +kernel
theorem dX0_parsePiece_74 : decode cX0_parsePiece 74 = .ok (.iload_n 3, 1) := by decide +kernel
theorem dX0_parsePiece_75 : decode cX0_parsePiece 75 = .ok (.iconst 1, 1) := by decide +kernel
theorem dX0_parsePiece_76 : decode cX0_parsePiece 76 = .ok (.iadd, 1) := by decide +kernel
theorem dX0_parsePiece_77 : decode cX0_parsePiece 77 = .ok (.aload 4, 2) := by decide +kernel
theorem dX0_parsePiece_79 : decode cX0_parsePiece 79 = .ok (.invokevirtual 43, 3) := by decide +kernel
theorem dX0_parsePiece_82 : decode cX0_parsePiece 82 = .ok (.ireturn, 1) := by decide +kernel
set_option maxRecDepth 20000 in
theorem ggX0_parseArray_X1_include : GoodIn wsX0_parseArray wsX1_include := goodIn_r _ [6, 7, 8, 9, 10, 13] (by decide +kernel) (by decide +kernel)
set_option maxRecDepth 20000 in
theorem gX0_parseArray_X1_include_n46 : GoodIn wsX0_parseArray (wsX1_include) := ggX0_parseArray_X1_include
theorem dX0_parseArray_0 : decode cX0_parseArray 0 = .ok (.iconst 0, 1) := by decide +kernel
theorem dX0_parseArray_1 : decode cX0_parseArray 1 = .ok (.istore 5, 2) := by decide +kernel
theorem dX0_parseArray_3 : decode cX0_parseArray 3 = .ok (.iload_n 3, 1) := by decide +kernel
theorem dX0_parseArray_4 : decode cX0_parseArray 4 = .ok (.istore 6, 2) := by decide +kernel
theorem dX0_parseArray_6 : decode cX0_parseArray 6 = .ok (.iload 6, 2) := by decide +kernel
theorem dX0_parseArray_8 : decode cX0_parseArray 8 = .ok (.iload_n 3, 1) := by decide +kernel
theorem dX0_parseArray_9 : decode cX0_parseArray 9 = .ok (.iload_n 2, 1) := by decide +kernel
theorem dX0_parseArray_10 : decode cX0_parseArray 10 = .ok (.iadd, 1) := by decide +kernel
theorem dX0_parseArray_11 : decode cX0_parseArray 11 = .ok (.if_icmp .ge 71, 3) := by decide +kernel
theorem dX0_parseArray_14 : decode cX0_parseArray 14 = .ok (.iload 6, 2) := by decide +kernel
theorem dX0_parseArray_16 : decode cX0_parseArray 16 = .ok (.aload_n 0, 1) := by decide +kernel
theorem dX0_parseArray_17 : decode cX0_parseArray 17 = .ok (.getfield 15, 3) := by decide +kernel
theorem dX0_parseArray_20 : decode cX0_parseArray 20 = .ok (.if_icmp .lt 10, 3) := by decide +kernel
theorem dX0_parseArray_23 : decode cX0_parseArray 23 = .ok (.iconst (-1), 1) := by decide +kernel
theorem dX0_parseArray_24 : decode cX0_parseArray 24 = .ok (.aload_n 0, 1) := by decide +kernel
theorem dX0_parseArray_25 : decode cX0_parseArray 25 = .ok (.getfield 15, 3) := by decide +kernel
theorem dX0_parseArray_28 : decode cX0_parseArray 28 = .ok (.isub, 1) := by decide +kernel
theorem dX0_parseArray_29 : decode cX0_parseArray 29 = .ok (.ireturn, 1) := by decide +kernel
theorem dX0_parseArray_30 : decode cX0_parseArray 30 = .ok (.aload_n 0, 1) := by decide +kernel
theorem dX0_parseArray_31 : decode cX0_parseArray 31 = .ok (.getfield 9, 3) := by decide +kernel
theorem dX0_parseArray_34 : decode cX0_parseArray 34 = .ok (.iload 6, 2) := by decide +kernel
theorem dX0_parseArray_36 : decode cX0_parseArray 36 = .ok (.iaload, 1) := by decide +kernel
theorem dX0_parseArray_37 : decode cX0_parseArray 37 = .ok (.iload 5, 2) := by decide +kernel
theorem dX0_parseArray_39 : decode cX0_parseArray 39 = .ok (.if_icmp .ge 8, 3) := by decide +kernel
theorem dX0_parseArray_42 : decode cX0_parseArray 42 = .ok (.iconst (-1), 1) := by decide +kernel
theorem dX0_parseArray_43 : decode cX0_parseArray 43 = .ok (.iload 6, 2) := by decide +kernel
theorem dX0_parseArray_45 : decode cX0_parseArray 45 = .ok (.isub, 1) := by decide +kernel
theorem dX0_parseArray_46 : decode cX0_parseArray 46 = .ok (.ireturn, 1) := by decide +kernel
theorem dX0_parseArray_47 : decode cX0_parseArray 47 = .ok (.aload 4, 2) := by decide +kernel
theorem dX0_parseArray_49 : decode cX0_parseArray 49 = .ok (.sipush 256, 3) := by decide +kernel
theorem dX0_parseArray_52 : decode cX0_parseArray 52 = .ok (.iload_n 1, 1) := by decide +kernel
theorem dX0_parseArray_53 : decode cX0_parseArray 53 = .ok (.imul, 1) := by decide +kernel
theorem dX0_parseArray_54 : decode cX0_parseArray 54 = .ok (.aload_n 0, 1) := by decide +kernel
theorem dX0_parseArray_55 : decode cX0_parseArray 55 = .ok (.getfield 9, 3) := by decide +kernel
theorem dX0_parseArray_58 : decode cX0_parseArray 58 = .ok (.iload 6, 2) := by decide +kernel
theorem dX0_parseArray_60 : decode cX0_parseArray 60 = .ok (.iaload, 1) := by decide +kernel
theorem dX0_parseArray_61 : decode cX0_parseArray 61 = .ok (.iadd, 1) := by decide +kernel
theorem dX0_parseArray_62 : decode cX0_parseArray 62 = .ok (.invokevirtual 46, 3) := by decide +kernel
theorem dX0_parseArray_65 : decode cX0_parseArray 65 = .ok (.aload_n 0, 1) := by decide +kernel
theorem dX0_parseArray_66 : decode cX0_parseArray 66 = .ok (.getfield 9, 3) := by decide +kernel
theorem dX0_parseArray_69 : decode cX0_parseArray 69 = .ok (.iload 6, 2) := by decide +kernel
theorem dX0_parseArray_71 : decode cX0_parseArray 71 = .ok (.iaload, 1) := by decide +kernel
theorem dX0_parseArray_72 : decode cX0_parseArray 72 = .ok (.iconst 1, 1) := by decide +kernel
theorem dX0_parseArray_73 : decode cX0_parseArray 73 = .ok (.iadd, 1) := by decide +kernel
theorem dX0_parseArray_74 : decode cX0_parseArray 74 = .ok (.istore 5, 2) := by decide +kernel
theorem dX0_parseArray_76 : decode cX0_parseArray 76 = .ok (.iinc 6 1, 3) := by decide +kernel
theorem dX0_parseArray_79 : decode cX0_parseArray 79 = .ok (.goto (-73), 3) := by decide +kernel
theorem dX0_parseArray_82 : decode cX0_parseArray 82 = .ok (.iload_n 3, 1) := by decide +kernel
theorem dX0_parseArray_83 : decode cX0_parseArray 83 = .ok (.iload_n 2, 1) := by decide +kernel
theorem dX0_parseArray_84 : decode cX0_parseArray 84 = .ok (.iadd, 1) := by decide +kernel
theorem dX0_parseArray_85 : decode cX0_parseArray 85 = .ok (.ireturn, 1) := by decide +kernel
set_option maxRecDepth 20000 in
theorem ggX0_parseRuns_X1_includeAll : GoodIn wsX0_parseRuns wsX1_includeAll := goodIn_r _ [6, 7, 8, 9, 4, 10, 11, 12, 13, 14, 15, 16, 17, 18, 21] (by decide +kernel) (by decide +kernel)
set_option maxRecDepth 20000 in
theorem gX0_parseRuns_X1_includeAll_n50 : GoodIn wsX0_parseRuns (wsX1_includeAll) := ggX0_parseRuns_X1_includeAll
theorem dX0_parseRuns_0 : decode cX0_parseRuns 0 = .ok (.iconst 0, 1) := by decide +kernel
theorem dX0_parseRuns_1 : decode cX0_parseRuns 1 = .ok (.istore 5, 2) := by decide +kernel
theorem dX0_parseRuns_3 : decode cX0_parseRuns 3 = .ok (.iload_n 3, 1) := by decide +kernel
theorem dX0_parseRuns_4 : decode cX0_parseRuns 4 = .ok (.istore 6, 2) := by decide +kernel
theorem dX0_parseRuns_6 : decode cX0_parseRuns 6 = .ok (.iload 6, 2) := by decide +kernel
theorem dX0_parseRuns_8 : decode cX0_parseRuns 8 = .ok (.iload_n 3, 1) := by decide +kernel
theorem dX0_parseRuns_9 : decode cX0_parseRuns 9 = .ok (.iconst 2, 1) := by decide +kernel
theorem dX0_parseRuns_10 : decode cX0_parseRuns 10 = .ok (.iload_n 2, 1) := by decide +kernel
theorem dX0_parseRuns_11 : decode cX0_parseRuns 11 = .ok (.imul, 1) := by decide +kernel
theorem dX0_parseRuns_12 : decode cX0_parseRuns 12 = .ok (.iadd, 1) := by decide +kernel
theorem dX0_parseRuns_13 : decode cX0_parseRuns 13 = .ok (.if_icmp .ge 123, 3) := by decide +kernel
theorem dX0_parseRuns_16 : decode cX0_parseRuns 16 = .ok (.iload 6, 2) := by decide +kernel
theorem dX0_parseRuns_18 : decode cX0_parseRuns 18 = .ok (.aload_n 0, 1) := by decide +kernel
theorem dX0_parseRuns_19 : decode cX0_parseRuns 19 = .ok (.getfield 15, 3) := by decide +kernel
theorem dX0_parseRuns_22 : decode cX0_parseRuns 22 = .ok (.if_icmp .lt 10, 3) := by decide +kernel
theorem dX0_parseRuns_25 : decode cX0_parseRuns 25 = .ok (.iconst (-1), 1) := by decide +kernel
theorem dX0_parseRuns_26 : decode cX0_parseRuns 26 = .ok (.aload_n 0, 1) := by decide +kernel
theorem dX0_parseRuns_27 : decode cX0_parseRuns 27 = .ok (.getfield 15, 3) := by decide +kernel
theorem dX0_parseRuns_30 : decode cX0_parseRuns 30 = .ok (.isub, 1) := by decide +kernel
theorem dX0_parseRuns_31 : decode cX0_parseRuns 31 = .ok (.ireturn, 1) := by decide +kernel
theorem dX0_parseRuns_32 : decode cX0_parseRuns 32 = .ok (.aload_n 0, 1) := by decide +kernel
theorem dX0_parseRuns_33 : decode cX0_parseRuns 33 = .ok (.getfield 9, 3) := by decide +kernel
theorem dX0_parseRuns_36 : decode cX0_parseRuns 36 = .ok (.iload 6, 2) := by decide +kernel
theorem dX0_parseRuns_38 : decode cX0_parseRuns 38 = .ok (.iaload, 1) := by decide +kernel
theorem dX0_parseRuns_39 : decode cX0_parseRuns 39 = .ok (.iload 5, 2) := by decide +kernel
theorem dX0_parseRuns_41 : decode cX0_parseRuns 41 = .ok (.if_icmp .ge 8, 3) := by decide +kernel
theorem dX0_parseRuns_44 : decode cX0_parseRuns 44 = .ok (.iconst (-1), 1) := by decide +kernel
theorem dX0_parseRuns_45 : decode cX0_parseRuns 45 = .ok (.iload 6, 2) := by decide +kernel
theorem dX0_parseRuns_47 : decode cX0_parseRuns 47 = .ok (.isub, 1) := by decide +kernel
theorem dX0_parseRuns_48 : decode cX0_parseRuns 48 = .ok (.ireturn, 1) := by decide +kernel
theorem dX0_parseRuns_49 : decode cX0_parseRuns 49 = .ok (.iload 6, 2) := by decide +kernel
theorem dX0_parseRuns_51 : decode cX0_parseRuns 51 = .ok (.iload_n 3, 1) := by decide +kernel
theorem dX0_parseRuns_52 : decode cX0_parseRuns 52 = .ok (.isub, 1) := by decide +kernel
theorem dX0_parseRuns_53 : decode cX0_parseRuns 53 = .ok (.iconst 2, 1) := by decide +kernel
theorem dX0_parseRuns_54 : decode cX0_parseRuns 54 = .ok (.irem, 1) := by decide +kernel
theorem dX0_parseRuns_55 : decode cX0_parseRuns 55 = .ok (.iconst 1, 1) := by decide +kernel
theorem dX0_parseRuns_56 : decode cX0_parseRuns 56 = .ok (.if_icmp .ne 7, 3) := by decide +kernel
theorem dX0_parseRuns_59 : decode cX0_parseRuns 59 = .ok (.iconst 1, 1) := by decide +kernel
theorem dX0_parseRuns_60 : decode cX0_parseRuns 60 = .ok (.goto 4, 3) := by decide +kernel
theorem dX0_parseRuns_63 : decode cX0_parseRuns 63 = .ok (.iconst 0, 1) := by decide +kernel
theorem dX0_parseRuns_64 : decode cX0_parseRuns 64 = .ok (.istore 7, 2) := by decide +kernel
theorem dX0_parseRuns_66 : decode cX0_parseRuns 66 = .ok (.iload 7, 2) := by decide +kernel
theorem dX0_parseRuns_68 : decode cX0_parseRuns 68 = .ok (.ifCond .eq 36, 3) := by decide +kernel
theorem dX0_parseRuns_71 : decode cX0_parseRuns 71 = .ok (.aload 4, 2) := by decide +kernel
theorem dX0_parseRuns_73 : decode cX0_parseRuns 73 = .ok (.sipush 256, 3) := by decide +kernel
theorem dX0_parseRuns_76 : decode cX0_parseRuns 76 = .ok (.iload_n 1, 1) := by decide +kernel
theorem dX0_parseRuns_77 : decode cX0_parseRuns 77 = .ok (.imul, 1) := by decide +kernel
theorem dX0_parseRuns_78 : decode cX0_parseRuns 78 = .ok (.aload_n 0, 1) := by decide +kernel
theorem dX0_parseRuns_79 : decode cX0_parseRuns 79 = .ok (.getfield 9, 3) := by decide +kernel
theorem dX0_parseRuns_82 : decode cX0_parseRuns 82 = .ok (.iload 6, 2) := by decide +kernel
theorem dX0_parseRuns_84 : decode cX0_parseRuns 84 = .ok (.iconst 1, 1) := by decide +kernel
theorem dX0_parseRuns_85 : decode cX0_parseRuns 85 = .ok (.isub, 1) := by decide +kernel
theorem dX0_parseRuns_86 : decode cX0_parseRuns 86 = .ok (.iaload, 1) := by decide +kernel
theorem dX0_parseRuns_87 : decode cX0_parseRuns 87 = .ok (.iadd, 1) := by decide +kernel
theorem dX0_parseRuns_88 : decode cX0_parseRuns 88 = .ok (.sipush 256, 3) := by decide +kernel
theorem dX0_parseRuns_91 : decode cX0_parseRuns 91 = .ok (.iload_n 1, 1) := by decide +kernel
theorem dX0_parseRuns_92 : decode cX0_parseRuns 92 = .ok (.imul, 1) := by decide +kernel
theorem dX0_parseRuns_93 : decode cX0_parseRuns 93 = .ok (.aload_n 0, 1) := by decide +kernel
theorem dX0_parseRuns_94 : decode cX0_parseRuns 94 = .ok (.getfield 9, 3) := by decide +kernel
theorem dX0_parseRuns_97 : decode cX0_parseRuns 97 = .ok (.iload 6, 2) := by decide +kernel
theorem dX0_parseRuns_99 : decode cX0_parseRuns 99 = .ok (.iaload, 1) := by decide +kernel
theorem dX0_parseRuns_100 : decode cX0_parseRuns 100 = .ok (.iadd, 1) := by decide +kernel
theorem dX0_parseRuns_101 : decode cX0_parseRuns 101 = .ok (.invokevirtual 50, 3) := by decide +kernel
theorem dX0_parseRuns_104 : decode cX0_parseRuns 104 = .ok (.iload 7, 2) := by decide +kernel
theorem dX0_parseRuns_106 : decode cX0_parseRuns 106 = .ok (.ifCond .eq 15, 3) := by decide +kernel
theorem dX0_parseRuns_109 : decode cX0_parseRuns 109 = .ok (.aload_n 0, 1) := by decide +kernel
theorem dX0_parseRuns_110 : decode cX0_parseRuns 110 = .ok (.getfield 9, 3) := by decide +kernel
theorem dX0_parseRuns_113 : decode cX0_parseRuns 113 = .ok (.iload 6, 2) := by decide +kernel
theorem dX0_parseRuns_115 : decode cX0_parseRuns 115 = .ok (.iaload, 1) := by decide +kernel
theorem dX0_parseRuns_116 : decode cX0_parseRuns 116 = .ok (.iconst 2, 1) := by decide +kernel
theorem dX0_parseRuns_117 : decode cX0_parseRuns 117 = .ok (.iadd, 1) := by decide +kernel
theorem dX0_parseRuns_118 : decode cX0_parseRuns 118 = .ok (.goto 10, 3) := by decide +kernel
theorem dX0_parseRuns_121 : decode cX0_parseRuns 121 = .ok (.aload_n 0, 1) := by decide +kernel
theorem dX0_parseRuns_122 : decode cX0_parseRuns 122 = .ok (.getfield 9, 3) := by decide +kernel
theorem dX0_parseRuns_125 : decode cX0_parseRuns 125 = .ok (.iload 6, 2) := by decide +kernel
theorem dX0_parseRuns_127 : decode cX0_parseRuns 127 = .ok (.iaload, 1) := by decide +kernel
theorem dX0_parseRuns_128 : decode cX0_parseRuns 128 = .ok (.istore 5, 2) := by decide +kernel
theorem dX0_parseRuns_130 : decode cX0_parseRuns 130 = .ok (.iinc 6 1, 3) := by decide +kernel
theorem dX0_parseRuns_133 : decode cX0_parseRuns 133 = .ok (.goto (-127), 3) := by decide +kernel
theorem dX0_parseRuns_136 : decode cX0_parseRuns 136 = .ok (.iload_n 3, 1) := by decide +kernel
theorem dX0_parseRuns_137 : decode cX0_parseRuns 137 = .ok (.iconst 2, 1) := by decide +kernel
theorem dX0_parseRuns_138 : decode cX0_parseRuns 138 = .ok (.iload_n 2, 1) := by decide +kernel
theorem dX0_parseRuns_139 : decode cX0_parseRuns 139 = .ok (.imul, 1) := by decide +kernel
theorem dX0_parseRuns_140 : decode cX0_parseRuns 140 = .ok (.iadd, 1) := by decide +kernel
theorem dX0_parseRuns_141 : decode cX0_parseRuns 141 = .ok (.ireturn, 1) := by decide +kernel
set_option maxRecDepth 20000 in
theorem ggX0_parseBitmap_X1_include : GoodIn wsX0_parseBitmap wsX1_include := goodIn_r _ [6, 7, 8, 9, 10, 13] (by decide +kernel) (by decide +kernel)
set_option maxRecDepth 20000 in
theorem gX0_parseBitmap_X1_include_n46 : GoodIn wsX0_parseBitmap (wsX1_include) := ggX0_parseBitmap_X1_include
theorem dX0_parseBitmap_0 : decode cX0_parseBitmap 0 = .ok (.iconst 0, 1) := by decide +kernel
theorem dX0_parseBitmap_1 : decode cX0_parseBitmap 1 = .ok (.istore 4, 2) := by decide +kernel
theorem dX0_parseBitmap_3 : decode cX0_parseBitmap 3 = .ok (.iload 4, 2) := by decide +kernel
theorem dX0_parseBitmap_5 : decode cX0_parseBitmap 5 = .ok (.bipush 32, 2) := by decide +kernel
theorem dX0_parseBitmap_7 : decode cX0_parseBitmap 7 = .ok (.if_icmp .ge 78, 3) := by decide +kernel
theorem dX0_parseBitmap_10 : decode cX0_parseBitmap 10 = .ok (.iload_n 2, 1) := by decide +kernel
theorem dX0_parseBitmap_11 : decode cX0_parseBitmap 11 = .ok (.iload 4, 2) := by decide +kernel
theorem dX0_parseBitmap_13 : decode cX0_parseBitmap 13 = .ok (.iadd, 1) := by decide +kernel
theorem dX0_parseBitmap_14 : decode cX0_parseBitmap 14 = .ok (.aload_n 0, 1) := by decide +kernel
theorem dX0_parseBitmap_15 : decode cX0_parseBitmap 15 = .ok (.getfield 15, 3) := by decide +kernel
theorem dX0_parseBitmap_18 : decode cX0_parseBitmap 18 = .ok (.if_icmp .lt 10, 3) := by decide +kernel
theorem dX0_parseBitmap_21 : decode cX0_parseBitmap 21 = .ok (.iconst (-1), 1) := by decide +kernel
theorem dX0_parseBitmap_22 : decode cX0_parseBitmap 22 = .ok (.aload_n 0, 1) := by decide +kernel
theorem dX0_parseBitmap_23 : decode cX0_parseBitmap 23 = .ok (.getfield 15, 3) := by decide +kernel
theorem dX0_parseBitmap_26 : decode cX0_parseBitmap 26 = .ok (.isub, 1) := by decide +kernel
theorem dX0_parseBitmap_27 : decode cX0_parseBitmap 27 = .ok (.ireturn, 1) := by decide +kernel
theorem dX0_parseBitmap_28 : decode cX0_parseBitmap 28 = .ok (.iconst 0, 1) := by decide +kernel
theorem dX0_parseBitmap_29 : decode cX0_parseBitmap 29 = .ok (.istore 5, 2) := by decide +kernel
theorem dX0_parseBitmap_31 : decode cX0_parseBitmap 31 = .ok (.iload 5, 2) := by decide +kernel
theorem dX0_parseBitmap_33 : decode cX0_parseBitmap 33 = .ok (.bipush 8, 2) := by decide +kernel
theorem dX0_parseBitmap_35 : decode cX0_parseBitmap 35 = .ok (.if_icmp .ge 44, 3) := by decide +kernel
theorem dX0_parseBitmap_38 : decode cX0_parseBitmap 38 = .ok (.aload_n 0, 1) := by decide +kernel
theorem dX0_parseBitmap_39 : decode cX0_parseBitmap 39 = .ok (.getfield 9, 3) := by decide +kernel
theorem dX0_parseBitmap_42 : decode cX0_parseBitmap 42 = .ok (.iload_n 2, 1) := by decide +kernel
theorem dX0_parseBitmap_43 : decode cX0_parseBitmap 43 = .ok (.iload 4, 2) := by decide +kernel
theorem dX0_parseBitmap_45 : decode cX0_parseBitmap 45 = .ok (.iadd, 1) := by decide +kernel
theorem dX0_parseBitmap_46 : decode cX0_parseBitmap 46 = .ok (.iaload, 1) := by decide +kernel
theorem dX0_parseBitmap_47 : decode cX0_parseBitmap 47 = .ok (.iload 5, 2) := by decide +kernel
theorem dX0_parseBitmap_49 : decode cX0_parseBitmap 49 = .ok (.ishr, 1) := by decide +kernel
theorem dX0_parseBitmap_50 : decode cX0_parseBitmap 50 = .ok (.iconst 1, 1) := by decide +kernel
theorem dX0_parseBitmap_51 : decode cX0_parseBitmap 51 = .ok (.iand, 1) := by decide +kernel
theorem dX0_parseBitmap_52 : decode cX0_parseBitmap 52 = .ok (.ifCond .eq 21, 3) := by decide +kernel
theorem dX0_parseBitmap_55 : decode cX0_parseBitmap 55 = .ok (.aload_n 3, 1) := by decide +kernel
theorem dX0_parseBitmap_56 : decode cX0_parseBitmap 56 = .ok (.sipush 256, 3) := by decide +kernel
theorem dX0_parseBitmap_59 : decode cX0_parseBitmap 59 = .ok (.iload_n 1, 1) := by decide +kernel
theorem dX0_parseBitmap_60 : decode cX0_parseBitmap 60 = .ok (.imul, 1) := by decide +kernel
theorem dX0_parseBitmap_61 : decode cX0_parseBitmap 61 = .ok (.bipush 8, 2) := by decide +kernel
theorem dX0_parseBitmap_63 : decode cX0_parseBitmap 63 = .ok (.iload 4, 2) := by decide +kernel
theorem dX0_parseBitmap_65 : decode cX0_parseBitmap 65 = .ok (.imul, 1) := by decide +kernel
theorem dX0_parseBitmap_66 : decode cX0_parseBitmap 66 = .ok (.iadd, 1) := by decide +kernel
theorem dX0_parseBitmap_67 : decode cX0_parseBitmap 67 = .ok (.iload 5, 2) := by decide +kernel
theorem dX0_parseBitmap_69 : decode cX0_parseBitmap 69 = .ok (.iadd, 1) := by decide +kernel
theorem dX0_parseBitmap_70 : decode cX0_parseBitmap 70 = .ok (.invokevirtual 46, 3) := by decide +kernel
theorem dX0_parseBitmap_73 : decode cX0_parseBitmap 73 = .ok (.iinc 5 1, 3) := by decide +kernel
theorem dX0_parseBitmap_76 : decode cX0_parseBitmap 76 = .ok (.goto (-45), 3) := by decide +kernel
theorem dX0_parseBitmap_79 : decode cX0_parseBitmap 79 = .ok (.iinc 4 1, 3) := by decide +kernel
theorem dX0_parseBitmap_82 : decode cX0_parseBitmap 82 = .ok (.goto (-79), 3) := by decide +kernel
theorem dX0_parseBitmap_85 : decode cX0_parseBitmap 85 = .ok (.iload_n 2, 1) := by decide +kernel
theorem dX0_parseBitmap_86 : decode cX0_parseBitmap 86 = .ok (.bipush 33, 2) := by decide +kernel
theorem dX0_parseBitmap_88 : decode cX0_parseBitmap 88 = .ok (.iadd, 1) := by decide +kernel
theorem dX0_parseBitmap_89 : decode cX0_parseBitmap 89 = .ok (.iconst 1, 1) := by decide +kernel
theorem dX0_parseBitmap_90 : decode cX0_parseBitmap 90 = .ok (.isub, 1) := by decide +kernel
theorem dX0_parseBitmap_91 : decode cX0_parseBitmap 91 = .ok (.ireturn, 1) := by decide +kernel
theorem dX1_init_0 : decode cX1_init 0 = .ok (.aload_n 0, 1) := by decide +kernel
theorem dX1_init_1 : decode cX1_init 1 = .ok (.invokespecial 3, 3) := by decide +kernel
theorem dX1_init_4 : decode cX1_init 4 = .ok (.aload_n 0, 1) := by decide +kernel
theorem dX1_init_5 : decode cX1_init 5 = .ok (.bipush 64, 2) := by decide +kernel
theorem dX1_init_7 : decode cX1_init 7 = .ok (.newarray .long, 2) := by decide +kernel
theorem dX1_init_9 : decode cX1_init 9 = .ok (.putfield 9, 3) := by decide +kernel
theorem dX1_init_12 : decode cX1_init 12 = .ok (.return_, 1) := by decide +kernel
theorem dX1_become_0 : decode cX1_become 0 = .ok (.aload_n 1, 1) := by decide +kernel
theorem dX1_become_1 : decode cX1_become 1 = .ok (.getfield 9, 3) := by decide +kernel
theorem dX1_become_4 : decode cX1_become 4 = .ok (.iconst 0, 1) := by decide +kernel
theorem dX1_become_5 : decode cX1_become 5 = .ok (.aload_n 0, 1) := by decide +kernel
theorem dX1_become_6 : decode cX1_become 6 = .ok (.getfield 9, 3) := by decide +kernel
theorem dX1_become_9 : decode cX1_become 9 = .ok (.iconst 0, 1) := by decide +kernel
theorem dX1_become_10 : decode cX1_become 10 = .ok (.bipush 64, 2) := by decide +kernel
theorem dX1_become_12 : decode cX1_become 12 = .ok (.invokestatic 15, 3) := by decide +kernel
theorem dX1_become_15 : decode cX1_become 15 = .ok (.return_, 1) := by decide +kernel
set_option maxRecDepth 20000 in
theorem ggX1_becomeEmpty_J7_fill_d0a16 : GoodIn wsX1_becomeEmpty wsJ7_fill_d0a16 := goodIn_r _ [5] (by decide +kernel) (by decide +kernel)
set_option maxRecDepth 20000 in
theorem gX1_becomeEmpty_J7_fill_d0a16 : GoodIn wsX1_becomeEmpty (va_wsS RX1 21 yJ7_fill_d0a16 wsJ7_fill_d0a16) := goodIn_app (goodIn_of _ (by decide +kernel)) ggX1_becomeEmpty_J7_fill_d0a16
theorem dX1_becomeEmpty_0 : decode cX1_becomeEmpty 0 = .ok (.aload_n 0, 1) := by decide +kernel
theorem dX1_becomeEmpty_1 : decode cX1_becomeEmpty 1 = .ok (.getfield 9, 3) := by decide +kernel
theorem dX1_becomeEmpty_4 : decode cX1_becomeEmpty 4 = .ok (.lconst 0, 1) := by decide +kernel
theorem dX1_becomeEmpty_5 : decode cX1_becomeEmpty 5 = .ok (.invokestatic 21, 3) := by decide +kernel
theorem dX1_becomeEmpty_8 : decode cX1_becomeEmpty 8 = .ok (.return_, 1) := by decide +kernel
set_option maxRecDepth 20000 in
theorem ggX1_becomeJoin_X1_join : GoodIn wsX1_becomeJoin wsX1_join := goodIn_r _ [5, 6] (by decide +kernel) (by decide +kernel)
set_option maxRecDepth 20000 in
theorem gX1_becomeJoin_X1_join : GoodIn wsX1_becomeJoin (va_wsS RX1 27 yX1_join wsX1_join) := goodIn_app (goodIn_of _ (by decide +kernel)) ggX1_becomeJoin_X1_join
theorem dX1_becomeJoin_0 : decode cX1_becomeJoin 0 = .ok (.iconst 0, 1) := by decide +kernel
theorem dX1_becomeJoin_1 : decode cX1_becomeJoin 1 = .ok (.istore 4, 2) := by decide +kernel
theorem dX1_becomeJoin_3 : decode cX1_becomeJoin 3 = .ok (.iload 4, 2) := by decide +kernel
theorem dX1_becomeJoin_5 : decode cX1_becomeJoin 5 = .ok (.bipush 64, 2) := by decide +kernel
theorem dX1_becomeJoin_7 : decode cX1_becomeJoin 7 = .ok (.if_icmp .ge 34, 3) := by decide +kernel
theorem dX1_becomeJoin_10 : decode cX1_becomeJoin 10 = .ok (.aload_n 0, 1) := by decide +kernel
theorem dX1_becomeJoin_11 : decode cX1_becomeJoin 11 = .ok (.getfield 9, 3) := by decide +kernel
theorem dX1_becomeJoin_14 : decode cX1_becomeJoin 14 = .ok (.iload 4, 2) := by decide +kernel
theorem dX1_becomeJoin_16 : decode cX1_becomeJoin 16 = .ok (.iload_n 1, 1) := by decide +kernel
theorem dX1_becomeJoin_17 : decode cX1_becomeJoin 17 = .ok (.aload_n 2, 1) := by decide +kernel
theorem dX1_becomeJoin_18 : decode cX1_becomeJoin 18 = .ok (.getfield 9, 3) := by decide +kernel
theorem dX1_becomeJoin_21 : decode cX1_becomeJoin 21 = .ok (.iload 4, 2) := by decide +kernel
theorem dX1_becomeJoin_23 : decode cX1_becomeJoin 23 = .ok (.laload, 1) := by decide +kernel
theorem dX1_becomeJoin_24 : decode cX1_becomeJoin 24 = .ok (.aload_n 3, 1) := by decide +kernel
theorem dX1_becomeJoin_25 : decode cX1_becomeJoin 25 = .ok (.getfield 9, 3) := by decide +kernel
theorem dX1_becomeJoin_28 : decode cX1_becomeJoin 28 = .ok (.iload 4, 2) := by decide +kernel
theorem dX1_becomeJoin_30 : decode cX1_becomeJoin 30 = .ok (.laload, 1) := by decide +kernel
theorem dX1_becomeJoin_31 : decode cX1_becomeJoin 31 = .ok (.invokestatic 27, 3) := by decide +kernel
theorem dX1_becomeJoin_34 : decode cX1_becomeJoin 34 = .ok (.lastore, 1) := by decide +kernel
theorem dX1_becomeJoin_35 : decode cX1_becomeJoin 35 = .ok (.iinc 4 1, 3) := by decide +kernel
theorem dX1_becomeJoin_38 : decode cX1_becomeJoin 38 = .ok (.goto (-35), 3) := by decide +kernel
theorem dX1_becomeJoin_41 : decode cX1_becomeJoin 41 = .ok (.return_, 1) := by decide +kernel
theorem dX1_join_0 : decode cX1_join 0 = .ok (.iload_n 0, 1) := by decide +kernel
theorem dX1_join_1 : decode cX1_join 1 = .ok (.tableswitch 39 0 2 #[27, 31, 35], 27) := by decide +kernel
theorem dX1_join_28 : decode cX1_join 28 = .ok (.lload_n 1, 1) := by decide +kernel
theorem dX1_join_29 : decode cX1_join 29 = .ok (.lload_n 3, 1) := by decide +kernel
theorem dX1_join_30 : decode cX1_join 30 = .ok (.land, 1) := by decide +kernel
theorem dX1_join_31 : decode cX1_join 31 = .ok (.lreturn, 1) := by decide +kernel
theorem dX1_join_32 : decode cX1_join 32 = .ok (.lload_n 1, 1) := by decide +kernel
theorem dX1_join_33 : decode cX1_join 33 = .ok (.lload_n 3, 1) := by decide +kernel
theorem dX1_join_34 : decode cX1_join 34 = .ok (.lor, 1) := by decide +kernel
theorem dX1_join_35 : decode cX1_join 35 = .ok (.lreturn, 1) := by decide +kernel
theorem dX1_join_36 : decode cX1_join 36 = .ok (.lload_n 1, 1) := by decide +kernel
theorem dX1_join_37 : decode cX1_join 37 = .ok (.lload_n 3, 1) := by decide +kernel
theorem dX1_join_38 : decode cX1_join 38 = .ok (.lxor, 1) := by decide +kernel
theorem dX1_join_39 : decode cX1_join 39 = .ok (.lreturn, 1) := by decide +kernel
theorem dX1_join_40 : decode cX1_join 40 = .ok (.lload_n 1, 1) := by decide +kernel
theorem dX1_join_41 : decode cX1_join 41 = .ok (.lload_n 3, 1) := by decide +kernel
theorem dX1_join_42 : decode cX1_join 42 = .ok (.ldc2_w 31, 3) := by decide +kernel
theorem dX1_join_45 : decode cX1_join 45 = .ok (.lxor, 1) := by decide +kernel
theorem dX1_join_46 : decode cX1_join 46 = .ok (.land, 1) := by decide +kernel
theorem dX1_join_47 : decode cX1_join 47 = .ok (.lreturn, 1) := by decide +kernel
set_option maxRecDepth 20000 in
theorem ggX1_becomeMoved_X1_wordAt : GoodIn wsX1_becomeMoved wsX1_wordAt := goodIn_r _ [6, 1, 7] (by decide +kernel) (by decide +kernel)
set_option maxRecDepth 20000 in
theorem gX1_becomeMoved_X1_wordAt : GoodIn wsX1_becomeMoved (wsV RX1 33 RX1 yX1_wordAt wsX1_wordAt) := goodIn_app (goodIn_of _ (by decide +kernel)) ggX1_becomeMoved_X1_wordAt
theorem dX1_becomeMoved_0 : decode cX1_becomeMoved 0 = .ok (.iconst 0, 1) := by decide +kernel
theorem dX1_becomeMoved_1 : decode cX1_becomeMoved 1 = .ok (.istore_n 3, 1) := by decide +kernel
theorem dX1_becomeMoved_2 : decode cX1_becomeMoved 2 = .ok (.iload_n 3, 1) := by decide +kernel
theorem dX1_becomeMoved_3 : decode cX1_becomeMoved 3 = .ok (.bipush 64, 2) := by decide +kernel
theorem dX1_becomeMoved_5 : decode cX1_becomeMoved 5 = .ok (.if_icmp .ge 77, 3) := by decide +kernel
theorem dX1_becomeMoved_8 : decode cX1_becomeMoved 8 = .ok (.bipush 64, 2) := by decide +kernel
theorem dX1_becomeMoved_10 : decode cX1_becomeMoved 10 = .ok (.iload_n 3, 1) := by decide +kernel
theorem dX1_becomeMoved_11 : decode cX1_becomeMoved 11 = .ok (.imul, 1) := by decide +kernel
theorem dX1_becomeMoved_12 : decode cX1_becomeMoved 12 = .ok (.iload_n 2, 1) := by decide +kernel
theorem dX1_becomeMoved_13 : decode cX1_becomeMoved 13 = .ok (.isub, 1) := by decide +kernel
theorem dX1_becomeMoved_14 : decode cX1_becomeMoved 14 = .ok (.istore 4, 2) := by decide +kernel
theorem dX1_becomeMoved_16 : decode cX1_becomeMoved 16 = .ok (.iload 4, 2) := by decide +kernel
theorem dX1_becomeMoved_18 : decode cX1_becomeMoved 18 = .ok (.bipush 63, 2) := by decide +kernel
theorem dX1_becomeMoved_20 : decode cX1_becomeMoved 20 = .ok (.iand, 1) := by decide +kernel
theorem dX1_becomeMoved_21 : decode cX1_becomeMoved 21 = .ok (.istore 5, 2) := by decide +kernel
theorem dX1_becomeMoved_23 : decode cX1_becomeMoved 23 = .ok (.aload_n 1, 1) := by decide +kernel
theorem dX1_becomeMoved_24 : decode cX1_becomeMoved 24 = .ok (.iload 4, 2) := by decide +kernel
theorem dX1_becomeMoved_26 : decode cX1_becomeMoved 26 = .ok (.bipush 6, 2) := by decide +kernel
theorem dX1_becomeMoved_28 : decode cX1_becomeMoved 28 = .ok (.ishr, 1) := by decide +kernel
theorem dX1_becomeMoved_29 : decode cX1_becomeMoved 29 = .ok (.invokevirtual 33, 3) := by decide +kernel
theorem dX1_becomeMoved_32 : decode cX1_becomeMoved 32 = .ok (.iload 5, 2) := by decide +kernel
theorem dX1_becomeMoved_34 : decode cX1_becomeMoved 34 = .ok (.lushr, 1) := by decide +kernel
theorem dX1_becomeMoved_35 : decode cX1_becomeMoved 35 = .ok (.lstore 6, 2) := by decide +kernel
theorem dX1_becomeMoved_37 : decode cX1_becomeMoved 37 = .ok (.iload 5, 2) := by decide +kernel
theorem dX1_becomeMoved_39 : decode cX1_becomeMoved 39 = .ok (.ifCond .ne 7, 3) := by decide +kernel
theorem dX1_becomeMoved_42 : decode cX1_becomeMoved 42 = .ok (.lconst 0, 1) := by decide +kernel
theorem dX1_becomeMoved_43 : decode cX1_becomeMoved 43 = .ok (.goto 20, 3) := by decide +kernel
theorem dX1_becomeMoved_46 : decode cX1_becomeMoved 46 = .ok (.aload_n 1, 1) := by decide +kernel
theorem dX1_becomeMoved_47 : decode cX1_becomeMoved 47 = .ok (.iload 4, 2) := by decide +kernel
theorem dX1_becomeMoved_49 : decode cX1_becomeMoved 49 = .ok (.bipush 6, 2) := by decide +kernel
theorem dX1_becomeMoved_51 : decode cX1_becomeMoved 51 = .ok (.ishr, 1) := by decide +kernel
theorem dX1_becomeMoved_52 : decode cX1_becomeMoved 52 = .ok (.iconst 1, 1) := by decide +kernel
theorem dX1_becomeMoved_53 : decode cX1_becomeMoved 53 = .ok (.iadd, 1) := by decide +kernel
theorem dX1_becomeMoved_54 : decode cX1_becomeMoved 54 = .ok (.invokevirtual 33, 3) := by decide +kernel
theorem dX1_becomeMoved_57 : decode cX1_becomeMoved 57 = .ok (.bipush 64, 2) := by decide +kernel
theorem dX1_becomeMoved_59 : decode cX1_becomeMoved 59 = .ok (.iload 5, 2) := by decide +kernel
theorem dX1_becomeMoved_61 : decode cX1_becomeMoved 61 = .ok (.isub, 1) := by decide +kernel
theorem dX1_becomeMoved_62 : decode cX1_becomeMoved 62 = .ok (.lshl, 1) := by decide +kernel
theorem dX1_becomeMoved_63 : decode cX1_becomeMoved 63 = .ok (.lstore 8, 2) := by decide +kernel
theorem dX1_becomeMoved_65 : decode cX1_becomeMoved 65 = .ok (.aload_n 0, 1) := by decide +kernel
theorem dX1_becomeMoved_66 : decode cX1_becomeMoved 66 = .ok (.getfield 9, 3) := by decide +kernel
theorem dX1_becomeMoved_69 : decode cX1_becomeMoved 69 = .ok (.iload_n 3, 1) := by decide +kernel
theorem dX1_becomeMoved_70 : decode cX1_becomeMoved 70 = .ok (.lload 6, 2) := by decide +kernel
theorem dX1_becomeMoved_72 : decode cX1_becomeMoved 72 = .ok (.lload 8, 2) := by decide +kernel
theorem dX1_becomeMoved_74 : decode cX1_becomeMoved 74 = .ok (.lor, 1) := by decide +kernel
theorem dX1_becomeMoved_75 : decode cX1_becomeMoved 75 = .ok (.lastore, 1) := by decide +kernel
theorem dX1_becomeMoved_76 : decode cX1_becomeMoved 76 = .ok (.iinc 3 1, 3) := by decide +kernel
theorem dX1_becomeMoved_79 : decode cX1_becomeMoved 79 = .ok (.goto (-77), 3) := by decide +kernel
theorem dX1_becomeMoved_82 : decode cX1_becomeMoved 82 = .ok (.return_, 1) := by decide +kernel
theorem dX1_wordAt_0 : decode cX1_wordAt 0 = .ok (.iload_n 1, 1) := by decide +kernel
theorem dX1_wordAt_1 : decode cX1_wordAt 1 = .ok (.ifCond .lt 18, 3) := by decide +kernel
theorem dX1_wordAt_4 : decode cX1_wordAt 4 = .ok (.iload_n 1, 1) := by decide +kernel
theorem dX1_wordAt_5 : decode cX1_wordAt 5 = .ok (.bipush 64, 2) := by decide +kernel
theorem dX1_wordAt_7 : decode cX1_wordAt 7 = .ok (.if_icmp .ge 12, 3) := by decide +kernel
theorem dX1_wordAt_10 : decode cX1_wordAt 10 = .ok (.aload_n 0, 1) := by decide +kernel
theorem dX1_wordAt_11 : decode cX1_wordAt 11 = .ok (.getfield 9, 3) := by decide +kernel
theorem dX1_wordAt_14 : decode cX1_wordAt 14 = .ok (.iload_n 1, 1) := by decide +kernel
theorem dX1_wordAt_15 : decode cX1_wordAt 15 = .ok (.laload, 1) := by decide +kernel
theorem dX1_wordAt_16 : decode cX1_wordAt 16 = .ok (.goto 4, 3) := by decide +kernel
theorem dX1_wordAt_19 : decode cX1_wordAt 19 = .ok (.lconst 0, 1) := by decide +kernel
theorem dX1_wordAt_20 : decode cX1_wordAt 20 = .ok (.lreturn, 1) := by decide +kernel
set_option maxRecDepth 20000 in
theorem ggX1_include_X3_isNumber : GoodIn wsX1_include wsX3_isNumber := goodIn_r _ [4] (by decide +kernel) (by decide +kernel)
set_option maxRecDepth 20000 in
theorem gX1_include_X3_isNumber_n37 : GoodIn wsX1_include (wsX3_isNumber) := ggX1_include_X3_isNumber
theorem dX1_include_0 : decode cX1_include 0 = .ok (.iload_n 1, 1) := by decide +kernel
theorem dX1_include_1 : decode cX1_include 1 = .ok (.invokestatic 37, 3) := by decide +kernel
theorem dX1_include_4 : decode cX1_include 4 = .ok (.ifCond .eq 21, 3) := by decide +kernel
theorem dX1_include_7 : decode cX1_include 7 = .ok (.aload_n 0, 1) := by decide +kernel
theorem dX1_include_8 : decode cX1_include 8 = .ok (.getfield 9, 3) := by decide +kernel
theorem dX1_include_11 : decode cX1_include 11 = .ok (.iload_n 1, 1) := by decide +kernel
theorem dX1_include_12 : decode cX1_include 12 = .ok (.bipush 6, 2) := by decide +kernel
theorem dX1_include_14 : decode cX1_include 14 = .ok (.ishr, 1) := by decide +kernel
theorem dX1_include_15 : decode cX1_include 15 = .ok (.dup2, 1) := by decide +kernel
theorem dX1_include_16 : decode cX1_include 16 = .ok (.laload, 1) := by decide +kernel
theorem dX1_include_17 : decode cX1_include 17 = .ok (.lconst 1, 1) := by decide +kernel
theorem dX1_include_18 : decode cX1_include 18 = .ok (.iload_n 1, 1) := by decide +kernel
theorem dX1_include_19 : decode cX1_include 19 = .ok (.bipush 63, 2) := by decide +kernel
theorem dX1_include_21 : decode cX1_include 21 = .ok (.iand, 1) := by decide +kernel
theorem dX1_include_22 : decode cX1_include 22 = .ok (.lshl, 1) := by decide +kernel
theorem dX1_include_23 : decode cX1_include 23 = .ok (.lor, 1) := by decide +kernel
theorem dX1_include_24 : decode cX1_include 24 = .ok (.lastore, 1) := by decide +kernel
theorem dX1_include_25 : decode cX1_include 25 = .ok (.return_, 1) := by decide +kernel
set_option maxRecDepth 20000 in
theorem ggX1_holds_X3_isNumber : GoodIn wsX1_holds wsX3_isNumber := goodIn_r _ [4] (by decide +kernel) (by decide +kernel)
set_option maxRecDepth 20000 in
theorem gX1_holds_X3_isNumber_n37 : GoodIn wsX1_holds (wsX3_isNumber) := ggX1_holds_X3_isNumber
theorem dX1_holds_0 : decode cX1_holds 0 = .ok (.iload_n 1, 1) := by decide +kernel
theorem dX1_holds_1 : decode cX1_holds 1 = .ok (.invokestatic 37, 3) := by decide +kernel
theorem dX1_holds_4 : decode cX1_holds 4 = .ok (.ifCond .eq 28, 3) := by decide +kernel
theorem dX1_holds_7 : decode cX1_holds 7 = .ok (.aload_n 0, 1) := by decide +kernel
theorem dX1_holds_8 : decode cX1_holds 8 = .ok (.getfield 9, 3) := by decide +kernel
theorem dX1_holds_11 : decode cX1_holds 11 = .ok (.iload_n 1, 1) := by decide +kernel
theorem dX1_holds_12 : decode cX1_holds 12 = .ok (.bipush 6, 2) := by decide +kernel
theorem dX1_holds_14 : decode cX1_holds 14 = .ok (.ishr, 1) := by decide +kernel
theorem dX1_holds_15 : decode cX1_holds 15 = .ok (.laload, 1) := by decide +kernel
theorem dX1_holds_16 : decode cX1_holds 16 = .ok (.iload_n 1, 1) := by decide +kernel
theorem dX1_holds_17 : decode cX1_holds 17 = .ok (.bipush 63, 2) := by decide +kernel
theorem dX1_holds_19 : decode cX1_holds 19 = .ok (.iand, 1) := by decide +kernel
theorem dX1_holds_20 : decode cX1_holds 20 = .ok (.lushr, 1) := by decide +kernel
theorem dX1_holds_21 : decode cX1_holds 21 = .ok (.lconst 1, 1) := by decide +kernel
theorem dX1_holds_22 : decode cX1_holds 22 = .ok (.land, 1) := by decide +kernel
theorem dX1_holds_23 : decode cX1_holds 23 = .ok (.lconst 0, 1) := by decide +kernel
theorem dX1_holds_24 : decode cX1_holds 24 = .ok (.lcmp, 1) := by decide +kernel
theorem dX1_holds_25 : decode cX1_holds 25 = .ok (.ifCond .eq 7, 3) := by decide +kernel
theorem dX1_holds_28 : decode cX1_holds 28 = .ok (.iconst 1, 1) := by decide +kernel
theorem dX1_holds_29 : decode cX1_holds 29 = .ok (.goto 4, 3) := by decide +kernel
theorem dX1_holds_32 : decode cX1_holds 32 = .ok (.iconst 0, 1) := by decide +kernel
theorem dX1_holds_33 : decode cX1_holds 33 = .ok (.ireturn, 1) := by decide +kernel
set_option maxRecDepth 20000 in
theorem ggX1_includeAll_X1_mask : GoodIn wsX1_includeAll wsX1_mask := goodIn_r _ [5, 6, 7, 8, 9, 10, 11, 12, 13] (by decide +kernel) (by decide +kernel)
set_option maxRecDepth 20000 in
theorem gX1_includeAll_X1_mask : GoodIn wsX1_includeAll (va_wsS RX1 41 yX1_mask wsX1_mask) := goodIn_app (goodIn_of _ (by decide +kernel)) ggX1_includeAll_X1_mask
theorem dX1_includeAll_0 : decode cX1_includeAll 0 = .ok (.iconst 0, 1) := by decide +kernel
theorem dX1_includeAll_1 : decode cX1_includeAll 1 = .ok (.istore_n 3, 1) := by decide +kernel
theorem dX1_includeAll_2 : decode cX1_includeAll 2 = .ok (.iload_n 3, 1) := by decide +kernel
theorem dX1_includeAll_3 : decode cX1_includeAll 3 = .ok (.bipush 64, 2) := by decide +kernel
theorem dX1_includeAll_5 : decode cX1_includeAll 5 = .ok (.if_icmp .ge 24, 3) := by decide +kernel
theorem dX1_includeAll_8 : decode cX1_includeAll 8 = .ok (.aload_n 0, 1) := by decide +kernel
theorem dX1_includeAll_9 : decode cX1_includeAll 9 = .ok (.getfield 9, 3) := by decide +kernel
theorem dX1_includeAll_12 : decode cX1_includeAll 12 = .ok (.iload_n 3, 1) := by decide +kernel
theorem dX1_includeAll_13 : decode cX1_includeAll 13 = .ok (.dup2, 1) := by decide +kernel
theorem dX1_includeAll_14 : decode cX1_includeAll 14 = .ok (.laload, 1) := by decide +kernel
theorem dX1_includeAll_15 : decode cX1_includeAll 15 = .ok (.iload_n 3, 1) := by decide +kernel
theorem dX1_includeAll_16 : decode cX1_includeAll 16 = .ok (.iload_n 1, 1) := by decide +kernel
theorem dX1_includeAll_17 : decode cX1_includeAll 17 = .ok (.iload_n 2, 1) := by decide +kernel
theorem dX1_includeAll_18 : decode cX1_includeAll 18 = .ok (.invokestatic 41, 3) := by decide +kernel
theorem dX1_includeAll_21 : decode cX1_includeAll 21 = .ok (.lor, 1) := by decide +kernel
theorem dX1_includeAll_22 : decode cX1_includeAll 22 = .ok (.lastore, 1) := by decide +kernel
theorem dX1_includeAll_23 : decode cX1_includeAll 23 = .ok (.iinc 3 1, 3) := by decide +kernel
theorem dX1_includeAll_26 : decode cX1_includeAll 26 = .ok (.goto (-24), 3) := by decide +kernel
theorem dX1_includeAll_29 : decode cX1_includeAll 29 = .ok (.return_, 1) := by decide +kernel
set_option maxRecDepth 20000 in
theorem ggX1_excludeAll_X1_mask : GoodIn wsX1_excludeAll wsX1_mask := goodIn_r _ [6, 7, 8, 9, 10, 11, 12, 13, 2] (by decide +kernel) (by decide +kernel)
set_option maxRecDepth 20000 in
theorem gX1_excludeAll_X1_mask : GoodIn wsX1_excludeAll (va_wsS RX1 41 yX1_mask wsX1_mask) := goodIn_app (goodIn_of _ (by decide +kernel)) ggX1_excludeAll_X1_mask
theorem dX1_excludeAll_0 : decode cX1_excludeAll 0 = .ok (.iconst 0, 1) := by decide +kernel
theorem dX1_excludeAll_1 : decode cX1_excludeAll 1 = .ok (.istore_n 3, 1) := by decide +kernel
theorem dX1_excludeAll_2 : decode cX1_excludeAll 2 = .ok (.iload_n 3, 1) := by decide +kernel
theorem dX1_excludeAll_3 : decode cX1_excludeAll 3 = .ok (.bipush 64, 2) := by decide +kernel
theorem dX1_excludeAll_5 : decode cX1_excludeAll 5 = .ok (.if_icmp .ge 28, 3) := by decide +kernel
theorem dX1_excludeAll_8 : decode cX1_excludeAll 8 = .ok (.aload_n 0, 1) := by decide +kernel
theorem dX1_excludeAll_9 : decode cX1_excludeAll 9 = .ok (.getfield 9, 3) := by decide +kernel
theorem dX1_excludeAll_12 : decode cX1_excludeAll 12 = .ok (.iload_n 3, 1) := by decide +kernel
theorem dX1_excludeAll_13 : decode cX1_excludeAll 13 = .ok (.dup2, 1) := by decide +kernel
theorem dX1_excludeAll_14 : decode cX1_excludeAll 14 = .ok (.laload, 1) := by decide +kernel
theorem dX1_excludeAll_15 : decode cX1_excludeAll 15 = .ok (.iload_n 3, 1) := by decide +kernel
theorem dX1_excludeAll_16 : decode cX1_excludeAll 16 = .ok (.iload_n 1, 1) := by decide +kernel
theorem dX1_excludeAll_17 : decode cX1_excludeAll 17 = .ok (.iload_n 2, 1) := by decide +kernel
theorem dX1_excludeAll_18 : decode cX1_excludeAll 18 = .ok (.invokestatic 41, 3) := by decide +kernel
theorem dX1_excludeAll_21 : decode cX1_excludeAll 21 = .ok (.ldc2_w 31, 3) := by decide +kernel
theorem dX1_excludeAll_24 : decode cX1_excludeAll 24 = .ok (.lxor, 1) := by decide +kernel
theorem dX1_excludeAll_25 : decode cX1_excludeAll 25 = .ok (.land, 1) := by decide +kernel
theorem dX1_excludeAll_26 : decode cX1_excludeAll 26 = .ok (.lastore, 1) := by decide +kernel
theorem dX1_excludeAll_27 : decode cX1_excludeAll 27 = .ok (.iinc 3 1, 3) := by decide +kernel
theorem dX1_excludeAll_30 : decode cX1_excludeAll 30 = .ok (.goto (-28), 3) := by decide +kernel
theorem dX1_excludeAll_33 : decode cX1_excludeAll 33 = .ok (.return_, 1) := by decide +kernel
set_option maxRecDepth 20000 in
theorem ggX1_turnAll_X1_mask : GoodIn wsX1_turnAll wsX1_mask := goodIn_r _ [5, 6, 7, 8, 9, 10, 11, 12, 13] (by decide +kernel) (by decide +kernel)
set_option maxRecDepth 20000 in
theorem gX1_turnAll_X1_mask : GoodIn wsX1_turnAll (va_wsS RX1 41 yX1_mask wsX1_mask) := goodIn_app (goodIn_of _ (by decide +kernel)) ggX1_turnAll_X1_mask
theorem dX1_turnAll_0 : decode cX1_turnAll 0 = .ok (.iconst 0, 1) := by decide +kernel
theorem dX1_turnAll_1 : decode cX1_turnAll 1 = .ok (.istore_n 3, 1) := by decide +kernel
theorem dX1_turnAll_2 : decode cX1_turnAll 2 = .ok (.iload_n 3, 1) := by decide +kernel
theorem dX1_turnAll_3 : decode cX1_turnAll 3 = .ok (.bipush 64, 2) := by decide +kernel
theorem dX1_turnAll_5 : decode cX1_turnAll 5 = .ok (.if_icmp .ge 24, 3) := by decide +kernel
theorem dX1_turnAll_8 : decode cX1_turnAll 8 = .ok (.aload_n 0, 1) := by decide +kernel
theorem dX1_turnAll_9 : decode cX1_turnAll 9 = .ok (.getfield 9, 3) := by decide +kernel
theorem dX1_turnAll_12 : decode cX1_turnAll 12 = .ok (.iload_n 3, 1) := by decide +kernel
theorem dX1_turnAll_13 : decode cX1_turnAll 13 = .ok (.dup2, 1) := by decide +kernel
theorem dX1_turnAll_14 : decode cX1_turnAll 14 = .ok (.laload, 1) := by decide +kernel
theorem dX1_turnAll_15 : decode cX1_turnAll 15 = .ok (.iload_n 3, 1) := by decide +kernel
theorem dX1_turnAll_16 : decode cX1_turnAll 16 = .ok (.iload_n 1, 1) := by decide +kernel
theorem dX1_turnAll_17 : decode cX1_turnAll 17 = .ok (.iload_n 2, 1) := by decide +kernel
theorem dX1_turnAll_18 : decode cX1_turnAll 18 = .ok (.invokestatic 41, 3) := by decide +kernel
theorem dX1_turnAll_21 : decode cX1_turnAll 21 = .ok (.lxor, 1) := by decide +kernel
theorem dX1_turnAll_22 : decode cX1_turnAll 22 = .ok (.lastore, 1) := by decide +kernel
theorem dX1_turnAll_23 : decode cX1_turnAll 23 = .ok (.iinc 3 1, 3) := by decide +kernel
theorem dX1_turnAll_26 : decode cX1_turnAll 26 = .ok (.goto (-24), 3) := by decide +kernel
theorem dX1_turnAll_29 : decode cX1_turnAll 29 = .ok (.return_, 1) := by decide +kernel
theorem dX1_mask_0 : decode cX1_mask 0 = .ok (.iload_n 1, 1) := by decide +kernel
theorem dX1_mask_1 : decode cX1_mask 1 = .ok (.bipush 64, 2) := by decide +kernel
theorem dX1_mask_3 : decode cX1_mask 3 = .ok (.iload_n 0, 1) := by decide +kernel
theorem dX1_mask_4 : decode cX1_mask 4 = .ok (.imul, 1) := by decide +kernel
theorem dX1_mask_5 : decode cX1_mask 5 = .ok (.invokestatic 45, 3) := by decide +kernel
theorem dX1_mask_8 : decode cX1_mask 8 = .ok (.istore_n 3, 1) := by decide +kernel
theorem dX1_mask_9 : decode cX1_mask 9 = .ok (.iload_n 2, 1) := by decide +kernel
theorem dX1_mask_10 : decode cX1_mask 10 = .ok (.bipush 64, 2) := by decide +kernel
theorem dX1_mask_12 : decode cX1_mask 12 = .ok (.iload_n 0, 1) := by decide +kernel
theorem dX1_mask_13 : decode cX1_mask 13 = .ok (.imul, 1) := by decide +kernel
theorem dX1_mask_14 : decode cX1_mask 14 = .ok (.bipush 63, 2) := by decide +kernel
theorem dX1_mask_16 : decode cX1_mask 16 = .ok (.iadd, 1) := by decide +kernel
theorem dX1_mask_17 : decode cX1_mask 17 = .ok (.invokestatic 51, 3) := by decide +kernel
theorem dX1_mask_20 : decode cX1_mask 20 = .ok (.istore 4, 2) := by decide +kernel
theorem dX1_mask_22 : decode cX1_mask 22 = .ok (.iload_n 3, 1) := by decide +kernel
theorem dX1_mask_23 : decode cX1_mask 23 = .ok (.iload 4, 2) := by decide +kernel
theorem dX1_mask_25 : decode cX1_mask 25 = .ok (.if_icmp .le 5, 3) := by decide +kernel
theorem dX1_mask_28 : decode cX1_mask 28 = .ok (.lconst 0, 1) := by decide +kernel
theorem dX1_mask_29 : decode cX1_mask 29 = .ok (.lreturn, 1) := by decide +kernel
theorem dX1_mask_30 : decode cX1_mask 30 = .ok (.ldc2_w 31, 3) := by decide +kernel
theorem dX1_mask_33 : decode cX1_mask 33 = .ok (.iload_n 3, 1) := by decide +kernel
theorem dX1_mask_34 : decode cX1_mask 34 = .ok (.bipush 63, 2) := by decide +kernel
theorem dX1_mask_36 : decode cX1_mask 36 = .ok (.iand, 1) := by decide +kernel
theorem dX1_mask_37 : decode cX1_mask 37 = .ok (.lshl, 1) := by decide +kernel
theorem dX1_mask_38 : decode cX1_mask 38 = .ok (.ldc2_w 31, 3) := by decide +kernel
theorem dX1_mask_41 : decode cX1_mask 41 = .ok (.bipush 63, 2) := by decide +kernel
theorem dX1_mask_43 : decode cX1_mask 43 = .ok (.iload 4, 2) := by decide +kernel
theorem dX1_mask_45 : decode cX1_mask 45 = .ok (.bipush 63, 2) := by decide +kernel
theorem dX1_mask_47 : decode cX1_mask 47 = .ok (.iand, 1) := by decide +kernel
theorem dX1_mask_48 : decode cX1_mask 48 = .ok (.isub, 1) := by decide +kernel
theorem dX1_mask_49 : decode cX1_mask 49 = .ok (.lushr, 1) := by decide +kernel
theorem dX1_mask_50 : decode cX1_mask 50 = .ok (.land, 1) := by decide +kernel
theorem dX1_mask_51 : decode cX1_mask 51 = .ok (.lreturn, 1) := by decide +kernel
set_option maxRecDepth 20000 in
theorem ggX1_count_X1_countInPiece : GoodIn wsX1_count wsX1_countInPiece := goodIn_r _ [5, 6, 7, 8, 4, 9, 10, 11, 12, 13, 14, 15, 16, 17, 18] (by decide +kernel) (by decide +kernel)
set_option maxRecDepth 20000 in
theorem gX1_count_X1_countInPiece : GoodIn wsX1_count (wsV RX1 54 RX1 yX1_countInPiece wsX1_countInPiece) := goodIn_app (goodIn_of _ (by decide +kernel)) ggX1_count_X1_countInPiece
theorem dX1_count_0 : decode cX1_count 0 = .ok (.iconst 0, 1) := by decide +kernel
theorem dX1_count_1 : decode cX1_count 1 = .ok (.istore_n 1, 1) := by decide +kernel
theorem dX1_count_2 : decode cX1_count 2 = .ok (.iconst 0, 1) := by decide +kernel
theorem dX1_count_3 : decode cX1_count 3 = .ok (.istore_n 2, 1) := by decide +kernel
theorem dX1_count_4 : decode cX1_count 4 = .ok (.iload_n 2, 1) := by decide +kernel
theorem dX1_count_5 : decode cX1_count 5 = .ok (.bipush 16, 2) := by decide +kernel
theorem dX1_count_7 : decode cX1_count 7 = .ok (.if_icmp .ge 17, 3) := by decide +kernel
theorem dX1_count_10 : decode cX1_count 10 = .ok (.iload_n 1, 1) := by decide +kernel
theorem dX1_count_11 : decode cX1_count 11 = .ok (.aload_n 0, 1) := by decide +kernel
theorem dX1_count_12 : decode cX1_count 12 = .ok (.iload_n 2, 1) := by decide +kernel
theorem dX1_count_13 : decode cX1_count 13 = .ok (.invokevirtual 54, 3) := by decide +kernel
theorem dX1_count_16 : decode cX1_count 16 = .ok (.iadd, 1) := by decide +kernel
theorem dX1_count_17 : decode cX1_count 17 = .ok (.istore_n 1, 1) := by decide +kernel
theorem dX1_count_18 : decode cX1_count 18 = .ok (.iinc 2 1, 3) := by decide +kernel
theorem dX1_count_21 : decode cX1_count 21 = .ok (.goto (-17), 3) := by decide +kernel
theorem dX1_count_24 : decode cX1_count 24 = .ok (.iload_n 1, 1) := by decide +kernel
theorem dX1_count_25 : decode cX1_count 25 = .ok (.ireturn, 1) := by decide +kernel
set_option maxRecDepth 20000 in
theorem ggX1_countInPiece_X1_wordAt : GoodIn wsX1_countInPiece wsX1_wordAt := goodIn_r _ [5, 6, 14] (by decide +kernel) (by decide +kernel)
set_option maxRecDepth 20000 in
theorem gX1_countInPiece_X1_wordAt : GoodIn wsX1_countInPiece (wsV RX1 33 RX1 yX1_wordAt wsX1_wordAt) := goodIn_app (goodIn_of _ (by decide +kernel)) ggX1_countInPiece_X1_wordAt
set_option maxRecDepth 20000 in
theorem ggX1_countInPiece_J13_bitCount_95d88 : GoodIn wsX1_countInPiece wsJ13_bitCount_95d88 := goodIn_r _ [10, 11, 12, 13] (by decide +kernel) (by decide +kernel)
set_option maxRecDepth 20000 in
theorem gX1_countInPiece_J13_bitCount_95d88 : GoodIn wsX1_countInPiece (va_wsS RX1 58 yJ13_bitCount_95d88 wsJ13_bitCount_95d88) := goodIn_app (goodIn_of _ (by decide +kernel)) ggX1_countInPiece_J13_bitCount_95d88
theorem dX1_countInPiece_0 : decode cX1_countInPiece 0 = .ok (.iconst 0, 1) := by decide +kernel
theorem dX1_countInPiece_1 : decode cX1_countInPiece 1 = .ok (.istore_n 2, 1) := by decide +kernel
theorem dX1_countInPiece_2 : decode cX1_countInPiece 2 = .ok (.iconst 0, 1) := by decide +kernel
theorem dX1_countInPiece_3 : decode cX1_countInPiece 3 = .ok (.istore_n 3, 1) := by decide +kernel
theorem dX1_countInPiece_4 : decode cX1_countInPiece 4 = .ok (.iload_n 3, 1) := by decide +kernel
theorem dX1_countInPiece_5 : decode cX1_countInPiece 5 = .ok (.iconst 4, 1) := by decide +kernel
theorem dX1_countInPiece_6 : decode cX1_countInPiece 6 = .ok (.if_icmp .ge 24, 3) := by decide +kernel
theorem dX1_countInPiece_9 : decode cX1_countInPiece 9 = .ok (.iload_n 2, 1) := by decide +kernel
theorem dX1_countInPiece_10 : decode cX1_countInPiece 10 = .ok (.aload_n 0, 1) := by decide +kernel
theorem dX1_countInPiece_11 : decode cX1_countInPiece 11 = .ok (.iconst 4, 1) := by decide +kernel
theorem dX1_countInPiece_12 : decode cX1_countInPiece 12 = .ok (.iload_n 1, 1) := by decide +kernel
theorem dX1_countInPiece_13 : decode cX1_countInPiece 13 = .ok (.imul, 1) := by decide +kernel
theorem dX1_countInPiece_14 : decode cX1_countInPiece 14 = .ok (.iload_n 3, 1) := by decide +kernel
theorem dX1_countInPiece_15 : decode cX1_countInPiece 15 = .ok (.iadd, 1) := by decide +kernel
theorem dX1_countInPiece_16 : decode cX1_countInPiece 16 = .ok (.invokevirtual 33, 3) := by decide +kernel
theorem dX1_countInPiece_19 : decode cX1_countInPiece 19 = .ok (.invokestatic 58, 3) := by decide +kernel
theorem dX1_countInPiece_22 : decode cX1_countInPiece 22 = .ok (.iadd, 1) := by decide +kernel
theorem dX1_countInPiece_23 : decode cX1_countInPiece 23 = .ok (.istore_n 2, 1) := by decide +kernel
theorem dX1_countInPiece_24 : decode cX1_countInPiece 24 = .ok (.iinc 3 1, 3) := by decide +kernel
theorem dX1_countInPiece_27 : decode cX1_countInPiece 27 = .ok (.goto (-23), 3) := by decide +kernel
theorem dX1_countInPiece_30 : decode cX1_countInPiece 30 = .ok (.iload_n 2, 1) := by decide +kernel
theorem dX1_countInPiece_31 : decode cX1_countInPiece 31 = .ok (.ireturn, 1) := by decide +kernel
set_option maxRecDepth 20000 in
theorem ggX1_countIn_X1_mask : GoodIn wsX1_countIn wsX1_mask := goodIn_r _ [5, 6, 7, 8, 9, 10, 11, 12, 13] (by decide +kernel) (by decide +kernel)
set_option maxRecDepth 20000 in
theorem gX1_countIn_X1_mask : GoodIn wsX1_countIn (va_wsS RX1 41 yX1_mask wsX1_mask) := goodIn_app (goodIn_of _ (by decide +kernel)) ggX1_countIn_X1_mask
set_option maxRecDepth 20000 in
theorem ggX1_countIn_J13_bitCount_95d88 : GoodIn wsX1_countIn wsJ13_bitCount_95d88 := goodIn_r _ [17, 18, 19, 20] (by decide +kernel) (by decide +kernel)
set_option maxRecDepth 20000 in
theorem gX1_countIn_J13_bitCount_95d88 : GoodIn wsX1_countIn (va_wsS RX1 58 yJ13_bitCount_95d88 wsJ13_bitCount_95d88) := goodIn_app (goodIn_of _ (by decide +kernel)) ggX1_countIn_J13_bitCount_95d88
theorem dX1_countIn_0 : decode cX1_countIn 0 = .ok (.iconst 0, 1) := by decide +kernel
theorem dX1_countIn_1 : decode cX1_countIn 1 = .ok (.istore_n 3, 1) := by decide +kernel
theorem dX1_countIn_2 : decode cX1_countIn 2 = .ok (.iconst 0, 1) := by decide +kernel
theorem dX1_countIn_3 : decode cX1_countIn 3 = .ok (.istore 4, 2) := by decide +kernel
theorem dX1_countIn_5 : decode cX1_countIn 5 = .ok (.iload 4, 2) := by decide +kernel
theorem dX1_countIn_7 : decode cX1_countIn 7 = .ok (.bipush 64, 2) := by decide +kernel
theorem dX1_countIn_9 : decode cX1_countIn 9 = .ok (.if_icmp .ge 30, 3) := by decide +kernel
theorem dX1_countIn_12 : decode cX1_countIn 12 = .ok (.iload_n 3, 1) := by decide +kernel
theorem dX1_countIn_13 : decode cX1_countIn 13 = .ok (.aload_n 0, 1) := by decide +kernel
theorem dX1_countIn_14 : decode cX1_countIn 14 = .ok (.getfield 9, 3) := by decide +kernel
theorem dX1_countIn_17 : decode cX1_countIn 17 = .ok (.iload 4, 2) := by decide +kernel
theorem dX1_countIn_19 : decode cX1_countIn 19 = .ok (.laload, 1) := by decide +kernel
theorem dX1_countIn_20 : decode cX1_countIn 20 = .ok (.iload 4, 2) := by decide +kernel
theorem dX1_countIn_22 : decode cX1_countIn 22 = .ok (.iload_n 1, 1) := by decide +kernel
theorem dX1_countIn_23 : decode cX1_countIn 23 = .ok (.iload_n 2, 1) := by decide +kernel
theorem dX1_countIn_24 : decode cX1_countIn 24 = .ok (.invokestatic 41, 3) := by decide +kernel
theorem dX1_countIn_27 : decode cX1_countIn 27 = .ok (.land, 1) := by decide +kernel
theorem dX1_countIn_28 : decode cX1_countIn 28 = .ok (.invokestatic 58, 3) := by decide +kernel
theorem dX1_countIn_31 : decode cX1_countIn 31 = .ok (.iadd, 1) := by decide +kernel
theorem dX1_countIn_32 : decode cX1_countIn 32 = .ok (.istore_n 3, 1) := by decide +kernel
theorem dX1_countIn_33 : decode cX1_countIn 33 = .ok (.iinc 4 1, 3) := by decide +kernel
theorem dX1_countIn_36 : decode cX1_countIn 36 = .ok (.goto (-31), 3) := by decide +kernel
theorem dX1_countIn_39 : decode cX1_countIn 39 = .ok (.iload_n 3, 1) := by decide +kernel
theorem dX1_countIn_40 : decode cX1_countIn 40 = .ok (.ireturn, 1) := by decide +kernel
set_option maxRecDepth 20000 in
theorem ggX1_countRuns_X1_wordAt : GoodIn wsX1_countRuns wsX1_wordAt := goodIn_r _ [6, 7, 15] (by decide +kernel) (by decide +kernel)
set_option maxRecDepth 20000 in
theorem gX1_countRuns_X1_wordAt : GoodIn wsX1_countRuns (wsV RX1 33 RX1 yX1_wordAt wsX1_wordAt) := goodIn_app (goodIn_of _ (by decide +kernel)) ggX1_countRuns_X1_wordAt
set_option maxRecDepth 20000 in
theorem ggX1_countRuns_J13_bitCount_95d88 : GoodIn wsX1_countRuns wsJ13_bitCount_95d88 := goodIn_r _ [11, 12, 13, 14] (by decide +kernel) (by decide +kernel)
set_option maxRecDepth 20000 in
theorem gX1_countRuns_J13_bitCount_95d88 : GoodIn wsX1_countRuns (va_wsS RX1 58 yJ13_bitCount_95d88 wsJ13_bitCount_95d88) := goodIn_app (goodIn_of _ (by decide +kernel)) ggX1_countRuns_J13_bitCount_95d88
theorem dX1_countRuns_0 : decode cX1_countRuns 0 = .ok (.iconst 0, 1) := by decide +kernel
theorem dX1_countRuns_1 : decode cX1_countRuns 1 = .ok (.istore_n 3, 1) := by decide +kernel
theorem dX1_countRuns_2 : decode cX1_countRuns 2 = .ok (.lconst 0, 1) := by decide +kernel
theorem dX1_countRuns_3 : decode cX1_countRuns 3 = .ok (.lstore 4, 2) := by decide +kernel
theorem dX1_countRuns_5 : decode cX1_countRuns 5 = .ok (.iconst 0, 1) := by decide +kernel
theorem dX1_countRuns_6 : decode cX1_countRuns 6 = .ok (.istore 6, 2) := by decide +kernel
theorem dX1_countRuns_8 : decode cX1_countRuns 8 = .ok (.iload 6, 2) := by decide +kernel
theorem dX1_countRuns_10 : decode cX1_countRuns 10 = .ok (.iconst 4, 1) := by decide +kernel
theorem dX1_countRuns_11 : decode cX1_countRuns 11 = .ok (.iload_n 2, 1) := by decide +kernel
theorem dX1_countRuns_12 : decode cX1_countRuns 12 = .ok (.imul, 1) := by decide +kernel
theorem dX1_countRuns_13 : decode cX1_countRuns 13 = .ok (.if_icmp .ge 48, 3) := by decide +kernel
theorem dX1_countRuns_16 : decode cX1_countRuns 16 = .ok (.aload_n 0, 1) := by decide +kernel
theorem dX1_countRuns_17 : decode cX1_countRuns 17 = .ok (.iconst 4, 1) := by decide +kernel
theorem dX1_countRuns_18 : decode cX1_countRuns 18 = .ok (.iload_n 1, 1) := by decide +kernel
theorem dX1_countRuns_19 : decode cX1_countRuns 19 = .ok (.imul, 1) := by decide +kernel
theorem dX1_countRuns_20 : decode cX1_countRuns 20 = .ok (.iload 6, 2) := by decide +kernel
theorem dX1_countRuns_22 : decode cX1_countRuns 22 = .ok (.iadd, 1) := by decide +kernel
theorem dX1_countRuns_23 : decode cX1_countRuns 23 = .ok (.invokevirtual 33, 3) := by decide +kernel
theorem dX1_countRuns_26 : decode cX1_countRuns 26 = .ok (.lstore 7, 2) := by decide +kernel
theorem dX1_countRuns_28 : decode cX1_countRuns 28 = .ok (.iload_n 3, 1) := by decide +kernel
theorem dX1_countRuns_29 : decode cX1_countRuns 29 = .ok (.lload 7, 2) := by decide +kernel
theorem dX1_countRuns_31 : decode cX1_countRuns 31 = .ok (.lload 7, 2) := by decide +kernel
theorem dX1_countRuns_33 : decode cX1_countRuns 33 = .ok (.iconst 1, 1) := by decide +kernel
theorem dX1_countRuns_34 : decode cX1_countRuns 34 = .ok (.lshl, 1) := by decide +kernel
theorem dX1_countRuns_35 : decode cX1_countRuns 35 = .ok (.lload 4, 2) := by decide +kernel
theorem dX1_countRuns_37 : decode cX1_countRuns 37 = .ok (.lor, 1) := by decide +kernel
theorem dX1_countRuns_38 : decode cX1_countRuns 38 = .ok (.ldc2_w 31, 3) := by decide +kernel
theorem dX1_countRuns_41 : decode cX1_countRuns 41 = .ok (.lxor, 1) := by decide +kernel
theorem dX1_countRuns_42 : decode cX1_countRuns 42 = .ok (.land, 1) := by decide +kernel
theorem dX1_countRuns_43 : decode cX1_countRuns 43 = .ok (.invokestatic 58, 3) := by decide +kernel
theorem dX1_countRuns_46 : decode cX1_countRuns 46 = .ok (.iadd, 1) := by decide +kernel
theorem dX1_countRuns_47 : decode cX1_countRuns 47 = .ok (.istore_n 3, 1) := by decide +kernel
theorem dX1_countRuns_48 : decode cX1_countRuns 48 = .ok (.lload 7, 2) := by decide +kernel
theorem dX1_countRuns_50 : decode cX1_countRuns 50 = .ok (.bipush 63, 2) := by decide +kernel
theorem dX1_countRuns_52 : decode cX1_countRuns 52 = .ok (.lushr, 1) := by decide +kernel
theorem dX1_countRuns_53 : decode cX1_countRuns 53 = .ok (.lstore 4, 2) := by decide +kernel
theorem dX1_countRuns_55 : decode cX1_countRuns 55 = .ok (.iinc 6 1, 3) := by decide +kernel
theorem dX1_countRuns_58 : decode cX1_countRuns 58 = .ok (.goto (-50), 3) := by decide +kernel
theorem dX1_countRuns_61 : decode cX1_countRuns 61 = .ok (.iload_n 3, 1) := by decide +kernel
theorem dX1_countRuns_62 : decode cX1_countRuns 62 = .ok (.ireturn, 1) := by decide +kernel
set_option maxRecDepth 20000 in
theorem ggX1_nth_J13_bitCount_95d88 : GoodIn wsX1_nth wsJ13_bitCount_95d88 := goodIn_r _ [5, 6, 7, 8] (by decide +kernel) (by decide +kernel)
set_option maxRecDepth 20000 in
theorem gX1_nth_J13_bitCount_95d88 : GoodIn wsX1_nth (va_wsS RX1 58 yJ13_bitCount_95d88 wsJ13_bitCount_95d88) := goodIn_app (goodIn_of _ (by decide +kernel)) ggX1_nth_J13_bitCount_95d88
set_option maxRecDepth 20000 in
theorem ggX1_nth_X1_nthBit : GoodIn wsX1_nth wsX1_nthBit := goodIn_r _ [12] (by decide +kernel) (by decide +kernel)
set_option maxRecDepth 20000 in
theorem gX1_nth_X1_nthBit : GoodIn wsX1_nth (va_wsS RX1 64 yX1_nthBit wsX1_nthBit) := goodIn_app (goodIn_of _ (by decide +kernel)) ggX1_nth_X1_nthBit
theorem dX1_nth_0 : decode cX1_nth 0 = .ok (.iload_n 1, 1) := by decide +kernel
theorem dX1_nth_1 : decode cX1_nth 1 = .ok (.ifCond .ge 6, 3) := by decide +kernel
theorem dX1_nth_4 : decode cX1_nth 4 = .ok (.bipush (-9), 2) := by decide +kernel
theorem dX1_nth_6 : decode cX1_nth 6 = .ok (.ireturn, 1) := by decide +kernel
theorem dX1_nth_7 : decode cX1_nth 7 = .ok (.iload_n 1, 1) := by decide +kernel
theorem dX1_nth_8 : decode cX1_nth 8 = .ok (.istore_n 2, 1) := by decide +kernel
theorem dX1_nth_9 : decode cX1_nth 9 = .ok (.iconst 0, 1) := by decide +kernel
theorem dX1_nth_10 : decode cX1_nth 10 = .ok (.istore_n 3, 1) := by decide +kernel
theorem dX1_nth_11 : decode cX1_nth 11 = .ok (.iload_n 3, 1) := by decide +kernel
theorem dX1_nth_12 : decode cX1_nth 12 = .ok (.bipush 64, 2) := by decide +kernel
theorem dX1_nth_14 : decode cX1_nth 14 = .ok (.if_icmp .ge 47, 3) := by decide +kernel
theorem dX1_nth_17 : decode cX1_nth 17 = .ok (.aload_n 0, 1) := by decide +kernel
theorem dX1_nth_18 : decode cX1_nth 18 = .ok (.getfield 9, 3) := by decide +kernel
theorem dX1_nth_21 : decode cX1_nth 21 = .ok (.iload_n 3, 1) := by decide +kernel
theorem dX1_nth_22 : decode cX1_nth 22 = .ok (.laload, 1) := by decide +kernel
theorem dX1_nth_23 : decode cX1_nth 23 = .ok (.invokestatic 58, 3) := by decide +kernel
theorem dX1_nth_26 : decode cX1_nth 26 = .ok (.istore 4, 2) := by decide +kernel
theorem dX1_nth_28 : decode cX1_nth 28 = .ok (.iload_n 2, 1) := by decide +kernel
theorem dX1_nth_29 : decode cX1_nth 29 = .ok (.iload 4, 2) := by decide +kernel
theorem dX1_nth_31 : decode cX1_nth 31 = .ok (.if_icmp .ge 19, 3) := by decide +kernel
theorem dX1_nth_34 : decode cX1_nth 34 = .ok (.bipush 64, 2) := by decide +kernel
theorem dX1_nth_36 : decode cX1_nth 36 = .ok (.iload_n 3, 1) := by decide +kernel
theorem dX1_nth_37 : decode cX1_nth 37 = .ok (.imul, 1) := by decide +kernel
theorem dX1_nth_38 : decode cX1_nth 38 = .ok (.aload_n 0, 1) := by decide +kernel
theorem dX1_nth_39 : decode cX1_nth 39 = .ok (.getfield 9, 3) := by decide +kernel
theorem dX1_nth_42 : decode cX1_nth 42 = .ok (.iload_n 3, 1) := by decide +kernel
theorem dX1_nth_43 : decode cX1_nth 43 = .ok (.laload, 1) := by decide +kernel
theorem dX1_nth_44 : decode cX1_nth 44 = .ok (.iload_n 2, 1) := by decide +kernel
theorem dX1_nth_45 : decode cX1_nth 45 = .ok (.invokestatic 64, 3) := by decide +kernel
theorem dX1_nth_48 : decode cX1_nth 48 = .ok (.iadd, 1) := by decide +kernel
theorem dX1_nth_49 : decode cX1_nth 49 = .ok (.ireturn, 1) := by decide +kernel
theorem dX1_nth_50 : decode cX1_nth 50 = .ok (.iload_n 2, 1) := by decide +kernel
theorem dX1_nth_51 : decode cX1_nth 51 = .ok (.iload 4, 2) := by decide +kernel
theorem dX1_nth_53 : decode cX1_nth 53 = .ok (.isub, 1) := by decide +kernel
theorem dX1_nth_54 : decode cX1_nth 54 = .ok (.istore_n 2, 1) := by decide +kernel
theorem dX1_nth_55 : decode cX1_nth 55 = .ok (.iinc 3 1, 3) := by decide +kernel
theorem dX1_nth_58 : decode cX1_nth 58 = .ok (.goto (-47), 3) := by decide +kernel
theorem dX1_nth_61 : decode cX1_nth 61 = .ok (.bipush (-9), 2) := by decide +kernel
theorem dX1_nth_63 : decode cX1_nth 63 = .ok (.ireturn, 1) := by decide +kernel
end
section
theorem dX1_nthBit_0 : decode cX1_nthBit 0 = .ok (.iload_n 2, 1) := by decide +kernel
theorem dX1_nthBit_1 : decode cX1_nthBit 1 = .ok (.istore_n 3, 1) := by decide +kernel
theorem dX1_nthBit_2 : decode cX1_nthBit 2 = .ok (.iconst 0, 1) := by decide +kernel
theorem dX1_nthBit_3 : decode cX1_nthBit 3 = .ok (.istore 4, 2) := by decide +kernel
theorem dX1_nthBit_5 : decode cX1_nthBit 5 = .ok (.iload 4, 2) := by decide +kernel
theorem dX1_nthBit_7 : decode cX1_nthBit 7 = .ok (.bipush 64, 2) := by decide +kernel
theorem dX1_nthBit_9 : decode cX1_nthBit 9 = .ok (.if_icmp .ge 30, 3) := by decide +kernel
theorem dX1_nthBit_12 : decode cX1_nthBit 12 = .ok (.lload_n 0, 1) := by decide +kernel
theorem dX1_nthBit_13 : decode cX1_nthBit 13 = .ok (.iload 4, 2) := by decide +kernel
theorem dX1_nthBit_15 : decode cX1_nthBit 15 = .ok (.lushr, 1) := by decide +kernel
theorem dX1_nthBit_16 : decode cX1_nthBit 16 = .ok (.lconst 1, 1) := by decide +kernel
theorem dX1_nthBit_17 : decode cX1_nthBit 17 = .ok (.land, 1) := by decide +kernel
theorem dX1_nthBit_18 : decode cX1_nthBit 18 = .ok (.lconst 0, 1) := by decide +kernel
theorem dX1_nthBit_19 : decode cX1_nthBit 19 = .ok (.lcmp, 1) := by decide +kernel
theorem dX1_nthBit_20 : decode cX1_nthBit 20 = .ok (.ifCond .eq 13, 3) := by decide +kernel
theorem dX1_nthBit_23 : decode cX1_nthBit 23 = .ok (.iload_n 3, 1) := by decide +kernel
theorem dX1_nthBit_24 : decode cX1_nthBit 24 = .ok (.ifCond .ne 6, 3) := by decide +kernel
theorem dX1_nthBit_27 : decode cX1_nthBit 27 = .ok (.iload 4, 2) := by decide +kernel
theorem dX1_nthBit_29 : decode cX1_nthBit 29 = .ok (.ireturn, 1) := by decide +kernel
theorem dX1_nthBit_30 : decode cX1_nthBit 30 = .ok (.iinc 3 (-1), 3) := by decide +kernel
theorem dX1_nthBit_33 : decode cX1_nthBit 33 = .ok (.iinc 4 1, 3) := by decide +kernel
theorem dX1_nthBit_36 : decode cX1_nthBit 36 = .ok (.goto (-31), 3) := by decide +kernel
theorem dX1_nthBit_39 : decode cX1_nthBit 39 = .ok (.bipush (-9), 2) := by decide +kernel
theorem dX1_nthBit_41 : decode cX1_nthBit 41 = .ok (.ireturn, 1) := by decide +kernel
set_option maxRecDepth 20000 in
theorem ggX1_kindOf_X1_countInPiece : GoodIn wsX1_kindOf wsX1_countInPiece := goodIn_r _ [5, 6, 7, 8, 4, 9, 10, 11, 12, 13, 14, 15, 16, 17, 23] (by decide +kernel) (by decide +kernel)
set_option maxRecDepth 20000 in
theorem gX1_kindOf_X1_countInPiece : GoodIn wsX1_kindOf (wsV RX1 54 RX1 yX1_countInPiece wsX1_countInPiece) := goodIn_app (goodIn_of _ (by decide +kernel)) ggX1_kindOf_X1_countInPiece
set_option maxRecDepth 20000 in
theorem ggX1_kindOf_X1_countRuns : GoodIn wsX1_kindOf wsX1_countRuns := goodIn_r _ [21, 22, 6, 7, 8, 4, 9, 10, 11, 12, 13, 14, 15, 16, 17, 23] (by decide +kernel) (by decide +kernel)
set_option maxRecDepth 20000 in
theorem gX1_kindOf_X1_countRuns : GoodIn wsX1_kindOf (wsV RX1 68 RX1 yX1_countRuns wsX1_countRuns) := goodIn_app (goodIn_of _ (by decide +kernel)) ggX1_kindOf_X1_countRuns
theorem dX1_kindOf_0 : decode cX1_kindOf 0 = .ok (.aload_n 0, 1) := by decide +kernel
theorem dX1_kindOf_1 : decode cX1_kindOf 1 = .ok (.iload_n 1, 1) := by decide +kernel
theorem dX1_kindOf_2 : decode cX1_kindOf 2 = .ok (.invokevirtual 54, 3) := by decide +kernel
theorem dX1_kindOf_5 : decode cX1_kindOf 5 = .ok (.istore_n 2, 1) := by decide +kernel
theorem dX1_kindOf_6 : decode cX1_kindOf 6 = .ok (.iload_n 2, 1) := by decide +kernel
theorem dX1_kindOf_7 : decode cX1_kindOf 7 = .ok (.ifCond .ne 6, 3) := by decide +kernel
theorem dX1_kindOf_10 : decode cX1_kindOf 10 = .ok (.bipush (-9), 2) := by decide +kernel
theorem dX1_kindOf_12 : decode cX1_kindOf 12 = .ok (.ireturn, 1) := by decide +kernel
theorem dX1_kindOf_13 : decode cX1_kindOf 13 = .ok (.iconst 2, 1) := by decide +kernel
theorem dX1_kindOf_14 : decode cX1_kindOf 14 = .ok (.iload_n 2, 1) := by decide +kernel
theorem dX1_kindOf_15 : decode cX1_kindOf 15 = .ok (.iadd, 1) := by decide +kernel
theorem dX1_kindOf_16 : decode cX1_kindOf 16 = .ok (.istore_n 3, 1) := by decide +kernel
theorem dX1_kindOf_17 : decode cX1_kindOf 17 = .ok (.iconst 2, 1) := by decide +kernel
theorem dX1_kindOf_18 : decode cX1_kindOf 18 = .ok (.iconst 2, 1) := by decide +kernel
theorem dX1_kindOf_19 : decode cX1_kindOf 19 = .ok (.aload_n 0, 1) := by decide +kernel
theorem dX1_kindOf_20 : decode cX1_kindOf 20 = .ok (.iload_n 1, 1) := by decide +kernel
theorem dX1_kindOf_21 : decode cX1_kindOf 21 = .ok (.iconst 1, 1) := by decide +kernel
theorem dX1_kindOf_22 : decode cX1_kindOf 22 = .ok (.invokevirtual 68, 3) := by decide +kernel
theorem dX1_kindOf_25 : decode cX1_kindOf 25 = .ok (.imul, 1) := by decide +kernel
theorem dX1_kindOf_26 : decode cX1_kindOf 26 = .ok (.iadd, 1) := by decide +kernel
theorem dX1_kindOf_27 : decode cX1_kindOf 27 = .ok (.istore 4, 2) := by decide +kernel
theorem dX1_kindOf_29 : decode cX1_kindOf 29 = .ok (.iload_n 3, 1) := by decide +kernel
theorem dX1_kindOf_30 : decode cX1_kindOf 30 = .ok (.iload 4, 2) := by decide +kernel
theorem dX1_kindOf_32 : decode cX1_kindOf 32 = .ok (.if_icmp .gt 11, 3) := by decide +kernel
theorem dX1_kindOf_35 : decode cX1_kindOf 35 = .ok (.iload_n 3, 1) := by decide +kernel
theorem dX1_kindOf_36 : decode cX1_kindOf 36 = .ok (.bipush 33, 2) := by decide +kernel
theorem dX1_kindOf_38 : decode cX1_kindOf 38 = .ok (.if_icmp .gt 5, 3) := by decide +kernel
theorem dX1_kindOf_41 : decode cX1_kindOf 41 = .ok (.iconst 0, 1) := by decide +kernel
theorem dX1_kindOf_42 : decode cX1_kindOf 42 = .ok (.ireturn, 1) := by decide +kernel
theorem dX1_kindOf_43 : decode cX1_kindOf 43 = .ok (.iload 4, 2) := by decide +kernel
theorem dX1_kindOf_45 : decode cX1_kindOf 45 = .ok (.bipush 33, 2) := by decide +kernel
theorem dX1_kindOf_47 : decode cX1_kindOf 47 = .ok (.if_icmp .gt 7, 3) := by decide +kernel
theorem dX1_kindOf_50 : decode cX1_kindOf 50 = .ok (.iconst 1, 1) := by decide +kernel
theorem dX1_kindOf_51 : decode cX1_kindOf 51 = .ok (.goto 4, 3) := by decide +kernel
theorem dX1_kindOf_54 : decode cX1_kindOf 54 = .ok (.iconst 2, 1) := by decide +kernel
theorem dX1_kindOf_55 : decode cX1_kindOf 55 = .ok (.ireturn, 1) := by decide +kernel
set_option maxRecDepth 20000 in
theorem ggX1_costOf_X1_kindOf : GoodIn wsX1_costOf wsX1_kindOf := goodIn_r _ [5, 6, 7, 8, 4, 9, 10, 11, 12, 13, 14, 15, 16, 17, 18, 19, 20, 21, 22, 23, 24, 25, 26, 27] (by decide +kernel) (by decide +kernel)
set_option maxRecDepth 20000 in
theorem gX1_costOf_X1_kindOf : GoodIn wsX1_costOf (wsV RX1 71 RX1 yX1_kindOf wsX1_kindOf) := goodIn_app (goodIn_of _ (by decide +kernel)) ggX1_costOf_X1_kindOf
set_option maxRecDepth 20000 in
theorem ggX1_costOf_X1_countInPiece : GoodIn wsX1_costOf wsX1_countInPiece := goodIn_r _ [9, 10, 11, 12, 4, 13, 14, 15, 16, 17, 18, 19, 20, 21, 27] (by decide +kernel) (by decide +kernel)
set_option maxRecDepth 20000 in
theorem gX1_costOf_X1_countInPiece : GoodIn wsX1_costOf (wsV RX1 54 RX1 yX1_countInPiece wsX1_countInPiece) := goodIn_app (goodIn_of _ (by decide +kernel)) ggX1_costOf_X1_countInPiece
set_option maxRecDepth 20000 in
theorem ggX1_costOf_X1_countRuns : GoodIn wsX1_costOf wsX1_countRuns := goodIn_r _ [25, 26, 10, 11, 12, 4, 13, 14, 15, 16, 17, 18, 19, 20, 21, 27] (by decide +kernel) (by decide +kernel)
set_option maxRecDepth 20000 in
theorem gX1_costOf_X1_countRuns : GoodIn wsX1_costOf (wsV RX1 68 RX1 yX1_countRuns wsX1_countRuns) := goodIn_app (goodIn_of _ (by decide +kernel)) ggX1_costOf_X1_countRuns
theorem dX1_costOf_0 : decode cX1_costOf 0 = .ok (.aload_n 0, 1) := by decide +kernel
theorem dX1_costOf_1 : decode cX1_costOf 1 = .ok (.iload_n 1, 1) := by decide +kernel
theorem dX1_costOf_2 : decode cX1_costOf 2 = .ok (.invokevirtual 71, 3) := by decide +kernel
theorem dX1_costOf_5 : decode cX1_costOf 5 = .ok (.tableswitch 49 0 2 #[27, 35, 46], 27) := by decide +kernel
theorem dX1_costOf_32 : decode cX1_costOf 32 = .ok (.iconst 2, 1) := by decide +kernel
theorem dX1_costOf_33 : decode cX1_costOf 33 = .ok (.aload_n 0, 1) := by decide +kernel
theorem dX1_costOf_34 : decode cX1_costOf 34 = .ok (.iload_n 1, 1) := by decide +kernel
theorem dX1_costOf_35 : decode cX1_costOf 35 = .ok (.invokevirtual 54, 3) := by decide +kernel
theorem dX1_costOf_38 : decode cX1_costOf 38 = .ok (.iadd, 1) := by decide +kernel
theorem dX1_costOf_39 : decode cX1_costOf 39 = .ok (.ireturn, 1) := by decide +kernel
theorem dX1_costOf_40 : decode cX1_costOf 40 = .ok (.iconst 2, 1) := by decide +kernel
theorem dX1_costOf_41 : decode cX1_costOf 41 = .ok (.iconst 2, 1) := by decide +kernel
theorem dX1_costOf_42 : decode cX1_costOf 42 = .ok (.aload_n 0, 1) := by decide +kernel
theorem dX1_costOf_43 : decode cX1_costOf 43 = .ok (.iload_n 1, 1) := by decide +kernel
theorem dX1_costOf_44 : decode cX1_costOf 44 = .ok (.iconst 1, 1) := by decide +kernel
theorem dX1_costOf_45 : decode cX1_costOf 45 = .ok (.invokevirtual 68, 3) := by decide +kernel
theorem dX1_costOf_48 : decode cX1_costOf 48 = .ok (.imul, 1) := by decide +kernel
theorem dX1_costOf_49 : decode cX1_costOf 49 = .ok (.iadd, 1) := by decide +kernel
theorem dX1_costOf_50 : decode cX1_costOf 50 = .ok (.ireturn, 1) := by decide +kernel
theorem dX1_costOf_51 : decode cX1_costOf 51 = .ok (.bipush 33, 2) := by decide +kernel
theorem dX1_costOf_53 : decode cX1_costOf 53 = .ok (.ireturn, 1) := by decide +kernel
theorem dX1_costOf_54 : decode cX1_costOf 54 = .ok (.iconst 0, 1) := by decide +kernel
theorem dX1_costOf_55 : decode cX1_costOf 55 = .ok (.ireturn, 1) := by decide +kernel
set_option maxRecDepth 20000 in
theorem ggX1_detail_X1_kindOf : GoodIn wsX1_detail wsX1_kindOf := goodIn_r _ [5, 6, 7, 8, 4, 9, 10, 11, 12, 13, 14, 15, 16, 17, 18, 19, 20, 21, 22, 23, 24, 25, 26, 31] (by decide +kernel) (by decide +kernel)
set_option maxRecDepth 20000 in
theorem gX1_detail_X1_kindOf : GoodIn wsX1_detail (wsV RX1 71 RX1 yX1_kindOf wsX1_kindOf) := goodIn_app (goodIn_of _ (by decide +kernel)) ggX1_detail_X1_kindOf
set_option maxRecDepth 20000 in
theorem ggX1_detail_X1_countInPiece : GoodIn wsX1_detail wsX1_countInPiece := goodIn_r _ [9, 10, 11, 12, 4, 13, 14, 15, 16, 17, 18, 19, 20, 21, 31] (by decide +kernel) (by decide +kernel)
set_option maxRecDepth 20000 in
theorem gX1_detail_X1_countInPiece : GoodIn wsX1_detail (wsV RX1 54 RX1 yX1_countInPiece wsX1_countInPiece) := goodIn_app (goodIn_of _ (by decide +kernel)) ggX1_detail_X1_countInPiece
set_option maxRecDepth 20000 in
theorem ggX1_detail_X1_countRuns : GoodIn wsX1_detail wsX1_countRuns := goodIn_r _ [25, 26, 10, 11, 12, 4, 13, 14, 15, 16, 17, 18, 19, 20, 21, 31] (by decide +kernel) (by decide +kernel)
set_option maxRecDepth 20000 in
theorem gX1_detail_X1_countRuns : GoodIn wsX1_detail (wsV RX1 68 RX1 yX1_countRuns wsX1_countRuns) := goodIn_app (goodIn_of _ (by decide +kernel)) ggX1_detail_X1_countRuns
set_option maxRecDepth 20000 in
theorem ggX1_detail_X1_costOf : GoodIn wsX1_detail wsX1_costOf := goodIn_r _ [30, 1, 2, 3, 4, 5, 6, 7, 8, 9, 10, 11, 12, 13, 14, 15, 16, 17, 18, 19, 20, 21, 22, 23, 24, 25, 26, 31] (by decide +kernel) (by decide +kernel)
set_option maxRecDepth 20000 in
theorem gX1_detail_X1_costOf : GoodIn wsX1_detail (wsV RX1 74 RX1 yX1_costOf wsX1_costOf) := goodIn_app (goodIn_of _ (by decide +kernel)) ggX1_detail_X1_costOf
theorem dX1_detail_0 : decode cX1_detail 0 = .ok (.iload_n 2, 1) := by decide +kernel
theorem dX1_detail_1 : decode cX1_detail 1 = .ok (.tableswitch 56 0 3 #[31, 37, 43, 50], 31) := by decide +kernel
theorem dX1_detail_32 : decode cX1_detail 32 = .ok (.aload_n 0, 1) := by decide +kernel
theorem dX1_detail_33 : decode cX1_detail 33 = .ok (.iload_n 1, 1) := by decide +kernel
theorem dX1_detail_34 : decode cX1_detail 34 = .ok (.invokevirtual 71, 3) := by decide +kernel
theorem dX1_detail_37 : decode cX1_detail 37 = .ok (.ireturn, 1) := by decide +kernel
theorem dX1_detail_38 : decode cX1_detail 38 = .ok (.aload_n 0, 1) := by decide +kernel
theorem dX1_detail_39 : decode cX1_detail 39 = .ok (.iload_n 1, 1) := by decide +kernel
theorem dX1_detail_40 : decode cX1_detail 40 = .ok (.invokevirtual 54, 3) := by decide +kernel
theorem dX1_detail_43 : decode cX1_detail 43 = .ok (.ireturn, 1) := by decide +kernel
theorem dX1_detail_44 : decode cX1_detail 44 = .ok (.aload_n 0, 1) := by decide +kernel
theorem dX1_detail_45 : decode cX1_detail 45 = .ok (.iload_n 1, 1) := by decide +kernel
theorem dX1_detail_46 : decode cX1_detail 46 = .ok (.iconst 1, 1) := by decide +kernel
theorem dX1_detail_47 : decode cX1_detail 47 = .ok (.invokevirtual 68, 3) := by decide +kernel
theorem dX1_detail_50 : decode cX1_detail 50 = .ok (.ireturn, 1) := by decide +kernel
theorem dX1_detail_51 : decode cX1_detail 51 = .ok (.aload_n 0, 1) := by decide +kernel
theorem dX1_detail_52 : decode cX1_detail 52 = .ok (.iload_n 1, 1) := by decide +kernel
theorem dX1_detail_53 : decode cX1_detail 53 = .ok (.invokevirtual 74, 3) := by decide +kernel
theorem dX1_detail_56 : decode cX1_detail 56 = .ok (.ireturn, 1) := by decide +kernel
theorem dX1_detail_57 : decode cX1_detail 57 = .ok (.iconst (-1), 1) := by decide +kernel
theorem dX1_detail_58 : decode cX1_detail 58 = .ok (.ireturn, 1) := by decide +kernel
set_option maxRecDepth 20000 in
theorem ggX1_writtenByte_X1_kindOf : GoodIn wsX1_writtenByte wsX1_kindOf := goodIn_r _ [5, 6, 7, 8, 4, 9, 10, 11, 12, 13, 14, 15, 16, 17, 18, 19, 20, 21, 22, 23, 24, 25, 26, 68] (by decide +kernel) (by decide +kernel)
set_option maxRecDepth 20000 in
theorem gX1_writtenByte_X1_kindOf : GoodIn wsX1_writtenByte (wsV RX1 71 RX1 yX1_kindOf wsX1_kindOf) := goodIn_app (goodIn_of _ (by decide +kernel)) ggX1_writtenByte_X1_kindOf
set_option maxRecDepth 20000 in
theorem ggX1_writtenByte_X1_bitmapByte : GoodIn wsX1_writtenByte wsX1_bitmapByte := goodIn_r _ [30, 31, 10, 11, 12, 4, 13, 14, 68] (by decide +kernel) (by decide +kernel)
set_option maxRecDepth 20000 in
theorem gX1_writtenByte_X1_bitmapByte : GoodIn wsX1_writtenByte (wsV RX1 77 RX1 yX1_bitmapByte wsX1_bitmapByte) := goodIn_app (goodIn_of _ (by decide +kernel)) ggX1_writtenByte_X1_bitmapByte
set_option maxRecDepth 20000 in
theorem ggX1_writtenByte_X1_countInPiece : GoodIn wsX1_writtenByte wsX1_countInPiece := goodIn_r _ [9, 10, 11, 12, 4, 13, 14, 15, 16, 17, 18, 19, 20, 21, 68] (by decide +kernel) (by decide +kernel)
set_option maxRecDepth 20000 in
theorem gX1_writtenByte_X1_countInPiece : GoodIn wsX1_writtenByte (wsV RX1 54 RX1 yX1_countInPiece wsX1_countInPiece) := goodIn_app (goodIn_of _ (by decide +kernel)) ggX1_writtenByte_X1_countInPiece
set_option maxRecDepth 20000 in
theorem ggX1_writtenByte_X1_countRuns : GoodIn wsX1_writtenByte wsX1_countRuns := goodIn_r _ [25, 26, 10, 11, 12, 4, 13, 14, 15, 16, 17, 18, 19, 20, 21, 68] (by decide +kernel) (by decide +kernel)
set_option maxRecDepth 20000 in
theorem gX1_writtenByte_X1_countRuns : GoodIn wsX1_writtenByte (wsV RX1 68 RX1 yX1_countRuns wsX1_countRuns) := goodIn_app (goodIn_of _ (by decide +kernel)) ggX1_writtenByte_X1_countRuns
set_option maxRecDepth 20000 in
theorem ggX1_writtenByte_X1_nthPlace : GoodIn wsX1_writtenByte wsX1_nthPlace := goodIn_r _ [35, 36, 37, 38, 4, 39, 14, 40, 41, 42, 43, 44, 45, 46, 47, 48, 49, 26, 15, 16, 17, 18, 19, 20, 21, 50, 51, 52, 53, 54, 55, 56, 68] (by decide +kernel) (by decide +kernel)
set_option maxRecDepth 20000 in
theorem gX1_writtenByte_X1_nthPlace : GoodIn wsX1_writtenByte (wsV RX1 80 RX1 yX1_nthPlace wsX1_nthPlace) := goodIn_app (goodIn_of _ (by decide +kernel)) ggX1_writtenByte_X1_nthPlace
set_option maxRecDepth 20000 in
theorem ggX1_writtenByte_X1_nthBorder : GoodIn wsX1_writtenByte wsX1_nthBorder := goodIn_r _ [60, 61, 62, 63, 4, 64, 14, 65, 66, 67, 68] (by decide +kernel) (by decide +kernel)
set_option maxRecDepth 20000 in
theorem gX1_writtenByte_X1_nthBorder : GoodIn wsX1_writtenByte (wsV RX1 83 RX1 yX1_nthBorder wsX1_nthBorder) := goodIn_app (goodIn_of _ (by decide +kernel)) ggX1_writtenByte_X1_nthBorder
theorem dX1_writtenByte_0 : decode cX1_writtenByte 0 = .ok (.aload_n 0, 1) := by decide +kernel
theorem dX1_writtenByte_1 : decode cX1_writtenByte 1 = .ok (.iload_n 1, 1) := by decide +kernel
theorem dX1_writtenByte_2 : decode cX1_writtenByte 2 = .ok (.invokevirtual 71, 3) := by decide +kernel
theorem dX1_writtenByte_5 : decode cX1_writtenByte 5 = .ok (.istore_n 3, 1) := by decide +kernel
theorem dX1_writtenByte_6 : decode cX1_writtenByte 6 = .ok (.iload_n 2, 1) := by decide +kernel
theorem dX1_writtenByte_7 : decode cX1_writtenByte 7 = .ok (.ifCond .ne 9, 3) := by decide +kernel
theorem dX1_writtenByte_10 : decode cX1_writtenByte 10 = .ok (.iconst 4, 1) := by decide +kernel
theorem dX1_writtenByte_11 : decode cX1_writtenByte 11 = .ok (.iload_n 1, 1) := by decide +kernel
theorem dX1_writtenByte_12 : decode cX1_writtenByte 12 = .ok (.imul, 1) := by decide +kernel
theorem dX1_writtenByte_13 : decode cX1_writtenByte 13 = .ok (.iload_n 3, 1) := by decide +kernel
theorem dX1_writtenByte_14 : decode cX1_writtenByte 14 = .ok (.iadd, 1) := by decide +kernel
theorem dX1_writtenByte_15 : decode cX1_writtenByte 15 = .ok (.ireturn, 1) := by decide +kernel
theorem dX1_writtenByte_16 : decode cX1_writtenByte 16 = .ok (.iload_n 3, 1) := by decide +kernel
theorem dX1_writtenByte_17 : decode cX1_writtenByte 17 = .ok (.iconst 2, 1) := by decide +kernel
theorem dX1_writtenByte_18 : decode cX1_writtenByte 18 = .ok (.if_icmp .ne 12, 3) := by decide +kernel
theorem dX1_writtenByte_21 : decode cX1_writtenByte 21 = .ok (.aload_n 0, 1) := by decide +kernel
theorem dX1_writtenByte_22 : decode cX1_writtenByte 22 = .ok (.iload_n 1, 1) := by decide +kernel
theorem dX1_writtenByte_23 : decode cX1_writtenByte 23 = .ok (.iload_n 2, 1) := by decide +kernel
theorem dX1_writtenByte_24 : decode cX1_writtenByte 24 = .ok (.iconst 1, 1) := by decide +kernel
theorem dX1_writtenByte_25 : decode cX1_writtenByte 25 = .ok (.isub, 1) := by decide +kernel
theorem dX1_writtenByte_26 : decode cX1_writtenByte 26 = .ok (.invokevirtual 77, 3) := by decide +kernel
theorem dX1_writtenByte_29 : decode cX1_writtenByte 29 = .ok (.ireturn, 1) := by decide +kernel
theorem dX1_writtenByte_30 : decode cX1_writtenByte 30 = .ok (.iload_n 2, 1) := by decide +kernel
theorem dX1_writtenByte_31 : decode cX1_writtenByte 31 = .ok (.iconst 1, 1) := by decide +kernel
theorem dX1_writtenByte_32 : decode cX1_writtenByte 32 = .ok (.if_icmp .ne 22, 3) := by decide +kernel
theorem dX1_writtenByte_35 : decode cX1_writtenByte 35 = .ok (.iload_n 3, 1) := by decide +kernel
theorem dX1_writtenByte_36 : decode cX1_writtenByte 36 = .ok (.ifCond .ne 11, 3) := by decide +kernel
theorem dX1_writtenByte_39 : decode cX1_writtenByte 39 = .ok (.aload_n 0, 1) := by decide +kernel
theorem dX1_writtenByte_40 : decode cX1_writtenByte 40 = .ok (.iload_n 1, 1) := by decide +kernel
theorem dX1_writtenByte_41 : decode cX1_writtenByte 41 = .ok (.invokevirtual 54, 3) := by decide +kernel
theorem dX1_writtenByte_44 : decode cX1_writtenByte 44 = .ok (.goto 9, 3) := by decide +kernel
theorem dX1_writtenByte_47 : decode cX1_writtenByte 47 = .ok (.aload_n 0, 1) := by decide +kernel
theorem dX1_writtenByte_48 : decode cX1_writtenByte 48 = .ok (.iload_n 1, 1) := by decide +kernel
theorem dX1_writtenByte_49 : decode cX1_writtenByte 49 = .ok (.iconst 1, 1) := by decide +kernel
theorem dX1_writtenByte_50 : decode cX1_writtenByte 50 = .ok (.invokevirtual 68, 3) := by decide +kernel
theorem dX1_writtenByte_53 : decode cX1_writtenByte 53 = .ok (.ireturn, 1) := by decide +kernel
theorem dX1_writtenByte_54 : decode cX1_writtenByte 54 = .ok (.iload_n 3, 1) := by decide +kernel
theorem dX1_writtenByte_55 : decode cX1_writtenByte 55 = .ok (.ifCond .ne 14, 3) := by decide +kernel
theorem dX1_writtenByte_58 : decode cX1_writtenByte 58 = .ok (.aload_n 0, 1) := by decide +kernel
theorem dX1_writtenByte_59 : decode cX1_writtenByte 59 = .ok (.iload_n 1, 1) := by decide +kernel
theorem dX1_writtenByte_60 : decode cX1_writtenByte 60 = .ok (.iload_n 2, 1) := by decide +kernel
theorem dX1_writtenByte_61 : decode cX1_writtenByte 61 = .ok (.iconst 2, 1) := by decide +kernel
theorem dX1_writtenByte_62 : decode cX1_writtenByte 62 = .ok (.isub, 1) := by decide +kernel
theorem dX1_writtenByte_63 : decode cX1_writtenByte 63 = .ok (.invokevirtual 80, 3) := by decide +kernel
theorem dX1_writtenByte_66 : decode cX1_writtenByte 66 = .ok (.goto 11, 3) := by decide +kernel
theorem dX1_writtenByte_69 : decode cX1_writtenByte 69 = .ok (.aload_n 0, 1) := by decide +kernel
theorem dX1_writtenByte_70 : decode cX1_writtenByte 70 = .ok (.iload_n 1, 1) := by decide +kernel
theorem dX1_writtenByte_71 : decode cX1_writtenByte 71 = .ok (.iload_n 2, 1) := by decide +kernel
theorem dX1_writtenByte_72 : decode cX1_writtenByte 72 = .ok (.iconst 2, 1) := by decide +kernel
theorem dX1_writtenByte_73 : decode cX1_writtenByte 73 = .ok (.isub, 1) := by decide +kernel
theorem dX1_writtenByte_74 : decode cX1_writtenByte 74 = .ok (.invokevirtual 83, 3) := by decide +kernel
theorem dX1_writtenByte_77 : decode cX1_writtenByte 77 = .ok (.ireturn, 1) := by decide +kernel
set_option maxRecDepth 20000 in
theorem ggX1_bitmapByte_X1_wordAt : GoodIn wsX1_bitmapByte wsX1_wordAt := goodIn_r _ [6, 7, 8] (by decide +kernel) (by decide +kernel)
set_option maxRecDepth 20000 in
theorem gX1_bitmapByte_X1_wordAt : GoodIn wsX1_bitmapByte (wsV RX1 33 RX1 yX1_wordAt wsX1_wordAt) := goodIn_app (goodIn_of _ (by decide +kernel)) ggX1_bitmapByte_X1_wordAt
theorem dX1_bitmapByte_0 : decode cX1_bitmapByte 0 = .ok (.aload_n 0, 1) := by decide +kernel
theorem dX1_bitmapByte_1 : decode cX1_bitmapByte 1 = .ok (.iconst 4, 1) := by decide +kernel
theorem dX1_bitmapByte_2 : decode cX1_bitmapByte 2 = .ok (.iload_n 1, 1) := by decide +kernel
theorem dX1_bitmapByte_3 : decode cX1_bitmapByte 3 = .ok (.imul, 1) := by decide +kernel
theorem dX1_bitmapByte_4 : decode cX1_bitmapByte 4 = .ok (.iload_n 2, 1) := by decide +kernel
theorem dX1_bitmapByte_5 : decode cX1_bitmapByte 5 = .ok (.bipush 8, 2) := by decide +kernel
theorem dX1_bitmapByte_7 : decode cX1_bitmapByte 7 = .ok (.idiv, 1) := by decide +kernel
theorem dX1_bitmapByte_8 : decode cX1_bitmapByte 8 = .ok (.iadd, 1) := by decide +kernel
theorem dX1_bitmapByte_9 : decode cX1_bitmapByte 9 = .ok (.invokevirtual 33, 3) := by decide +kernel
theorem dX1_bitmapByte_12 : decode cX1_bitmapByte 12 = .ok (.bipush 8, 2) := by decide +kernel
theorem dX1_bitmapByte_14 : decode cX1_bitmapByte 14 = .ok (.iload_n 2, 1) := by decide +kernel
theorem dX1_bitmapByte_15 : decode cX1_bitmapByte 15 = .ok (.bipush 8, 2) := by decide +kernel
theorem dX1_bitmapByte_17 : decode cX1_bitmapByte 17 = .ok (.irem, 1) := by decide +kernel
theorem dX1_bitmapByte_18 : decode cX1_bitmapByte 18 = .ok (.imul, 1) := by decide +kernel
theorem dX1_bitmapByte_19 : decode cX1_bitmapByte 19 = .ok (.lushr, 1) := by decide +kernel
theorem dX1_bitmapByte_20 : decode cX1_bitmapByte 20 = .ok (.ldc2_w 86, 3) := by decide +kernel
theorem dX1_bitmapByte_23 : decode cX1_bitmapByte 23 = .ok (.land, 1) := by decide +kernel
theorem dX1_bitmapByte_24 : decode cX1_bitmapByte 24 = .ok (.l2i, 1) := by decide +kernel
theorem dX1_bitmapByte_25 : decode cX1_bitmapByte 25 = .ok (.ireturn, 1) := by decide +kernel
set_option maxRecDepth 20000 in
theorem ggX1_nthPlace_X1_countIn : GoodIn wsX1_nthPlace wsX1_countIn := goodIn_r _ [5, 6, 7, 8, 4, 9, 10, 11, 12, 13, 14, 15, 16, 17, 18, 19, 20, 21, 22, 23, 24, 32] (by decide +kernel) (by decide +kernel)
set_option maxRecDepth 20000 in
theorem gX1_nthPlace_X1_countIn : GoodIn wsX1_nthPlace (wsV RX1 88 RX1 yX1_countIn wsX1_countIn) := goodIn_app (goodIn_of _ (by decide +kernel)) ggX1_nthPlace_X1_countIn
set_option maxRecDepth 20000 in
theorem ggX1_nthPlace_X1_nth : GoodIn wsX1_nthPlace wsX1_nth := goodIn_r _ [28, 6, 18, 19, 20, 21, 22, 23, 24, 29, 30, 4, 31, 32] (by decide +kernel) (by decide +kernel)
set_option maxRecDepth 20000 in
theorem gX1_nthPlace_X1_nth : GoodIn wsX1_nthPlace (wsV RX1 91 RX1 yX1_nth wsX1_nth) := goodIn_app (goodIn_of _ (by decide +kernel)) ggX1_nthPlace_X1_nth
theorem dX1_nthPlace_0 : decode cX1_nthPlace 0 = .ok (.aload_n 0, 1) := by decide +kernel
theorem dX1_nthPlace_1 : decode cX1_nthPlace 1 = .ok (.aload_n 0, 1) := by decide +kernel
theorem dX1_nthPlace_2 : decode cX1_nthPlace 2 = .ok (.iconst 0, 1) := by decide +kernel
theorem dX1_nthPlace_3 : decode cX1_nthPlace 3 = .ok (.sipush 256, 3) := by decide +kernel
theorem dX1_nthPlace_6 : decode cX1_nthPlace 6 = .ok (.iload_n 1, 1) := by decide +kernel
theorem dX1_nthPlace_7 : decode cX1_nthPlace 7 = .ok (.imul, 1) := by decide +kernel
theorem dX1_nthPlace_8 : decode cX1_nthPlace 8 = .ok (.iconst 1, 1) := by decide +kernel
theorem dX1_nthPlace_9 : decode cX1_nthPlace 9 = .ok (.isub, 1) := by decide +kernel
theorem dX1_nthPlace_10 : decode cX1_nthPlace 10 = .ok (.invokevirtual 88, 3) := by decide +kernel
theorem dX1_nthPlace_13 : decode cX1_nthPlace 13 = .ok (.iload_n 2, 1) := by decide +kernel
theorem dX1_nthPlace_14 : decode cX1_nthPlace 14 = .ok (.iadd, 1) := by decide +kernel
theorem dX1_nthPlace_15 : decode cX1_nthPlace 15 = .ok (.invokevirtual 91, 3) := by decide +kernel
theorem dX1_nthPlace_18 : decode cX1_nthPlace 18 = .ok (.sipush 256, 3) := by decide +kernel
theorem dX1_nthPlace_21 : decode cX1_nthPlace 21 = .ok (.iload_n 1, 1) := by decide +kernel
theorem dX1_nthPlace_22 : decode cX1_nthPlace 22 = .ok (.imul, 1) := by decide +kernel
theorem dX1_nthPlace_23 : decode cX1_nthPlace 23 = .ok (.isub, 1) := by decide +kernel
theorem dX1_nthPlace_24 : decode cX1_nthPlace 24 = .ok (.ireturn, 1) := by decide +kernel
set_option maxRecDepth 20000 in
theorem ggX1_nthBorder_X1_holds : GoodIn wsX1_nthBorder wsX1_holds := goodIn_r _ [5, 6, 7, 8, 9, 10] (by decide +kernel) (by decide +kernel)
set_option maxRecDepth 20000 in
theorem gX1_nthBorder_X1_holds : GoodIn wsX1_nthBorder (wsV RX1 94 RX1 yX1_holds wsX1_holds) := goodIn_app (goodIn_of _ (by decide +kernel)) ggX1_nthBorder_X1_holds
theorem dX1_nthBorder_0 : decode cX1_nthBorder 0 = .ok (.iload_n 2, 1) := by decide +kernel
theorem dX1_nthBorder_1 : decode cX1_nthBorder 1 = .ok (.istore_n 3, 1) := by decide +kernel
theorem dX1_nthBorder_2 : decode cX1_nthBorder 2 = .ok (.iconst 0, 1) := by decide +kernel
theorem dX1_nthBorder_3 : decode cX1_nthBorder 3 = .ok (.istore 4, 2) := by decide +kernel
theorem dX1_nthBorder_5 : decode cX1_nthBorder 5 = .ok (.iload 4, 2) := by decide +kernel
theorem dX1_nthBorder_7 : decode cX1_nthBorder 7 = .ok (.sipush 256, 3) := by decide +kernel
theorem dX1_nthBorder_10 : decode cX1_nthBorder 10 = .ok (.if_icmp .ge 83, 3) := by decide +kernel
theorem dX1_nthBorder_13 : decode cX1_nthBorder 13 = .ok (.sipush 256, 3) := by decide +kernel
theorem dX1_nthBorder_16 : decode cX1_nthBorder 16 = .ok (.iload_n 1, 1) := by decide +kernel
theorem dX1_nthBorder_17 : decode cX1_nthBorder 17 = .ok (.imul, 1) := by decide +kernel
theorem dX1_nthBorder_18 : decode cX1_nthBorder 18 = .ok (.iload 4, 2) := by decide +kernel
theorem dX1_nthBorder_20 : decode cX1_nthBorder 20 = .ok (.iadd, 1) := by decide +kernel
theorem dX1_nthBorder_21 : decode cX1_nthBorder 21 = .ok (.istore 5, 2) := by decide +kernel
theorem dX1_nthBorder_23 : decode cX1_nthBorder 23 = .ok (.aload_n 0, 1) := by decide +kernel
theorem dX1_nthBorder_24 : decode cX1_nthBorder 24 = .ok (.iload 5, 2) := by decide +kernel
theorem dX1_nthBorder_26 : decode cX1_nthBorder 26 = .ok (.invokevirtual 94, 3) := by decide +kernel
theorem dX1_nthBorder_29 : decode cX1_nthBorder 29 = .ok (.ifCond .eq 58, 3) := by decide +kernel
theorem dX1_nthBorder_32 : decode cX1_nthBorder 32 = .ok (.iload 4, 2) := by decide +kernel
theorem dX1_nthBorder_34 : decode cX1_nthBorder 34 = .ok (.ifCond .eq 14, 3) := by decide +kernel
theorem dX1_nthBorder_37 : decode cX1_nthBorder 37 = .ok (.aload_n 0, 1) := by decide +kernel
theorem dX1_nthBorder_38 : decode cX1_nthBorder 38 = .ok (.iload 5, 2) := by decide +kernel
theorem dX1_nthBorder_40 : decode cX1_nthBorder 40 = .ok (.iconst 1, 1) := by decide +kernel
theorem dX1_nthBorder_41 : decode cX1_nthBorder 41 = .ok (.isub, 1) := by decide +kernel
theorem dX1_nthBorder_42 : decode cX1_nthBorder 42 = .ok (.invokevirtual 94, 3) := by decide +kernel
theorem dX1_nthBorder_45 : decode cX1_nthBorder 45 = .ok (.ifCond .ne 13, 3) := by decide +kernel
theorem dX1_nthBorder_48 : decode cX1_nthBorder 48 = .ok (.iload_n 3, 1) := by decide +kernel
theorem dX1_nthBorder_49 : decode cX1_nthBorder 49 = .ok (.ifCond .ne 6, 3) := by decide +kernel
theorem dX1_nthBorder_52 : decode cX1_nthBorder 52 = .ok (.iload 4, 2) := by decide +kernel
theorem dX1_nthBorder_54 : decode cX1_nthBorder 54 = .ok (.ireturn, 1) := by decide +kernel
theorem dX1_nthBorder_55 : decode cX1_nthBorder 55 = .ok (.iinc 3 (-1), 3) := by decide +kernel
theorem dX1_nthBorder_58 : decode cX1_nthBorder 58 = .ok (.iload 4, 2) := by decide +kernel
theorem dX1_nthBorder_60 : decode cX1_nthBorder 60 = .ok (.sipush 255, 3) := by decide +kernel
theorem dX1_nthBorder_63 : decode cX1_nthBorder 63 = .ok (.if_icmp .eq 14, 3) := by decide +kernel
theorem dX1_nthBorder_66 : decode cX1_nthBorder 66 = .ok (.aload_n 0, 1) := by decide +kernel
theorem dX1_nthBorder_67 : decode cX1_nthBorder 67 = .ok (.iload 5, 2) := by decide +kernel
theorem dX1_nthBorder_69 : decode cX1_nthBorder 69 = .ok (.iconst 1, 1) := by decide +kernel
theorem dX1_nthBorder_70 : decode cX1_nthBorder 70 = .ok (.iadd, 1) := by decide +kernel
theorem dX1_nthBorder_71 : decode cX1_nthBorder 71 = .ok (.invokevirtual 94, 3) := by decide +kernel
theorem dX1_nthBorder_74 : decode cX1_nthBorder 74 = .ok (.ifCond .ne 13, 3) := by decide +kernel
theorem dX1_nthBorder_77 : decode cX1_nthBorder 77 = .ok (.iload_n 3, 1) := by decide +kernel
theorem dX1_nthBorder_78 : decode cX1_nthBorder 78 = .ok (.ifCond .ne 6, 3) := by decide +kernel
theorem dX1_nthBorder_81 : decode cX1_nthBorder 81 = .ok (.iload 4, 2) := by decide +kernel
theorem dX1_nthBorder_83 : decode cX1_nthBorder 83 = .ok (.ireturn, 1) := by decide +kernel
theorem dX1_nthBorder_84 : decode cX1_nthBorder 84 = .ok (.iinc 3 (-1), 3) := by decide +kernel
theorem dX1_nthBorder_87 : decode cX1_nthBorder 87 = .ok (.iinc 4 1, 3) := by decide +kernel
theorem dX1_nthBorder_90 : decode cX1_nthBorder 90 = .ok (.goto (-85), 3) := by decide +kernel
theorem dX1_nthBorder_93 : decode cX1_nthBorder 93 = .ok (.bipush (-9), 2) := by decide +kernel
theorem dX1_nthBorder_95 : decode cX1_nthBorder 95 = .ok (.ireturn, 1) := by decide +kernel
set_option maxRecDepth 20000 in
theorem ggX2_init_X1_init : GoodIn wsX2_init wsX1_init := goodIn_r _ [12, 13, 2, 3, 14, 15, 19] (by decide +kernel) (by decide +kernel)
set_option maxRecDepth 20000 in
theorem gX2_init_X1_init_n17 : GoodIn wsX2_init (wsX1_init) := ggX2_init_X1_init
theorem dX2_init_0 : decode cX2_init 0 = .ok (.aload_n 0, 1) := by decide +kernel
theorem dX2_init_1 : decode cX2_init 1 = .ok (.invokespecial 3, 3) := by decide +kernel
theorem dX2_init_4 : decode cX2_init 4 = .ok (.aload_n 0, 1) := by decide +kernel
theorem dX2_init_5 : decode cX2_init 5 = .ok (.bipush 6, 2) := by decide +kernel
theorem dX2_init_7 : decode cX2_init 7 = .ok (.anewarray 9, 3) := by decide +kernel
theorem dX2_init_10 : decode cX2_init 10 = .ok (.putfield 11, 3) := by decide +kernel
theorem dX2_init_13 : decode cX2_init 13 = .ok (.iconst 0, 1) := by decide +kernel
theorem dX2_init_14 : decode cX2_init 14 = .ok (.istore_n 1, 1) := by decide +kernel
theorem dX2_init_15 : decode cX2_init 15 = .ok (.iload_n 1, 1) := by decide +kernel
theorem dX2_init_16 : decode cX2_init 16 = .ok (.bipush 6, 2) := by decide +kernel
theorem dX2_init_18 : decode cX2_init 18 = .ok (.if_icmp .ge 22, 3) := by decide +kernel
theorem dX2_init_21 : decode cX2_init 21 = .ok (.aload_n 0, 1) := by decide +kernel
theorem dX2_init_22 : decode cX2_init 22 = .ok (.getfield 11, 3) := by decide +kernel
theorem dX2_init_25 : decode cX2_init 25 = .ok (.iload_n 1, 1) := by decide +kernel
theorem dX2_init_26 : decode cX2_init 26 = .ok (.new 9, 3) := by decide +kernel
theorem dX2_init_29 : decode cX2_init 29 = .ok (.dup, 1) := by decide +kernel
theorem dX2_init_30 : decode cX2_init 30 = .ok (.invokespecial 17, 3) := by decide +kernel
theorem dX2_init_33 : decode cX2_init 33 = .ok (.aastore, 1) := by decide +kernel
theorem dX2_init_34 : decode cX2_init 34 = .ok (.iinc 1 1, 3) := by decide +kernel
theorem dX2_init_37 : decode cX2_init 37 = .ok (.goto (-22), 3) := by decide +kernel
theorem dX2_init_40 : decode cX2_init 40 = .ok (.aload_n 0, 1) := by decide +kernel
theorem dX2_init_41 : decode cX2_init 41 = .ok (.bipush 9, 2) := by decide +kernel
theorem dX2_init_43 : decode cX2_init 43 = .ok (.newarray .int, 2) := by decide +kernel
theorem dX2_init_45 : decode cX2_init 45 = .ok (.putfield 18, 3) := by decide +kernel
theorem dX2_init_48 : decode cX2_init 48 = .ok (.aload_n 0, 1) := by decide +kernel
theorem dX2_init_49 : decode cX2_init 49 = .ok (.bipush 9, 2) := by decide +kernel
theorem dX2_init_51 : decode cX2_init 51 = .ok (.newarray .int, 2) := by decide +kernel
theorem dX2_init_53 : decode cX2_init 53 = .ok (.putfield 22, 3) := by decide +kernel
theorem dX2_init_56 : decode cX2_init 56 = .ok (.return_, 1) := by decide +kernel
set_option maxRecDepth 20000 in
theorem ggX2_become_X1_become : GoodIn wsX2_become wsX1_become := goodIn_r _ [11, 12, 13, 4, 5, 6, 17] (by decide +kernel) (by decide +kernel)
set_option maxRecDepth 20000 in
theorem gX2_become_X1_become_n25 : GoodIn wsX2_become (wsX1_become) := ggX2_become_X1_become
theorem dX2_become_0 : decode cX2_become 0 = .ok (.iconst 0, 1) := by decide +kernel
theorem dX2_become_1 : decode cX2_become 1 = .ok (.istore_n 2, 1) := by decide +kernel
theorem dX2_become_2 : decode cX2_become 2 = .ok (.iload_n 2, 1) := by decide +kernel
theorem dX2_become_3 : decode cX2_become 3 = .ok (.bipush 6, 2) := by decide +kernel
theorem dX2_become_5 : decode cX2_become 5 = .ok (.if_icmp .ge 24, 3) := by decide +kernel
theorem dX2_become_8 : decode cX2_become 8 = .ok (.aload_n 0, 1) := by decide +kernel
theorem dX2_become_9 : decode cX2_become 9 = .ok (.getfield 11, 3) := by decide +kernel
theorem dX2_become_12 : decode cX2_become 12 = .ok (.iload_n 2, 1) := by decide +kernel
theorem dX2_become_13 : decode cX2_become 13 = .ok (.aaload, 1) := by decide +kernel
theorem dX2_become_14 : decode cX2_become 14 = .ok (.aload_n 1, 1) := by decide +kernel
theorem dX2_become_15 : decode cX2_become 15 = .ok (.getfield 11, 3) := by decide +kernel
theorem dX2_become_18 : decode cX2_become 18 = .ok (.iload_n 2, 1) := by decide +kernel
theorem dX2_become_19 : decode cX2_become 19 = .ok (.aaload, 1) := by decide +kernel
theorem dX2_become_20 : decode cX2_become 20 = .ok (.invokevirtual 25, 3) := by decide +kernel
theorem dX2_become_23 : decode cX2_become 23 = .ok (.iinc 2 1, 3) := by decide +kernel
theorem dX2_become_26 : decode cX2_become 26 = .ok (.goto (-24), 3) := by decide +kernel
theorem dX2_become_29 : decode cX2_become 29 = .ok (.aload_n 1, 1) := by decide +kernel
theorem dX2_become_30 : decode cX2_become 30 = .ok (.getfield 18, 3) := by decide +kernel
theorem dX2_become_33 : decode cX2_become 33 = .ok (.iconst 0, 1) := by decide +kernel
theorem dX2_become_34 : decode cX2_become 34 = .ok (.aload_n 0, 1) := by decide +kernel
theorem dX2_become_35 : decode cX2_become 35 = .ok (.getfield 18, 3) := by decide +kernel
theorem dX2_become_38 : decode cX2_become 38 = .ok (.iconst 0, 1) := by decide +kernel
theorem dX2_become_39 : decode cX2_become 39 = .ok (.bipush 9, 2) := by decide +kernel
theorem dX2_become_41 : decode cX2_become 41 = .ok (.invokestatic 29, 3) := by decide +kernel
theorem dX2_become_44 : decode cX2_become 44 = .ok (.aload_n 1, 1) := by decide +kernel
theorem dX2_become_45 : decode cX2_become 45 = .ok (.getfield 22, 3) := by decide +kernel
theorem dX2_become_48 : decode cX2_become 48 = .ok (.iconst 0, 1) := by decide +kernel
theorem dX2_become_49 : decode cX2_become 49 = .ok (.aload_n 0, 1) := by decide +kernel
theorem dX2_become_50 : decode cX2_become 50 = .ok (.getfield 22, 3) := by decide +kernel
theorem dX2_become_53 : decode cX2_become 53 = .ok (.iconst 0, 1) := by decide +kernel
theorem dX2_become_54 : decode cX2_become 54 = .ok (.bipush 9, 2) := by decide +kernel
theorem dX2_become_56 : decode cX2_become 56 = .ok (.invokestatic 29, 3) := by decide +kernel
theorem dX2_become_59 : decode cX2_become 59 = .ok (.return_, 1) := by decide +kernel
set_option maxRecDepth 20000 in
theorem ggX2_countMeetings_X1_kindOf : GoodIn wsX2_countMeetings wsX1_kindOf := goodIn_r _ [5, 6, 7, 8, 3, 9, 10, 11, 12, 13, 14, 15, 16, 17, 18, 19, 20, 21, 22, 23, 24, 25, 26, 33] (by decide +kernel) (by decide +kernel)
set_option maxRecDepth 20000 in
theorem gX2_countMeetings_X1_kindOf_n35 : GoodIn wsX2_countMeetings (wsX1_kindOf) := ggX2_countMeetings_X1_kindOf
set_option maxRecDepth 20000 in
theorem ggX2_countMeetings_X3_isKind : GoodIn wsX2_countMeetings wsX3_isKind := goodIn_r _ [29] (by decide +kernel) (by decide +kernel)
set_option maxRecDepth 20000 in
theorem gX2_countMeetings_X3_isKind_n39 : GoodIn wsX2_countMeetings (wsX3_isKind) := ggX2_countMeetings_X3_isKind
theorem dX2_countMeetings_0 : decode cX2_countMeetings 0 = .ok (.iconst 0, 1) := by decide +kernel
theorem dX2_countMeetings_1 : decode cX2_countMeetings 1 = .ok (.istore_n 3, 1) := by decide +kernel
theorem dX2_countMeetings_2 : decode cX2_countMeetings 2 = .ok (.iload_n 3, 1) := by decide +kernel
theorem dX2_countMeetings_3 : decode cX2_countMeetings 3 = .ok (.bipush 16, 2) := by decide +kernel
theorem dX2_countMeetings_5 : decode cX2_countMeetings 5 = .ok (.if_icmp .ge 55, 3) := by decide +kernel
theorem dX2_countMeetings_8 : decode cX2_countMeetings 8 = .ok (.aload_n 1, 1) := by decide +kernel
theorem dX2_countMeetings_9 : decode cX2_countMeetings 9 = .ok (.iload_n 3, 1) := by decide +kernel
theorem dX2_countMeetings_10 : decode cX2_countMeetings 10 = .ok (.invokevirtual 35, 3) := by decide +kernel
theorem dX2_countMeetings_13 : decode cX2_countMeetings 13 = .ok (.istore 4, 2) := by decide +kernel
theorem dX2_countMeetings_15 : decode cX2_countMeetings 15 = .ok (.aload_n 2, 1) := by decide +kernel
theorem dX2_countMeetings_16 : decode cX2_countMeetings 16 = .ok (.iload_n 3, 1) := by decide +kernel
theorem dX2_countMeetings_17 : decode cX2_countMeetings 17 = .ok (.invokevirtual 35, 3) := by decide +kernel
theorem dX2_countMeetings_20 : decode cX2_countMeetings 20 = .ok (.istore 5, 2) := by decide +kernel
theorem dX2_countMeetings_22 : decode cX2_countMeetings 22 = .ok (.iload 4, 2) := by decide +kernel
theorem dX2_countMeetings_24 : decode cX2_countMeetings 24 = .ok (.invokestatic 39, 3) := by decide +kernel
theorem dX2_countMeetings_27 : decode cX2_countMeetings 27 = .ok (.ifCond .eq 27, 3) := by decide +kernel
theorem dX2_countMeetings_30 : decode cX2_countMeetings 30 = .ok (.iload 5, 2) := by decide +kernel
theorem dX2_countMeetings_32 : decode cX2_countMeetings 32 = .ok (.invokestatic 39, 3) := by decide +kernel
theorem dX2_countMeetings_35 : decode cX2_countMeetings 35 = .ok (.ifCond .eq 19, 3) := by decide +kernel
theorem dX2_countMeetings_38 : decode cX2_countMeetings 38 = .ok (.aload_n 0, 1) := by decide +kernel
theorem dX2_countMeetings_39 : decode cX2_countMeetings 39 = .ok (.getfield 18, 3) := by decide +kernel
theorem dX2_countMeetings_42 : decode cX2_countMeetings 42 = .ok (.iconst 3, 1) := by decide +kernel
theorem dX2_countMeetings_43 : decode cX2_countMeetings 43 = .ok (.iload 4, 2) := by decide +kernel
theorem dX2_countMeetings_45 : decode cX2_countMeetings 45 = .ok (.imul, 1) := by decide +kernel
theorem dX2_countMeetings_46 : decode cX2_countMeetings 46 = .ok (.iload 5, 2) := by decide +kernel
theorem dX2_countMeetings_48 : decode cX2_countMeetings 48 = .ok (.iadd, 1) := by decide +kernel
theorem dX2_countMeetings_49 : decode cX2_countMeetings 49 = .ok (.dup2, 1) := by decide +kernel
theorem dX2_countMeetings_50 : decode cX2_countMeetings 50 = .ok (.iaload, 1) := by decide +kernel
theorem dX2_countMeetings_51 : decode cX2_countMeetings 51 = .ok (.iconst 1, 1) := by decide +kernel
theorem dX2_countMeetings_52 : decode cX2_countMeetings 52 = .ok (.iadd, 1) := by decide +kernel
theorem dX2_countMeetings_53 : decode cX2_countMeetings 53 = .ok (.iastore, 1) := by decide +kernel
theorem dX2_countMeetings_54 : decode cX2_countMeetings 54 = .ok (.iinc 3 1, 3) := by decide +kernel
theorem dX2_countMeetings_57 : decode cX2_countMeetings 57 = .ok (.goto (-55), 3) := by decide +kernel
theorem dX2_countMeetings_60 : decode cX2_countMeetings 60 = .ok (.return_, 1) := by decide +kernel
set_option maxRecDepth 20000 in
theorem ggX2_countConversions_X1_kindOf : GoodIn wsX2_countConversions wsX1_kindOf := goodIn_r _ [5, 6, 7, 8, 3, 9, 10, 11, 12, 13, 14, 15, 16, 17, 18, 19, 20, 21, 22, 23, 24, 25, 26, 33] (by decide +kernel) (by decide +kernel)
set_option maxRecDepth 20000 in
theorem gX2_countConversions_X1_kindOf_n35 : GoodIn wsX2_countConversions (wsX1_kindOf) := ggX2_countConversions_X1_kindOf
set_option maxRecDepth 20000 in
theorem ggX2_countConversions_X3_isKind : GoodIn wsX2_countConversions wsX3_isKind := goodIn_r _ [29] (by decide +kernel) (by decide +kernel)
set_option maxRecDepth 20000 in
theorem gX2_countConversions_X3_isKind_n39 : GoodIn wsX2_countConversions (wsX3_isKind) := ggX2_countConversions_X3_isKind
theorem dX2_countConversions_0 : decode cX2_countConversions 0 = .ok (.iconst 0, 1) := by decide +kernel
theorem dX2_countConversions_1 : decode cX2_countConversions 1 = .ok (.istore_n 3, 1) := by decide +kernel
theorem dX2_countConversions_2 : decode cX2_countConversions 2 = .ok (.iload_n 3, 1) := by decide +kernel
theorem dX2_countConversions_3 : decode cX2_countConversions 3 = .ok (.bipush 16, 2) := by decide +kernel
theorem dX2_countConversions_5 : decode cX2_countConversions 5 = .ok (.if_icmp .ge 62, 3) := by decide +kernel
theorem dX2_countConversions_8 : decode cX2_countConversions 8 = .ok (.aload_n 1, 1) := by decide +kernel
theorem dX2_countConversions_9 : decode cX2_countConversions 9 = .ok (.iload_n 3, 1) := by decide +kernel
theorem dX2_countConversions_10 : decode cX2_countConversions 10 = .ok (.invokevirtual 35, 3) := by decide +kernel
theorem dX2_countConversions_13 : decode cX2_countConversions 13 = .ok (.istore 4, 2) := by decide +kernel
theorem dX2_countConversions_15 : decode cX2_countConversions 15 = .ok (.aload_n 2, 1) := by decide +kernel
theorem dX2_countConversions_16 : decode cX2_countConversions 16 = .ok (.iload_n 3, 1) := by decide +kernel
theorem dX2_countConversions_17 : decode cX2_countConversions 17 = .ok (.invokevirtual 35, 3) := by decide +kernel
theorem dX2_countConversions_20 : decode cX2_countConversions 20 = .ok (.istore 5, 2) := by decide +kernel
theorem dX2_countConversions_22 : decode cX2_countConversions 22 = .ok (.iload 4, 2) := by decide +kernel
theorem dX2_countConversions_24 : decode cX2_countConversions 24 = .ok (.invokestatic 39, 3) := by decide +kernel
theorem dX2_countConversions_27 : decode cX2_countConversions 27 = .ok (.ifCond .eq 34, 3) := by decide +kernel
theorem dX2_countConversions_30 : decode cX2_countConversions 30 = .ok (.iload 5, 2) := by decide +kernel
theorem dX2_countConversions_32 : decode cX2_countConversions 32 = .ok (.invokestatic 39, 3) := by decide +kernel
theorem dX2_countConversions_35 : decode cX2_countConversions 35 = .ok (.ifCond .eq 26, 3) := by decide +kernel
theorem dX2_countConversions_38 : decode cX2_countConversions 38 = .ok (.iload 4, 2) := by decide +kernel
theorem dX2_countConversions_40 : decode cX2_countConversions 40 = .ok (.iload 5, 2) := by decide +kernel
theorem dX2_countConversions_42 : decode cX2_countConversions 42 = .ok (.if_icmp .eq 19, 3) := by decide +kernel
theorem dX2_countConversions_45 : decode cX2_countConversions 45 = .ok (.aload_n 0, 1) := by decide +kernel
theorem dX2_countConversions_46 : decode cX2_countConversions 46 = .ok (.getfield 22, 3) := by decide +kernel
theorem dX2_countConversions_49 : decode cX2_countConversions 49 = .ok (.iconst 3, 1) := by decide +kernel
theorem dX2_countConversions_50 : decode cX2_countConversions 50 = .ok (.iload 4, 2) := by decide +kernel
theorem dX2_countConversions_52 : decode cX2_countConversions 52 = .ok (.imul, 1) := by decide +kernel
theorem dX2_countConversions_53 : decode cX2_countConversions 53 = .ok (.iload 5, 2) := by decide +kernel
theorem dX2_countConversions_55 : decode cX2_countConversions 55 = .ok (.iadd, 1) := by decide +kernel
theorem dX2_countConversions_56 : decode cX2_countConversions 56 = .ok (.dup2, 1) := by decide +kernel
theorem dX2_countConversions_57 : decode cX2_countConversions 57 = .ok (.iaload, 1) := by decide +kernel
theorem dX2_countConversions_58 : decode cX2_countConversions 58 = .ok (.iconst 1, 1) := by decide +kernel
theorem dX2_countConversions_59 : decode cX2_countConversions 59 = .ok (.iadd, 1) := by decide +kernel
theorem dX2_countConversions_60 : decode cX2_countConversions 60 = .ok (.iastore, 1) := by decide +kernel
theorem dX2_countConversions_61 : decode cX2_countConversions 61 = .ok (.iinc 3 1, 3) := by decide +kernel
theorem dX2_countConversions_64 : decode cX2_countConversions 64 = .ok (.goto (-62), 3) := by decide +kernel
theorem dX2_countConversions_67 : decode cX2_countConversions 67 = .ok (.return_, 1) := by decide +kernel
set_option maxRecDepth 20000 in
theorem ggX3_init_X2_init : GoodIn wsX3_init wsX2_init := goodIn_r _ [19, 20, 2, 3, 21, 22, 15, 16, 23, 24, 25, 26, 27, 28, 29, 30, 36, 37, 38, 46] (by decide +kernel) (by decide +kernel)
set_option maxRecDepth 20000 in
theorem gX3_init_X2_init_n9 : GoodIn wsX3_init (wsX2_init) := ggX3_init_X2_init
set_option maxRecDepth 20000 in
theorem ggX3_init_X0_init : GoodIn wsX3_init wsX0_init := goodIn_r _ [32, 33, 2, 3, 23, 34, 35, 44, 45] (by decide +kernel) (by decide +kernel)
set_option maxRecDepth 20000 in
theorem gX3_init_X0_init_n26 : GoodIn wsX3_init (wsX0_init) := ggX3_init_X0_init
set_option maxRecDepth 20000 in
theorem ggX3_init_X1_init : GoodIn wsX3_init wsX1_init := goodIn_r _ [27, 28, 2, 3, 29, 30, 46] (by decide +kernel) (by decide +kernel)
set_option maxRecDepth 20000 in
theorem gX3_init_X1_init_n33 : GoodIn wsX3_init (wsX1_init) := ggX3_init_X1_init
theorem dX3_init_0 : decode cX3_init 0 = .ok (.aload_n 0, 1) := by decide +kernel
theorem dX3_init_1 : decode cX3_init 1 = .ok (.invokespecial 1, 3) := by decide +kernel
theorem dX3_init_4 : decode cX3_init 4 = .ok (.aload_n 0, 1) := by decide +kernel
theorem dX3_init_5 : decode cX3_init 5 = .ok (.new 7, 3) := by decide +kernel
theorem dX3_init_8 : decode cX3_init 8 = .ok (.dup, 1) := by decide +kernel
theorem dX3_init_9 : decode cX3_init 9 = .ok (.invokespecial 9, 3) := by decide +kernel
theorem dX3_init_12 : decode cX3_init 12 = .ok (.putfield 10, 3) := by decide +kernel
theorem dX3_init_15 : decode cX3_init 15 = .ok (.aload_n 0, 1) := by decide +kernel
theorem dX3_init_16 : decode cX3_init 16 = .ok (.iconst 5, 1) := by decide +kernel
theorem dX3_init_17 : decode cX3_init 17 = .ok (.anewarray 7, 3) := by decide +kernel
theorem dX3_init_20 : decode cX3_init 20 = .ok (.putfield 16, 3) := by decide +kernel
theorem dX3_init_23 : decode cX3_init 23 = .ok (.iconst 0, 1) := by decide +kernel
theorem dX3_init_24 : decode cX3_init 24 = .ok (.istore_n 1, 1) := by decide +kernel
theorem dX3_init_25 : decode cX3_init 25 = .ok (.iload_n 1, 1) := by decide +kernel
theorem dX3_init_26 : decode cX3_init 26 = .ok (.iconst 5, 1) := by decide +kernel
theorem dX3_init_27 : decode cX3_init 27 = .ok (.if_icmp .ge 22, 3) := by decide +kernel
theorem dX3_init_30 : decode cX3_init 30 = .ok (.aload_n 0, 1) := by decide +kernel
theorem dX3_init_31 : decode cX3_init 31 = .ok (.getfield 16, 3) := by decide +kernel
theorem dX3_init_34 : decode cX3_init 34 = .ok (.iload_n 1, 1) := by decide +kernel
theorem dX3_init_35 : decode cX3_init 35 = .ok (.new 7, 3) := by decide +kernel
theorem dX3_init_38 : decode cX3_init 38 = .ok (.dup, 1) := by decide +kernel
theorem dX3_init_39 : decode cX3_init 39 = .ok (.invokespecial 9, 3) := by decide +kernel
theorem dX3_init_42 : decode cX3_init 42 = .ok (.aastore, 1) := by decide +kernel
theorem dX3_init_43 : decode cX3_init 43 = .ok (.iinc 1 1, 3) := by decide +kernel
theorem dX3_init_46 : decode cX3_init 46 = .ok (.goto (-21), 3) := by decide +kernel
theorem dX3_init_49 : decode cX3_init 49 = .ok (.aload_n 0, 1) := by decide +kernel
theorem dX3_init_50 : decode cX3_init 50 = .ok (.iconst 0, 1) := by decide +kernel
theorem dX3_init_51 : decode cX3_init 51 = .ok (.putfield 20, 3) := by decide +kernel
theorem dX3_init_54 : decode cX3_init 54 = .ok (.aload_n 0, 1) := by decide +kernel
theorem dX3_init_55 : decode cX3_init 55 = .ok (.new 24, 3) := by decide +kernel
theorem dX3_init_58 : decode cX3_init 58 = .ok (.dup, 1) := by decide +kernel
theorem dX3_init_59 : decode cX3_init 59 = .ok (.invokespecial 26, 3) := by decide +kernel
theorem dX3_init_62 : decode cX3_init 62 = .ok (.putfield 27, 3) := by decide +kernel
theorem dX3_init_65 : decode cX3_init 65 = .ok (.aload_n 0, 1) := by decide +kernel
theorem dX3_init_66 : decode cX3_init 66 = .ok (.new 31, 3) := by decide +kernel
theorem dX3_init_69 : decode cX3_init 69 = .ok (.dup, 1) := by decide +kernel
theorem dX3_init_70 : decode cX3_init 70 = .ok (.invokespecial 33, 3) := by decide +kernel
theorem dX3_init_73 : decode cX3_init 73 = .ok (.putfield 34, 3) := by decide +kernel
theorem dX3_init_76 : decode cX3_init 76 = .ok (.return_, 1) := by decide +kernel
set_option maxRecDepth 20000 in
theorem ggX3_add_X3_isSet : GoodIn wsX3_add wsX3_isSet := goodIn_r _ [5] (by decide +kernel) (by decide +kernel)
set_option maxRecDepth 20000 in
theorem gX3_add_X3_isSet : GoodIn wsX3_add (va_wsS RX3 38 yX3_isSet wsX3_isSet) := goodIn_app (goodIn_of _ (by decide +kernel)) ggX3_add_X3_isSet
set_option maxRecDepth 20000 in
theorem ggX3_add_X3_isRange : GoodIn wsX3_add wsX3_isRange := goodIn_r _ [8, 9, 10, 4, 11] (by decide +kernel) (by decide +kernel)
set_option maxRecDepth 20000 in
theorem gX3_add_X3_isRange : GoodIn wsX3_add (va_wsS RX3 42 yX3_isRange wsX3_isRange) := goodIn_app (goodIn_of _ (by decide +kernel)) ggX3_add_X3_isRange
set_option maxRecDepth 20000 in
theorem ggX3_add_X3_keepState : GoodIn wsX3_add wsX3_keepState := goodIn_r _ [15, 16, 17, 1, 18, 19, 20, 21, 22, 23, 24, 25, 26, 27, 28, 29, 30, 31, 32, 33, 34, 82, 83, 84, 85, 86, 79, 80, 81, 87] (by decide +kernel) (by decide +kernel)
set_option maxRecDepth 20000 in
theorem gX3_add_X3_keepState : GoodIn wsX3_add (wsV RX3 46 RX3 yX3_keepState wsX3_keepState) := goodIn_app (goodIn_of _ (by decide +kernel)) ggX3_add_X3_keepState
set_option maxRecDepth 20000 in
theorem ggX3_add_X1_includeAll : GoodIn wsX3_add wsX1_includeAll := goodIn_r _ [37, 33, 38, 39, 30, 40, 41, 42, 43, 44, 45, 46, 47, 48, 87] (by decide +kernel) (by decide +kernel)
set_option maxRecDepth 20000 in
theorem gX3_add_X1_includeAll_n54 : GoodIn wsX3_add (wsX1_includeAll) := ggX3_add_X1_includeAll
set_option maxRecDepth 20000 in
theorem ggX3_add_X2_countConversions : GoodIn wsX3_add wsX2_countConversions := goodIn_r _ [51, 28, 52, 30, 53, 54, 55, 56, 57, 58, 59, 60, 61, 62, 33, 63, 64, 65, 66, 67, 68, 69, 70, 71, 72, 73, 48, 74, 4, 75, 79, 80, 81, 87] (by decide +kernel) (by decide +kernel)
set_option maxRecDepth 20000 in
theorem gX3_add_X2_countConversions_n58 : GoodIn wsX3_add (wsX2_countConversions) := ggX3_add_X2_countConversions
set_option maxRecDepth 20000 in
theorem ggX3_add_X1_count : GoodIn wsX3_add wsX1_count := goodIn_r _ [78, 55, 56, 57, 30, 58, 59, 60, 61, 62, 33, 63, 64, 65, 66, 67, 68, 69, 87] (by decide +kernel) (by decide +kernel)
set_option maxRecDepth 20000 in
theorem gX3_add_X1_count_n62 : GoodIn wsX3_add (wsX1_count) := ggX3_add_X1_count
theorem dX3_add_0 : decode cX3_add 0 = .ok (.iload_n 1, 1) := by decide +kernel
theorem dX3_add_1 : decode cX3_add 1 = .ok (.invokestatic 38, 3) := by decide +kernel
theorem dX3_add_4 : decode cX3_add 4 = .ok (.ifCond .eq 11, 3) := by decide +kernel
theorem dX3_add_7 : decode cX3_add 7 = .ok (.iload_n 2, 1) := by decide +kernel
theorem dX3_add_8 : decode cX3_add 8 = .ok (.iload_n 3, 1) := by decide +kernel
theorem dX3_add_9 : decode cX3_add 9 = .ok (.invokestatic 42, 3) := by decide +kernel
theorem dX3_add_12 : decode cX3_add 12 = .ok (.ifCond .ne 5, 3) := by decide +kernel
theorem dX3_add_15 : decode cX3_add 15 = .ok (.iconst (-1), 1) := by decide +kernel
theorem dX3_add_16 : decode cX3_add 16 = .ok (.ireturn, 1) := by decide +kernel
theorem dX3_add_17 : decode cX3_add 17 = .ok (.aload_n 0, 1) := by decide +kernel
theorem dX3_add_18 : decode cX3_add 18 = .ok (.invokevirtual 46, 3) := by decide +kernel
theorem dX3_add_21 : decode cX3_add 21 = .ok (.getfield 50, 3) := by decide +kernel
theorem dX3_add_24 : decode cX3_add 24 = .ok (.iload_n 1, 1) := by decide +kernel
theorem dX3_add_25 : decode cX3_add 25 = .ok (.aaload, 1) := by decide +kernel
theorem dX3_add_26 : decode cX3_add 26 = .ok (.astore 4, 2) := by decide +kernel
theorem dX3_add_28 : decode cX3_add 28 = .ok (.aload_n 0, 1) := by decide +kernel
theorem dX3_add_29 : decode cX3_add 29 = .ok (.getfield 10, 3) := by decide +kernel
theorem dX3_add_32 : decode cX3_add 32 = .ok (.getfield 50, 3) := by decide +kernel
theorem dX3_add_35 : decode cX3_add 35 = .ok (.iload_n 1, 1) := by decide +kernel
theorem dX3_add_36 : decode cX3_add 36 = .ok (.aaload, 1) := by decide +kernel
theorem dX3_add_37 : decode cX3_add 37 = .ok (.astore 5, 2) := by decide +kernel
theorem dX3_add_39 : decode cX3_add 39 = .ok (.aload 5, 2) := by decide +kernel
theorem dX3_add_41 : decode cX3_add 41 = .ok (.iload_n 2, 1) := by decide +kernel
theorem dX3_add_42 : decode cX3_add 42 = .ok (.iload_n 3, 1) := by decide +kernel
theorem dX3_add_43 : decode cX3_add 43 = .ok (.invokevirtual 54, 3) := by decide +kernel
theorem dX3_add_46 : decode cX3_add 46 = .ok (.aload_n 0, 1) := by decide +kernel
theorem dX3_add_47 : decode cX3_add 47 = .ok (.getfield 10, 3) := by decide +kernel
theorem dX3_add_50 : decode cX3_add 50 = .ok (.aload 4, 2) := by decide +kernel
theorem dX3_add_52 : decode cX3_add 52 = .ok (.aload 5, 2) := by decide +kernel
theorem dX3_add_54 : decode cX3_add 54 = .ok (.invokevirtual 58, 3) := by decide +kernel
theorem dX3_add_57 : decode cX3_add 57 = .ok (.aload 5, 2) := by decide +kernel
theorem dX3_add_59 : decode cX3_add 59 = .ok (.invokevirtual 62, 3) := by decide +kernel
theorem dX3_add_62 : decode cX3_add 62 = .ok (.aload 4, 2) := by decide +kernel
theorem dX3_add_64 : decode cX3_add 64 = .ok (.invokevirtual 62, 3) := by decide +kernel
theorem dX3_add_67 : decode cX3_add 67 = .ok (.isub, 1) := by decide +kernel
theorem dX3_add_68 : decode cX3_add 68 = .ok (.ireturn, 1) := by decide +kernel
set_option maxRecDepth 20000 in
theorem ggX3_remove_X3_isSet : GoodIn wsX3_remove wsX3_isSet := goodIn_r _ [5] (by decide +kernel) (by decide +kernel)
set_option maxRecDepth 20000 in
theorem gX3_remove_X3_isSet : GoodIn wsX3_remove (va_wsS RX3 38 yX3_isSet wsX3_isSet) := goodIn_app (goodIn_of _ (by decide +kernel)) ggX3_remove_X3_isSet
set_option maxRecDepth 20000 in
theorem ggX3_remove_X3_isRange : GoodIn wsX3_remove wsX3_isRange := goodIn_r _ [8, 9, 10, 4, 11] (by decide +kernel) (by decide +kernel)
set_option maxRecDepth 20000 in
theorem gX3_remove_X3_isRange : GoodIn wsX3_remove (va_wsS RX3 42 yX3_isRange wsX3_isRange) := goodIn_app (goodIn_of _ (by decide +kernel)) ggX3_remove_X3_isRange
set_option maxRecDepth 20000 in
theorem ggX3_remove_X3_keepState : GoodIn wsX3_remove wsX3_keepState := goodIn_r _ [15, 16, 17, 1, 18, 19, 20, 21, 22, 23, 24, 25, 26, 27, 28, 29, 30, 31, 32, 33, 34, 82, 83, 84, 85, 86, 79, 80, 81, 87] (by decide +kernel) (by decide +kernel)
set_option maxRecDepth 20000 in
theorem gX3_remove_X3_keepState : GoodIn wsX3_remove (wsV RX3 46 RX3 yX3_keepState wsX3_keepState) := goodIn_app (goodIn_of _ (by decide +kernel)) ggX3_remove_X3_keepState
set_option maxRecDepth 20000 in
theorem ggX3_remove_X1_excludeAll : GoodIn wsX3_remove wsX1_excludeAll := goodIn_r _ [37, 33, 38, 39, 40, 30, 41, 42, 43, 44, 45, 46, 47, 48, 87] (by decide +kernel) (by decide +kernel)
set_option maxRecDepth 20000 in
theorem gX3_remove_X1_excludeAll_n66 : GoodIn wsX3_remove (wsX1_excludeAll) := ggX3_remove_X1_excludeAll
set_option maxRecDepth 20000 in
theorem ggX3_remove_X2_countConversions : GoodIn wsX3_remove wsX2_countConversions := goodIn_r _ [51, 28, 52, 30, 53, 54, 55, 56, 57, 58, 59, 60, 61, 62, 33, 63, 64, 65, 66, 67, 68, 69, 70, 71, 72, 73, 38, 74, 4, 75, 79, 80, 81, 87] (by decide +kernel) (by decide +kernel)
set_option maxRecDepth 20000 in
theorem gX3_remove_X2_countConversions_n58 : GoodIn wsX3_remove (wsX2_countConversions) := ggX3_remove_X2_countConversions
set_option maxRecDepth 20000 in
theorem ggX3_remove_X1_count : GoodIn wsX3_remove wsX1_count := goodIn_r _ [78, 55, 56, 57, 30, 58, 59, 60, 61, 62, 33, 63, 64, 65, 66, 67, 68, 69, 87] (by decide +kernel) (by decide +kernel)
set_option maxRecDepth 20000 in
theorem gX3_remove_X1_count_n62 : GoodIn wsX3_remove (wsX1_count) := ggX3_remove_X1_count
theorem dX3_remove_0 : decode cX3_remove 0 = .ok (.iload_n 1, 1) := by decide +kernel
theorem dX3_remove_1 : decode cX3_remove 1 = .ok (.invokestatic 38, 3) := by decide +kernel
theorem dX3_remove_4 : decode cX3_remove 4 = .ok (.ifCond .eq 11, 3) := by decide +kernel
theorem dX3_remove_7 : decode cX3_remove 7 = .ok (.iload_n 2, 1) := by decide +kernel
theorem dX3_remove_8 : decode cX3_remove 8 = .ok (.iload_n 3, 1) := by decide +kernel
theorem dX3_remove_9 : decode cX3_remove 9 = .ok (.invokestatic 42, 3) := by decide +kernel
theorem dX3_remove_12 : decode cX3_remove 12 = .ok (.ifCond .ne 5, 3) := by decide +kernel
theorem dX3_remove_15 : decode cX3_remove 15 = .ok (.iconst (-1), 1) := by decide +kernel
theorem dX3_remove_16 : decode cX3_remove 16 = .ok (.ireturn, 1) := by decide +kernel
theorem dX3_remove_17 : decode cX3_remove 17 = .ok (.aload_n 0, 1) := by decide +kernel
theorem dX3_remove_18 : decode cX3_remove 18 = .ok (.invokevirtual 46, 3) := by decide +kernel
theorem dX3_remove_21 : decode cX3_remove 21 = .ok (.getfield 50, 3) := by decide +kernel
theorem dX3_remove_24 : decode cX3_remove 24 = .ok (.iload_n 1, 1) := by decide +kernel
theorem dX3_remove_25 : decode cX3_remove 25 = .ok (.aaload, 1) := by decide +kernel
theorem dX3_remove_26 : decode cX3_remove 26 = .ok (.astore 4, 2) := by decide +kernel
theorem dX3_remove_28 : decode cX3_remove 28 = .ok (.aload_n 0, 1) := by decide +kernel
theorem dX3_remove_29 : decode cX3_remove 29 = .ok (.getfield 10, 3) := by decide +kernel
theorem dX3_remove_32 : decode cX3_remove 32 = .ok (.getfield 50, 3) := by decide +kernel
theorem dX3_remove_35 : decode cX3_remove 35 = .ok (.iload_n 1, 1) := by decide +kernel
theorem dX3_remove_36 : decode cX3_remove 36 = .ok (.aaload, 1) := by decide +kernel
theorem dX3_remove_37 : decode cX3_remove 37 = .ok (.astore 5, 2) := by decide +kernel
theorem dX3_remove_39 : decode cX3_remove 39 = .ok (.aload 5, 2) := by decide +kernel
theorem dX3_remove_41 : decode cX3_remove 41 = .ok (.iload_n 2, 1) := by decide +kernel
theorem dX3_remove_42 : decode cX3_remove 42 = .ok (.iload_n 3, 1) := by decide +kernel
theorem dX3_remove_43 : decode cX3_remove 43 = .ok (.invokevirtual 66, 3) := by decide +kernel
theorem dX3_remove_46 : decode cX3_remove 46 = .ok (.aload_n 0, 1) := by decide +kernel
theorem dX3_remove_47 : decode cX3_remove 47 = .ok (.getfield 10, 3) := by decide +kernel
theorem dX3_remove_50 : decode cX3_remove 50 = .ok (.aload 4, 2) := by decide +kernel
theorem dX3_remove_52 : decode cX3_remove 52 = .ok (.aload 5, 2) := by decide +kernel
theorem dX3_remove_54 : decode cX3_remove 54 = .ok (.invokevirtual 58, 3) := by decide +kernel
theorem dX3_remove_57 : decode cX3_remove 57 = .ok (.aload 4, 2) := by decide +kernel
theorem dX3_remove_59 : decode cX3_remove 59 = .ok (.invokevirtual 62, 3) := by decide +kernel
theorem dX3_remove_62 : decode cX3_remove 62 = .ok (.aload 5, 2) := by decide +kernel
theorem dX3_remove_64 : decode cX3_remove 64 = .ok (.invokevirtual 62, 3) := by decide +kernel
theorem dX3_remove_67 : decode cX3_remove 67 = .ok (.isub, 1) := by decide +kernel
theorem dX3_remove_68 : decode cX3_remove 68 = .ok (.ireturn, 1) := by decide +kernel
set_option maxRecDepth 20000 in
theorem ggX3_flip_X3_isSet : GoodIn wsX3_flip wsX3_isSet := goodIn_r _ [5] (by decide +kernel) (by decide +kernel)
set_option maxRecDepth 20000 in
theorem gX3_flip_X3_isSet : GoodIn wsX3_flip (va_wsS RX3 38 yX3_isSet wsX3_isSet) := goodIn_app (goodIn_of _ (by decide +kernel)) ggX3_flip_X3_isSet
set_option maxRecDepth 20000 in
theorem ggX3_flip_X3_isRange : GoodIn wsX3_flip wsX3_isRange := goodIn_r _ [8, 9, 10, 4, 11] (by decide +kernel) (by decide +kernel)
set_option maxRecDepth 20000 in
theorem gX3_flip_X3_isRange : GoodIn wsX3_flip (va_wsS RX3 42 yX3_isRange wsX3_isRange) := goodIn_app (goodIn_of _ (by decide +kernel)) ggX3_flip_X3_isRange
set_option maxRecDepth 20000 in
theorem ggX3_flip_X3_keepState : GoodIn wsX3_flip wsX3_keepState := goodIn_r _ [15, 16, 17, 1, 18, 19, 20, 21, 22, 23, 24, 25, 26, 27, 28, 29, 30, 31, 32, 33, 34, 82, 83, 84, 85, 86, 79, 80, 81, 87] (by decide +kernel) (by decide +kernel)
set_option maxRecDepth 20000 in
theorem gX3_flip_X3_keepState : GoodIn wsX3_flip (wsV RX3 46 RX3 yX3_keepState wsX3_keepState) := goodIn_app (goodIn_of _ (by decide +kernel)) ggX3_flip_X3_keepState
set_option maxRecDepth 20000 in
theorem ggX3_flip_X1_turnAll : GoodIn wsX3_flip wsX1_turnAll := goodIn_r _ [37, 33, 38, 39, 30, 40, 41, 42, 43, 44, 45, 46, 47, 48, 87] (by decide +kernel) (by decide +kernel)
set_option maxRecDepth 20000 in
theorem gX3_flip_X1_turnAll_n69 : GoodIn wsX3_flip (wsX1_turnAll) := ggX3_flip_X1_turnAll
set_option maxRecDepth 20000 in
theorem ggX3_flip_X2_countConversions : GoodIn wsX3_flip wsX2_countConversions := goodIn_r _ [51, 28, 52, 30, 53, 54, 55, 56, 57, 58, 59, 60, 61, 62, 33, 63, 64, 65, 66, 67, 68, 69, 70, 71, 72, 73, 48, 74, 4, 75, 79, 80, 81, 87] (by decide +kernel) (by decide +kernel)
set_option maxRecDepth 20000 in
theorem gX3_flip_X2_countConversions_n58 : GoodIn wsX3_flip (wsX2_countConversions) := ggX3_flip_X2_countConversions
set_option maxRecDepth 20000 in
theorem ggX3_flip_X1_countIn : GoodIn wsX3_flip wsX1_countIn := goodIn_r _ [78, 33, 38, 39, 30, 40, 41, 42, 43, 44, 45, 46, 47, 48, 63, 64, 65, 66, 67, 68, 69, 87] (by decide +kernel) (by decide +kernel)
set_option maxRecDepth 20000 in
theorem gX3_flip_X1_countIn_n72 : GoodIn wsX3_flip (wsX1_countIn) := ggX3_flip_X1_countIn
theorem dX3_flip_0 : decode cX3_flip 0 = .ok (.iload_n 1, 1) := by decide +kernel
theorem dX3_flip_1 : decode cX3_flip 1 = .ok (.invokestatic 38, 3) := by decide +kernel
theorem dX3_flip_4 : decode cX3_flip 4 = .ok (.ifCond .eq 11, 3) := by decide +kernel
theorem dX3_flip_7 : decode cX3_flip 7 = .ok (.iload_n 2, 1) := by decide +kernel
theorem dX3_flip_8 : decode cX3_flip 8 = .ok (.iload_n 3, 1) := by decide +kernel
theorem dX3_flip_9 : decode cX3_flip 9 = .ok (.invokestatic 42, 3) := by decide +kernel
theorem dX3_flip_12 : decode cX3_flip 12 = .ok (.ifCond .ne 5, 3) := by decide +kernel
theorem dX3_flip_15 : decode cX3_flip 15 = .ok (.iconst (-1), 1) := by decide +kernel
theorem dX3_flip_16 : decode cX3_flip 16 = .ok (.ireturn, 1) := by decide +kernel
theorem dX3_flip_17 : decode cX3_flip 17 = .ok (.aload_n 0, 1) := by decide +kernel
theorem dX3_flip_18 : decode cX3_flip 18 = .ok (.invokevirtual 46, 3) := by decide +kernel
theorem dX3_flip_21 : decode cX3_flip 21 = .ok (.getfield 50, 3) := by decide +kernel
theorem dX3_flip_24 : decode cX3_flip 24 = .ok (.iload_n 1, 1) := by decide +kernel
theorem dX3_flip_25 : decode cX3_flip 25 = .ok (.aaload, 1) := by decide +kernel
theorem dX3_flip_26 : decode cX3_flip 26 = .ok (.astore 4, 2) := by decide +kernel
theorem dX3_flip_28 : decode cX3_flip 28 = .ok (.aload_n 0, 1) := by decide +kernel
theorem dX3_flip_29 : decode cX3_flip 29 = .ok (.getfield 10, 3) := by decide +kernel
theorem dX3_flip_32 : decode cX3_flip 32 = .ok (.getfield 50, 3) := by decide +kernel
theorem dX3_flip_35 : decode cX3_flip 35 = .ok (.iload_n 1, 1) := by decide +kernel
theorem dX3_flip_36 : decode cX3_flip 36 = .ok (.aaload, 1) := by decide +kernel
theorem dX3_flip_37 : decode cX3_flip 37 = .ok (.astore 5, 2) := by decide +kernel
theorem dX3_flip_39 : decode cX3_flip 39 = .ok (.aload 5, 2) := by decide +kernel
theorem dX3_flip_41 : decode cX3_flip 41 = .ok (.iload_n 2, 1) := by decide +kernel
theorem dX3_flip_42 : decode cX3_flip 42 = .ok (.iload_n 3, 1) := by decide +kernel
theorem dX3_flip_43 : decode cX3_flip 43 = .ok (.invokevirtual 69, 3) := by decide +kernel
theorem dX3_flip_46 : decode cX3_flip 46 = .ok (.aload_n 0, 1) := by decide +kernel
theorem dX3_flip_47 : decode cX3_flip 47 = .ok (.getfield 10, 3) := by decide +kernel
theorem dX3_flip_50 : decode cX3_flip 50 = .ok (.aload 4, 2) := by decide +kernel
theorem dX3_flip_52 : decode cX3_flip 52 = .ok (.aload 5, 2) := by decide +kernel
theorem dX3_flip_54 : decode cX3_flip 54 = .ok (.invokevirtual 58, 3) := by decide +kernel
theorem dX3_flip_57 : decode cX3_flip 57 = .ok (.aload 5, 2) := by decide +kernel
theorem dX3_flip_59 : decode cX3_flip 59 = .ok (.iload_n 2, 1) := by decide +kernel
theorem dX3_flip_60 : decode cX3_flip 60 = .ok (.iload_n 3, 1) := by decide +kernel
theorem dX3_flip_61 : decode cX3_flip 61 = .ok (.invokevirtual 72, 3) := by decide +kernel
theorem dX3_flip_64 : decode cX3_flip 64 = .ok (.ireturn, 1) := by decide +kernel
set_option maxRecDepth 20000 in
theorem ggX3_scatter_X3_isSet : GoodIn wsX3_scatter wsX3_isSet := goodIn_r _ [6] (by decide +kernel) (by decide +kernel)
set_option maxRecDepth 20000 in
theorem gX3_scatter_X3_isSet : GoodIn wsX3_scatter (va_wsS RX3 38 yX3_isSet wsX3_isSet) := goodIn_app (goodIn_of _ (by decide +kernel)) ggX3_scatter_X3_isSet
set_option maxRecDepth 20000 in
theorem ggX3_scatter_X3_keepState : GoodIn wsX3_scatter wsX3_keepState := goodIn_r _ [10, 11, 12, 1, 13, 14, 15, 16, 17, 18, 19, 20, 21, 22, 23, 24, 25, 26, 27, 28, 29, 69, 70, 71, 72, 73, 66, 67, 68, 74] (by decide +kernel) (by decide +kernel)
set_option maxRecDepth 20000 in
theorem gX3_scatter_X3_keepState : GoodIn wsX3_scatter (wsV RX3 46 RX3 yX3_keepState wsX3_keepState) := goodIn_app (goodIn_of _ (by decide +kernel)) ggX3_scatter_X3_keepState
set_option maxRecDepth 20000 in
theorem ggX3_scatter_X1_include : GoodIn wsX3_scatter wsX1_include := goodIn_r _ [32, 28, 33, 5, 34, 74] (by decide +kernel) (by decide +kernel)
set_option maxRecDepth 20000 in
theorem gX3_scatter_X1_include_n77 : GoodIn wsX3_scatter (wsX1_include) := ggX3_scatter_X1_include
set_option maxRecDepth 20000 in
theorem ggX3_scatter_X2_countConversions : GoodIn wsX3_scatter wsX2_countConversions := goodIn_r _ [37, 23, 38, 25, 39, 40, 41, 42, 43, 44, 45, 46, 47, 48, 28, 49, 50, 51, 52, 53, 54, 55, 56, 57, 58, 59, 60, 61, 5, 62, 66, 67, 68, 74] (by decide +kernel) (by decide +kernel)
set_option maxRecDepth 20000 in
theorem gX3_scatter_X2_countConversions_n58 : GoodIn wsX3_scatter (wsX2_countConversions) := ggX3_scatter_X2_countConversions
set_option maxRecDepth 20000 in
theorem ggX3_scatter_X1_count : GoodIn wsX3_scatter wsX1_count := goodIn_r _ [65, 41, 42, 43, 25, 44, 45, 46, 47, 48, 28, 49, 50, 51, 52, 53, 54, 55, 74] (by decide +kernel) (by decide +kernel)
set_option maxRecDepth 20000 in
theorem gX3_scatter_X1_count_n62 : GoodIn wsX3_scatter (wsX1_count) := ggX3_scatter_X1_count
theorem dX3_scatter_0 : decode cX3_scatter 0 = .ok (.iload_n 1, 1) := by decide +kernel
theorem dX3_scatter_1 : decode cX3_scatter 1 = .ok (.invokestatic 38, 3) := by decide +kernel
theorem dX3_scatter_4 : decode cX3_scatter 4 = .ok (.ifCond .eq 15, 3) := by decide +kernel
theorem dX3_scatter_7 : decode cX3_scatter 7 = .ok (.iload_n 3, 1) := by decide +kernel
theorem dX3_scatter_8 : decode cX3_scatter 8 = .ok (.iconst 1, 1) := by decide +kernel
theorem dX3_scatter_9 : decode cX3_scatter 9 = .ok (.if_icmp .lt 10, 3) := by decide +kernel
theorem dX3_scatter_12 : decode cX3_scatter 12 = .ok (.iload_n 3, 1) := by decide +kernel
theorem dX3_scatter_13 : decode cX3_scatter 13 = .ok (.sipush 300, 3) := by decide +kernel
theorem dX3_scatter_16 : decode cX3_scatter 16 = .ok (.if_icmp .le 5, 3) := by decide +kernel
theorem dX3_scatter_19 : decode cX3_scatter 19 = .ok (.iconst (-1), 1) := by decide +kernel
theorem dX3_scatter_20 : decode cX3_scatter 20 = .ok (.ireturn, 1) := by decide +kernel
theorem dX3_scatter_21 : decode cX3_scatter 21 = .ok (.aload_n 0, 1) := by decide +kernel
theorem dX3_scatter_22 : decode cX3_scatter 22 = .ok (.invokevirtual 46, 3) := by decide +kernel
theorem dX3_scatter_25 : decode cX3_scatter 25 = .ok (.getfield 50, 3) := by decide +kernel
theorem dX3_scatter_28 : decode cX3_scatter 28 = .ok (.iload_n 1, 1) := by decide +kernel
theorem dX3_scatter_29 : decode cX3_scatter 29 = .ok (.aaload, 1) := by decide +kernel
theorem dX3_scatter_30 : decode cX3_scatter 30 = .ok (.astore 4, 2) := by decide +kernel
theorem dX3_scatter_32 : decode cX3_scatter 32 = .ok (.aload_n 0, 1) := by decide +kernel
theorem dX3_scatter_33 : decode cX3_scatter 33 = .ok (.getfield 10, 3) := by decide +kernel
theorem dX3_scatter_36 : decode cX3_scatter 36 = .ok (.getfield 50, 3) := by decide +kernel
theorem dX3_scatter_39 : decode cX3_scatter 39 = .ok (.iload_n 1, 1) := by decide +kernel
theorem dX3_scatter_40 : decode cX3_scatter 40 = .ok (.aaload, 1) := by decide +kernel
theorem dX3_scatter_41 : decode cX3_scatter 41 = .ok (.astore 5, 2) := by decide +kernel
theorem dX3_scatter_43 : decode cX3_scatter 43 = .ok (.iload_n 2, 1) := by decide +kernel
theorem dX3_scatter_44 : decode cX3_scatter 44 = .ok (.istore 6, 2) := by decide +kernel
theorem dX3_scatter_46 : decode cX3_scatter 46 = .ok (.iconst 0, 1) := by decide +kernel
theorem dX3_scatter_47 : decode cX3_scatter 47 = .ok (.istore 7, 2) := by decide +kernel
theorem dX3_scatter_49 : decode cX3_scatter 49 = .ok (.iload 7, 2) := by decide +kernel
theorem dX3_scatter_51 : decode cX3_scatter 51 = .ok (.iload_n 3, 1) := by decide +kernel
theorem dX3_scatter_52 : decode cX3_scatter 52 = .ok (.if_icmp .ge 34, 3) := by decide +kernel
theorem dX3_scatter_55 : decode cX3_scatter 55 = .ok (.ldc 76, 2) := by decide +kernel
theorem dX3_scatter_57 : decode cX3_scatter 57 = .ok (.iload 6, 2) := by decide +kernel
theorem dX3_scatter_59 : decode cX3_scatter 59 = .ok (.imul, 1) := by decide +kernel
theorem dX3_scatter_60 : decode cX3_scatter 60 = .ok (.sipush 12345, 3) := by decide +kernel
theorem dX3_scatter_63 : decode cX3_scatter 63 = .ok (.iadd, 1) := by decide +kernel
theorem dX3_scatter_64 : decode cX3_scatter 64 = .ok (.istore 6, 2) := by decide +kernel
theorem dX3_scatter_66 : decode cX3_scatter 66 = .ok (.aload 5, 2) := by decide +kernel
theorem dX3_scatter_68 : decode cX3_scatter 68 = .ok (.iload 6, 2) := by decide +kernel
theorem dX3_scatter_70 : decode cX3_scatter 70 = .ok (.bipush 16, 2) := by decide +kernel
theorem dX3_scatter_72 : decode cX3_scatter 72 = .ok (.iushr, 1) := by decide +kernel
theorem dX3_scatter_73 : decode cX3_scatter 73 = .ok (.sipush 4096, 3) := by decide +kernel
theorem dX3_scatter_76 : decode cX3_scatter 76 = .ok (.irem, 1) := by decide +kernel
theorem dX3_scatter_77 : decode cX3_scatter 77 = .ok (.invokevirtual 77, 3) := by decide +kernel
theorem dX3_scatter_80 : decode cX3_scatter 80 = .ok (.iinc 7 1, 3) := by decide +kernel
theorem dX3_scatter_83 : decode cX3_scatter 83 = .ok (.goto (-34), 3) := by decide +kernel
theorem dX3_scatter_86 : decode cX3_scatter 86 = .ok (.aload_n 0, 1) := by decide +kernel
theorem dX3_scatter_87 : decode cX3_scatter 87 = .ok (.getfield 10, 3) := by decide +kernel
theorem dX3_scatter_90 : decode cX3_scatter 90 = .ok (.aload 4, 2) := by decide +kernel
theorem dX3_scatter_92 : decode cX3_scatter 92 = .ok (.aload 5, 2) := by decide +kernel
theorem dX3_scatter_94 : decode cX3_scatter 94 = .ok (.invokevirtual 58, 3) := by decide +kernel
theorem dX3_scatter_97 : decode cX3_scatter 97 = .ok (.aload 5, 2) := by decide +kernel
theorem dX3_scatter_99 : decode cX3_scatter 99 = .ok (.invokevirtual 62, 3) := by decide +kernel
theorem dX3_scatter_102 : decode cX3_scatter 102 = .ok (.ireturn, 1) := by decide +kernel
set_option maxRecDepth 20000 in
theorem ggX3_combine_X3_isSet : GoodIn wsX3_combine wsX3_isSet := goodIn_r _ [5] (by decide +kernel) (by decide +kernel)
set_option maxRecDepth 20000 in
theorem gX3_combine_X3_isSet : GoodIn wsX3_combine (va_wsS RX3 38 yX3_isSet wsX3_isSet) := goodIn_app (goodIn_of _ (by decide +kernel)) ggX3_combine_X3_isSet
set_option maxRecDepth 20000 in
theorem ggX3_combine_X3_keepState : GoodIn wsX3_combine wsX3_keepState := goodIn_r _ [9, 10, 11, 1, 12, 13, 14, 15, 16, 17, 18, 19, 20, 21, 22, 23, 24, 25, 26, 27, 28, 69, 70, 71, 72, 73, 74, 75, 76, 77] (by decide +kernel) (by decide +kernel)
set_option maxRecDepth 20000 in
theorem gX3_combine_X3_keepState : GoodIn wsX3_combine (wsV RX3 46 RX3 yX3_keepState wsX3_keepState) := goodIn_app (goodIn_of _ (by decide +kernel)) ggX3_combine_X3_keepState
set_option maxRecDepth 20000 in
theorem ggX3_combine_X1_becomeJoin : GoodIn wsX3_combine wsX1_becomeJoin := goodIn_r _ [31, 27, 32, 33, 24, 34, 35, 77] (by decide +kernel) (by decide +kernel)
set_option maxRecDepth 20000 in
theorem gX3_combine_X1_becomeJoin_n81 : GoodIn wsX3_combine (wsX1_becomeJoin) := ggX3_combine_X1_becomeJoin
set_option maxRecDepth 20000 in
theorem ggX3_combine_X2_countMeetings : GoodIn wsX3_combine wsX2_countMeetings := goodIn_r _ [38, 17, 39, 24, 40, 41, 42, 43, 44, 45, 46, 47, 48, 49, 27, 50, 51, 52, 53, 54, 55, 56, 57, 58, 59, 60, 35, 61, 4, 62, 74, 75, 76, 77] (by decide +kernel) (by decide +kernel)
set_option maxRecDepth 20000 in
theorem gX3_combine_X2_countMeetings_n85 : GoodIn wsX3_combine (wsX2_countMeetings) := ggX3_combine_X2_countMeetings
set_option maxRecDepth 20000 in
theorem ggX3_combine_X2_countConversions : GoodIn wsX3_combine wsX2_countConversions := goodIn_r _ [65, 22, 39, 24, 40, 41, 42, 43, 44, 45, 46, 47, 48, 49, 27, 50, 51, 52, 53, 54, 55, 56, 57, 58, 59, 60, 35, 61, 4, 62, 74, 75, 76, 77] (by decide +kernel) (by decide +kernel)
set_option maxRecDepth 20000 in
theorem gX3_combine_X2_countConversions_n58 : GoodIn wsX3_combine (wsX2_countConversions) := ggX3_combine_X2_countConversions
set_option maxRecDepth 20000 in
theorem ggX3_combine_X1_count : GoodIn wsX3_combine wsX1_count := goodIn_r _ [68, 42, 43, 44, 24, 45, 46, 47, 48, 49, 27, 50, 51, 52, 53, 54, 55, 56, 77] (by decide +kernel) (by decide +kernel)
set_option maxRecDepth 20000 in
theorem gX3_combine_X1_count_n62 : GoodIn wsX3_combine (wsX1_count) := ggX3_combine_X1_count
theorem dX3_combine_0 : decode cX3_combine 0 = .ok (.iload_n 1, 1) := by decide +kernel
theorem dX3_combine_1 : decode cX3_combine 1 = .ok (.ifCond .lt 30, 3) := by decide +kernel
theorem dX3_combine_4 : decode cX3_combine 4 = .ok (.iload_n 1, 1) := by decide +kernel
theorem dX3_combine_5 : decode cX3_combine 5 = .ok (.iconst 3, 1) := by decide +kernel
theorem dX3_combine_6 : decode cX3_combine 6 = .ok (.if_icmp .gt 25, 3) := by decide +kernel
theorem dX3_combine_9 : decode cX3_combine 9 = .ok (.iload_n 2, 1) := by decide +kernel
theorem dX3_combine_10 : decode cX3_combine 10 = .ok (.invokestatic 38, 3) := by decide +kernel
theorem dX3_combine_13 : decode cX3_combine 13 = .ok (.ifCond .eq 18, 3) := by decide +kernel
theorem dX3_combine_16 : decode cX3_combine 16 = .ok (.iload_n 3, 1) := by decide +kernel
theorem dX3_combine_17 : decode cX3_combine 17 = .ok (.invokestatic 38, 3) := by decide +kernel
theorem dX3_combine_20 : decode cX3_combine 20 = .ok (.ifCond .eq 11, 3) := by decide +kernel
theorem dX3_combine_23 : decode cX3_combine 23 = .ok (.iload 4, 2) := by decide +kernel
theorem dX3_combine_25 : decode cX3_combine 25 = .ok (.invokestatic 38, 3) := by decide +kernel
theorem dX3_combine_28 : decode cX3_combine 28 = .ok (.ifCond .ne 5, 3) := by decide +kernel
theorem dX3_combine_31 : decode cX3_combine 31 = .ok (.iconst (-1), 1) := by decide +kernel
theorem dX3_combine_32 : decode cX3_combine 32 = .ok (.ireturn, 1) := by decide +kernel
theorem dX3_combine_33 : decode cX3_combine 33 = .ok (.aload_n 0, 1) := by decide +kernel
theorem dX3_combine_34 : decode cX3_combine 34 = .ok (.invokevirtual 46, 3) := by decide +kernel
theorem dX3_combine_37 : decode cX3_combine 37 = .ok (.astore 5, 2) := by decide +kernel
theorem dX3_combine_39 : decode cX3_combine 39 = .ok (.aload_n 0, 1) := by decide +kernel
theorem dX3_combine_40 : decode cX3_combine 40 = .ok (.getfield 10, 3) := by decide +kernel
theorem dX3_combine_43 : decode cX3_combine 43 = .ok (.getfield 50, 3) := by decide +kernel
theorem dX3_combine_46 : decode cX3_combine 46 = .ok (.iload 4, 2) := by decide +kernel
theorem dX3_combine_48 : decode cX3_combine 48 = .ok (.aaload, 1) := by decide +kernel
theorem dX3_combine_49 : decode cX3_combine 49 = .ok (.astore 6, 2) := by decide +kernel
theorem dX3_combine_51 : decode cX3_combine 51 = .ok (.aload 6, 2) := by decide +kernel
theorem dX3_combine_53 : decode cX3_combine 53 = .ok (.iload_n 1, 1) := by decide +kernel
theorem dX3_combine_54 : decode cX3_combine 54 = .ok (.aload 5, 2) := by decide +kernel
theorem dX3_combine_56 : decode cX3_combine 56 = .ok (.getfield 50, 3) := by decide +kernel
theorem dX3_combine_59 : decode cX3_combine 59 = .ok (.iload_n 2, 1) := by decide +kernel
theorem dX3_combine_60 : decode cX3_combine 60 = .ok (.aaload, 1) := by decide +kernel
theorem dX3_combine_61 : decode cX3_combine 61 = .ok (.aload 5, 2) := by decide +kernel
theorem dX3_combine_63 : decode cX3_combine 63 = .ok (.getfield 50, 3) := by decide +kernel
theorem dX3_combine_66 : decode cX3_combine 66 = .ok (.iload_n 3, 1) := by decide +kernel
theorem dX3_combine_67 : decode cX3_combine 67 = .ok (.aaload, 1) := by decide +kernel
theorem dX3_combine_68 : decode cX3_combine 68 = .ok (.invokevirtual 81, 3) := by decide +kernel
theorem dX3_combine_71 : decode cX3_combine 71 = .ok (.aload_n 0, 1) := by decide +kernel
theorem dX3_combine_72 : decode cX3_combine 72 = .ok (.getfield 10, 3) := by decide +kernel
theorem dX3_combine_75 : decode cX3_combine 75 = .ok (.aload 5, 2) := by decide +kernel
theorem dX3_combine_77 : decode cX3_combine 77 = .ok (.getfield 50, 3) := by decide +kernel
theorem dX3_combine_80 : decode cX3_combine 80 = .ok (.iload_n 2, 1) := by decide +kernel
theorem dX3_combine_81 : decode cX3_combine 81 = .ok (.aaload, 1) := by decide +kernel
theorem dX3_combine_82 : decode cX3_combine 82 = .ok (.aload 5, 2) := by decide +kernel
theorem dX3_combine_84 : decode cX3_combine 84 = .ok (.getfield 50, 3) := by decide +kernel
theorem dX3_combine_87 : decode cX3_combine 87 = .ok (.iload_n 3, 1) := by decide +kernel
theorem dX3_combine_88 : decode cX3_combine 88 = .ok (.aaload, 1) := by decide +kernel
theorem dX3_combine_89 : decode cX3_combine 89 = .ok (.invokevirtual 85, 3) := by decide +kernel
theorem dX3_combine_92 : decode cX3_combine 92 = .ok (.aload_n 0, 1) := by decide +kernel
theorem dX3_combine_93 : decode cX3_combine 93 = .ok (.getfield 10, 3) := by decide +kernel
theorem dX3_combine_96 : decode cX3_combine 96 = .ok (.aload 5, 2) := by decide +kernel
theorem dX3_combine_98 : decode cX3_combine 98 = .ok (.getfield 50, 3) := by decide +kernel
theorem dX3_combine_101 : decode cX3_combine 101 = .ok (.iload 4, 2) := by decide +kernel
theorem dX3_combine_103 : decode cX3_combine 103 = .ok (.aaload, 1) := by decide +kernel
theorem dX3_combine_104 : decode cX3_combine 104 = .ok (.aload 6, 2) := by decide +kernel
theorem dX3_combine_106 : decode cX3_combine 106 = .ok (.invokevirtual 58, 3) := by decide +kernel
theorem dX3_combine_109 : decode cX3_combine 109 = .ok (.aload 6, 2) := by decide +kernel
theorem dX3_combine_111 : decode cX3_combine 111 = .ok (.invokevirtual 62, 3) := by decide +kernel
theorem dX3_combine_114 : decode cX3_combine 114 = .ok (.ireturn, 1) := by decide +kernel
end
section
set_option maxRecDepth 20000 in
theorem ggX3_shift_X3_isSet : GoodIn wsX3_shift wsX3_isSet := goodIn_r _ [5] (by decide +kernel) (by decide +kernel)
set_option maxRecDepth 20000 in
theorem gX3_shift_X3_isSet : GoodIn wsX3_shift (va_wsS RX3 38 yX3_isSet wsX3_isSet) := goodIn_app (goodIn_of _ (by decide +kernel)) ggX3_shift_X3_isSet
set_option maxRecDepth 20000 in
theorem ggX3_shift_X3_keepState : GoodIn wsX3_shift wsX3_keepState := goodIn_r _ [9, 10, 11, 1, 12, 13, 14, 15, 16, 17, 18, 19, 20, 21, 22, 23, 24, 25, 26, 27, 28, 66, 67, 68, 69, 70, 63, 64, 65, 71] (by decide +kernel) (by decide +kernel)
set_option maxRecDepth 20000 in
theorem gX3_shift_X3_keepState : GoodIn wsX3_shift (wsV RX3 46 RX3 yX3_keepState wsX3_keepState) := goodIn_app (goodIn_of _ (by decide +kernel)) ggX3_shift_X3_keepState
set_option maxRecDepth 20000 in
theorem ggX3_shift_X1_becomeMoved : GoodIn wsX3_shift wsX1_becomeMoved := goodIn_r _ [31, 27, 32, 33, 34, 24, 35, 71] (by decide +kernel) (by decide +kernel)
set_option maxRecDepth 20000 in
theorem gX3_shift_X1_becomeMoved_n88 : GoodIn wsX3_shift (wsX1_becomeMoved) := ggX3_shift_X1_becomeMoved
set_option maxRecDepth 20000 in
theorem ggX3_shift_X2_countConversions : GoodIn wsX3_shift wsX2_countConversions := goodIn_r _ [38, 22, 39, 24, 40, 41, 42, 43, 44, 45, 32, 33, 34, 35, 27, 46, 47, 48, 49, 50, 51, 52, 53, 54, 55, 56, 57, 58, 4, 59, 63, 64, 65, 71] (by decide +kernel) (by decide +kernel)
set_option maxRecDepth 20000 in
theorem gX3_shift_X2_countConversions_n58 : GoodIn wsX3_shift (wsX2_countConversions) := ggX3_shift_X2_countConversions
set_option maxRecDepth 20000 in
theorem ggX3_shift_X1_count : GoodIn wsX3_shift wsX1_count := goodIn_r _ [62, 42, 43, 44, 24, 45, 32, 33, 34, 35, 27, 46, 47, 48, 49, 50, 51, 52, 71] (by decide +kernel) (by decide +kernel)
set_option maxRecDepth 20000 in
theorem gX3_shift_X1_count_n62 : GoodIn wsX3_shift (wsX1_count) := ggX3_shift_X1_count
theorem dX3_shift_0 : decode cX3_shift 0 = .ok (.iload_n 1, 1) := by decide +kernel
theorem dX3_shift_1 : decode cX3_shift 1 = .ok (.invokestatic 38, 3) := by decide +kernel
theorem dX3_shift_4 : decode cX3_shift 4 = .ok (.ifCond .eq 17, 3) := by decide +kernel
theorem dX3_shift_7 : decode cX3_shift 7 = .ok (.iload_n 2, 1) := by decide +kernel
theorem dX3_shift_8 : decode cX3_shift 8 = .ok (.sipush (-4096), 3) := by decide +kernel
theorem dX3_shift_11 : decode cX3_shift 11 = .ok (.if_icmp .le 10, 3) := by decide +kernel
theorem dX3_shift_14 : decode cX3_shift 14 = .ok (.iload_n 2, 1) := by decide +kernel
theorem dX3_shift_15 : decode cX3_shift 15 = .ok (.sipush 4096, 3) := by decide +kernel
theorem dX3_shift_18 : decode cX3_shift 18 = .ok (.if_icmp .lt 5, 3) := by decide +kernel
theorem dX3_shift_21 : decode cX3_shift 21 = .ok (.iconst (-1), 1) := by decide +kernel
theorem dX3_shift_22 : decode cX3_shift 22 = .ok (.ireturn, 1) := by decide +kernel
theorem dX3_shift_23 : decode cX3_shift 23 = .ok (.aload_n 0, 1) := by decide +kernel
theorem dX3_shift_24 : decode cX3_shift 24 = .ok (.invokevirtual 46, 3) := by decide +kernel
theorem dX3_shift_27 : decode cX3_shift 27 = .ok (.getfield 50, 3) := by decide +kernel
theorem dX3_shift_30 : decode cX3_shift 30 = .ok (.iload_n 1, 1) := by decide +kernel
theorem dX3_shift_31 : decode cX3_shift 31 = .ok (.aaload, 1) := by decide +kernel
theorem dX3_shift_32 : decode cX3_shift 32 = .ok (.astore_n 3, 1) := by decide +kernel
theorem dX3_shift_33 : decode cX3_shift 33 = .ok (.aload_n 0, 1) := by decide +kernel
theorem dX3_shift_34 : decode cX3_shift 34 = .ok (.getfield 10, 3) := by decide +kernel
theorem dX3_shift_37 : decode cX3_shift 37 = .ok (.getfield 50, 3) := by decide +kernel
theorem dX3_shift_40 : decode cX3_shift 40 = .ok (.iload_n 1, 1) := by decide +kernel
theorem dX3_shift_41 : decode cX3_shift 41 = .ok (.aaload, 1) := by decide +kernel
theorem dX3_shift_42 : decode cX3_shift 42 = .ok (.astore 4, 2) := by decide +kernel
theorem dX3_shift_44 : decode cX3_shift 44 = .ok (.aload 4, 2) := by decide +kernel
theorem dX3_shift_46 : decode cX3_shift 46 = .ok (.aload_n 3, 1) := by decide +kernel
theorem dX3_shift_47 : decode cX3_shift 47 = .ok (.iload_n 2, 1) := by decide +kernel
theorem dX3_shift_48 : decode cX3_shift 48 = .ok (.invokevirtual 88, 3) := by decide +kernel
theorem dX3_shift_51 : decode cX3_shift 51 = .ok (.aload_n 0, 1) := by decide +kernel
theorem dX3_shift_52 : decode cX3_shift 52 = .ok (.getfield 10, 3) := by decide +kernel
theorem dX3_shift_55 : decode cX3_shift 55 = .ok (.aload_n 3, 1) := by decide +kernel
theorem dX3_shift_56 : decode cX3_shift 56 = .ok (.aload 4, 2) := by decide +kernel
theorem dX3_shift_58 : decode cX3_shift 58 = .ok (.invokevirtual 58, 3) := by decide +kernel
theorem dX3_shift_61 : decode cX3_shift 61 = .ok (.aload_n 3, 1) := by decide +kernel
theorem dX3_shift_62 : decode cX3_shift 62 = .ok (.invokevirtual 62, 3) := by decide +kernel
theorem dX3_shift_65 : decode cX3_shift 65 = .ok (.aload 4, 2) := by decide +kernel
theorem dX3_shift_67 : decode cX3_shift 67 = .ok (.invokevirtual 62, 3) := by decide +kernel
theorem dX3_shift_70 : decode cX3_shift 70 = .ok (.isub, 1) := by decide +kernel
theorem dX3_shift_71 : decode cX3_shift 71 = .ok (.ireturn, 1) := by decide +kernel
set_option maxRecDepth 20000 in
theorem ggX3_size_X3_isSet : GoodIn wsX3_size wsX3_isSet := goodIn_r _ [5] (by decide +kernel) (by decide +kernel)
set_option maxRecDepth 20000 in
theorem gX3_size_X3_isSet : GoodIn wsX3_size (va_wsS RX3 38 yX3_isSet wsX3_isSet) := goodIn_app (goodIn_of _ (by decide +kernel)) ggX3_size_X3_isSet
set_option maxRecDepth 20000 in
theorem ggX3_size_X1_count : GoodIn wsX3_size wsX1_count := goodIn_r _ [9, 10, 11, 12, 7, 13, 14, 15, 16, 17, 18, 19, 20, 21, 22, 23, 24, 25, 34] (by decide +kernel) (by decide +kernel)
set_option maxRecDepth 20000 in
theorem gX3_size_X1_count_n62 : GoodIn wsX3_size (wsX1_count) := ggX3_size_X1_count
theorem dX3_size_0 : decode cX3_size 0 = .ok (.iload_n 1, 1) := by decide +kernel
theorem dX3_size_1 : decode cX3_size 1 = .ok (.invokestatic 38, 3) := by decide +kernel
theorem dX3_size_4 : decode cX3_size 4 = .ok (.ifCond .ne 5, 3) := by decide +kernel
theorem dX3_size_7 : decode cX3_size 7 = .ok (.iconst (-1), 1) := by decide +kernel
theorem dX3_size_8 : decode cX3_size 8 = .ok (.ireturn, 1) := by decide +kernel
theorem dX3_size_9 : decode cX3_size 9 = .ok (.aload_n 0, 1) := by decide +kernel
theorem dX3_size_10 : decode cX3_size 10 = .ok (.getfield 10, 3) := by decide +kernel
theorem dX3_size_13 : decode cX3_size 13 = .ok (.getfield 50, 3) := by decide +kernel
theorem dX3_size_16 : decode cX3_size 16 = .ok (.iload_n 1, 1) := by decide +kernel
theorem dX3_size_17 : decode cX3_size 17 = .ok (.aaload, 1) := by decide +kernel
theorem dX3_size_18 : decode cX3_size 18 = .ok (.invokevirtual 62, 3) := by decide +kernel
theorem dX3_size_21 : decode cX3_size 21 = .ok (.ireturn, 1) := by decide +kernel
set_option maxRecDepth 20000 in
theorem ggX3_contains_X3_isSet : GoodIn wsX3_contains wsX3_isSet := goodIn_r _ [5] (by decide +kernel) (by decide +kernel)
set_option maxRecDepth 20000 in
theorem gX3_contains_X3_isSet : GoodIn wsX3_contains (va_wsS RX3 38 yX3_isSet wsX3_isSet) := goodIn_app (goodIn_of _ (by decide +kernel)) ggX3_contains_X3_isSet
set_option maxRecDepth 20000 in
theorem ggX3_contains_X1_holds : GoodIn wsX3_contains wsX1_holds := goodIn_r _ [9, 10, 11, 4, 12, 21] (by decide +kernel) (by decide +kernel)
set_option maxRecDepth 20000 in
theorem gX3_contains_X1_holds_n92 : GoodIn wsX3_contains (wsX1_holds) := ggX3_contains_X1_holds
theorem dX3_contains_0 : decode cX3_contains 0 = .ok (.iload_n 1, 1) := by decide +kernel
theorem dX3_contains_1 : decode cX3_contains 1 = .ok (.invokestatic 38, 3) := by decide +kernel
theorem dX3_contains_4 : decode cX3_contains 4 = .ok (.ifCond .ne 5, 3) := by decide +kernel
theorem dX3_contains_7 : decode cX3_contains 7 = .ok (.iconst (-1), 1) := by decide +kernel
theorem dX3_contains_8 : decode cX3_contains 8 = .ok (.ireturn, 1) := by decide +kernel
theorem dX3_contains_9 : decode cX3_contains 9 = .ok (.aload_n 0, 1) := by decide +kernel
theorem dX3_contains_10 : decode cX3_contains 10 = .ok (.getfield 10, 3) := by decide +kernel
theorem dX3_contains_13 : decode cX3_contains 13 = .ok (.getfield 50, 3) := by decide +kernel
theorem dX3_contains_16 : decode cX3_contains 16 = .ok (.iload_n 1, 1) := by decide +kernel
theorem dX3_contains_17 : decode cX3_contains 17 = .ok (.aaload, 1) := by decide +kernel
theorem dX3_contains_18 : decode cX3_contains 18 = .ok (.iload_n 2, 1) := by decide +kernel
theorem dX3_contains_19 : decode cX3_contains 19 = .ok (.invokevirtual 92, 3) := by decide +kernel
theorem dX3_contains_22 : decode cX3_contains 22 = .ok (.ifCond .eq 7, 3) := by decide +kernel
theorem dX3_contains_25 : decode cX3_contains 25 = .ok (.iconst 1, 1) := by decide +kernel
theorem dX3_contains_26 : decode cX3_contains 26 = .ok (.goto 4, 3) := by decide +kernel
theorem dX3_contains_29 : decode cX3_contains 29 = .ok (.iconst 0, 1) := by decide +kernel
theorem dX3_contains_30 : decode cX3_contains 30 = .ok (.ireturn, 1) := by decide +kernel
set_option maxRecDepth 20000 in
theorem ggX3_rank_X3_isSet : GoodIn wsX3_rank wsX3_isSet := goodIn_r _ [5] (by decide +kernel) (by decide +kernel)
set_option maxRecDepth 20000 in
theorem gX3_rank_X3_isSet : GoodIn wsX3_rank (va_wsS RX3 38 yX3_isSet wsX3_isSet) := goodIn_app (goodIn_of _ (by decide +kernel)) ggX3_rank_X3_isSet
set_option maxRecDepth 20000 in
theorem ggX3_rank_X1_countIn : GoodIn wsX3_rank wsX1_countIn := goodIn_r _ [9, 10, 11, 12, 7, 13, 14, 15, 16, 17, 18, 19, 20, 21, 22, 23, 24, 25, 26, 27, 28, 37] (by decide +kernel) (by decide +kernel)
set_option maxRecDepth 20000 in
theorem gX3_rank_X1_countIn_n72 : GoodIn wsX3_rank (wsX1_countIn) := ggX3_rank_X1_countIn
theorem dX3_rank_0 : decode cX3_rank 0 = .ok (.iload_n 1, 1) := by decide +kernel
theorem dX3_rank_1 : decode cX3_rank 1 = .ok (.invokestatic 38, 3) := by decide +kernel
theorem dX3_rank_4 : decode cX3_rank 4 = .ok (.ifCond .ne 5, 3) := by decide +kernel
theorem dX3_rank_7 : decode cX3_rank 7 = .ok (.iconst (-1), 1) := by decide +kernel
theorem dX3_rank_8 : decode cX3_rank 8 = .ok (.ireturn, 1) := by decide +kernel
theorem dX3_rank_9 : decode cX3_rank 9 = .ok (.aload_n 0, 1) := by decide +kernel
theorem dX3_rank_10 : decode cX3_rank 10 = .ok (.getfield 10, 3) := by decide +kernel
theorem dX3_rank_13 : decode cX3_rank 13 = .ok (.getfield 50, 3) := by decide +kernel
theorem dX3_rank_16 : decode cX3_rank 16 = .ok (.iload_n 1, 1) := by decide +kernel
theorem dX3_rank_17 : decode cX3_rank 17 = .ok (.aaload, 1) := by decide +kernel
theorem dX3_rank_18 : decode cX3_rank 18 = .ok (.iconst 0, 1) := by decide +kernel
theorem dX3_rank_19 : decode cX3_rank 19 = .ok (.iload_n 2, 1) := by decide +kernel
theorem dX3_rank_20 : decode cX3_rank 20 = .ok (.invokevirtual 72, 3) := by decide +kernel
theorem dX3_rank_23 : decode cX3_rank 23 = .ok (.ireturn, 1) := by decide +kernel
set_option maxRecDepth 20000 in
theorem ggX3_select_X3_isSet : GoodIn wsX3_select wsX3_isSet := goodIn_r _ [5] (by decide +kernel) (by decide +kernel)
set_option maxRecDepth 20000 in
theorem gX3_select_X3_isSet : GoodIn wsX3_select (va_wsS RX3 38 yX3_isSet wsX3_isSet) := goodIn_app (goodIn_of _ (by decide +kernel)) ggX3_select_X3_isSet
set_option maxRecDepth 20000 in
theorem ggX3_select_X1_nth : GoodIn wsX3_select wsX1_nth := goodIn_r _ [9, 10, 11, 12, 13, 14, 15, 16, 17, 18, 19, 7, 20, 29] (by decide +kernel) (by decide +kernel)
set_option maxRecDepth 20000 in
theorem gX3_select_X1_nth_n95 : GoodIn wsX3_select (wsX1_nth) := ggX3_select_X1_nth
theorem dX3_select_0 : decode cX3_select 0 = .ok (.iload_n 1, 1) := by decide +kernel
theorem dX3_select_1 : decode cX3_select 1 = .ok (.invokestatic 38, 3) := by decide +kernel
theorem dX3_select_4 : decode cX3_select 4 = .ok (.ifCond .eq 7, 3) := by decide +kernel
theorem dX3_select_7 : decode cX3_select 7 = .ok (.iload_n 2, 1) := by decide +kernel
theorem dX3_select_8 : decode cX3_select 8 = .ok (.ifCond .ge 5, 3) := by decide +kernel
theorem dX3_select_11 : decode cX3_select 11 = .ok (.iconst (-1), 1) := by decide +kernel
theorem dX3_select_12 : decode cX3_select 12 = .ok (.ireturn, 1) := by decide +kernel
theorem dX3_select_13 : decode cX3_select 13 = .ok (.aload_n 0, 1) := by decide +kernel
theorem dX3_select_14 : decode cX3_select 14 = .ok (.getfield 10, 3) := by decide +kernel
theorem dX3_select_17 : decode cX3_select 17 = .ok (.getfield 50, 3) := by decide +kernel
theorem dX3_select_20 : decode cX3_select 20 = .ok (.iload_n 1, 1) := by decide +kernel
theorem dX3_select_21 : decode cX3_select 21 = .ok (.aaload, 1) := by decide +kernel
theorem dX3_select_22 : decode cX3_select 22 = .ok (.iload_n 2, 1) := by decide +kernel
theorem dX3_select_23 : decode cX3_select 23 = .ok (.invokevirtual 95, 3) := by decide +kernel
theorem dX3_select_26 : decode cX3_select 26 = .ok (.ireturn, 1) := by decide +kernel
set_option maxRecDepth 20000 in
theorem ggX3_near_X3_isSet : GoodIn wsX3_near wsX3_isSet := goodIn_r _ [5] (by decide +kernel) (by decide +kernel)
set_option maxRecDepth 20000 in
theorem gX3_near_X3_isSet : GoodIn wsX3_near (va_wsS RX3 38 yX3_isSet wsX3_isSet) := goodIn_app (goodIn_of _ (by decide +kernel)) ggX3_near_X3_isSet
set_option maxRecDepth 20000 in
theorem ggX3_near_X1_countIn : GoodIn wsX3_near wsX1_countIn := goodIn_r _ [9, 10, 11, 12, 7, 13, 14, 15, 16, 17, 18, 19, 20, 21, 22, 23, 24, 25, 26, 27, 28, 43] (by decide +kernel) (by decide +kernel)
set_option maxRecDepth 20000 in
theorem gX3_near_X1_countIn_n72 : GoodIn wsX3_near (wsX1_countIn) := ggX3_near_X1_countIn
set_option maxRecDepth 20000 in
theorem ggX3_near_X1_nth : GoodIn wsX3_near wsX1_nth := goodIn_r _ [31, 10, 22, 23, 24, 25, 26, 27, 28, 32, 33, 7, 34, 43] (by decide +kernel) (by decide +kernel)
set_option maxRecDepth 20000 in
theorem gX3_near_X1_nth_n95 : GoodIn wsX3_near (wsX1_nth) := ggX3_near_X1_nth
theorem dX3_near_0 : decode cX3_near 0 = .ok (.iload_n 1, 1) := by decide +kernel
theorem dX3_near_1 : decode cX3_near 1 = .ok (.invokestatic 38, 3) := by decide +kernel
theorem dX3_near_4 : decode cX3_near 4 = .ok (.ifCond .ne 5, 3) := by decide +kernel
theorem dX3_near_7 : decode cX3_near 7 = .ok (.iconst (-1), 1) := by decide +kernel
theorem dX3_near_8 : decode cX3_near 8 = .ok (.ireturn, 1) := by decide +kernel
theorem dX3_near_9 : decode cX3_near 9 = .ok (.aload_n 0, 1) := by decide +kernel
theorem dX3_near_10 : decode cX3_near 10 = .ok (.getfield 10, 3) := by decide +kernel
theorem dX3_near_13 : decode cX3_near 13 = .ok (.getfield 50, 3) := by decide +kernel
theorem dX3_near_16 : decode cX3_near 16 = .ok (.iload_n 1, 1) := by decide +kernel
theorem dX3_near_17 : decode cX3_near 17 = .ok (.aaload, 1) := by decide +kernel
theorem dX3_near_18 : decode cX3_near 18 = .ok (.astore 4, 2) := by decide +kernel
theorem dX3_near_20 : decode cX3_near 20 = .ok (.iload_n 3, 1) := by decide +kernel
theorem dX3_near_21 : decode cX3_near 21 = .ok (.ifCond .ne 18, 3) := by decide +kernel
theorem dX3_near_24 : decode cX3_near 24 = .ok (.aload 4, 2) := by decide +kernel
theorem dX3_near_26 : decode cX3_near 26 = .ok (.aload 4, 2) := by decide +kernel
theorem dX3_near_28 : decode cX3_near 28 = .ok (.iconst 0, 1) := by decide +kernel
theorem dX3_near_29 : decode cX3_near 29 = .ok (.iload_n 2, 1) := by decide +kernel
theorem dX3_near_30 : decode cX3_near 30 = .ok (.invokevirtual 72, 3) := by decide +kernel
theorem dX3_near_33 : decode cX3_near 33 = .ok (.iconst 1, 1) := by decide +kernel
theorem dX3_near_34 : decode cX3_near 34 = .ok (.isub, 1) := by decide +kernel
theorem dX3_near_35 : decode cX3_near 35 = .ok (.invokevirtual 95, 3) := by decide +kernel
theorem dX3_near_38 : decode cX3_near 38 = .ok (.ireturn, 1) := by decide +kernel
theorem dX3_near_39 : decode cX3_near 39 = .ok (.aload 4, 2) := by decide +kernel
theorem dX3_near_41 : decode cX3_near 41 = .ok (.iload_n 2, 1) := by decide +kernel
theorem dX3_near_42 : decode cX3_near 42 = .ok (.ifCond .gt 7, 3) := by decide +kernel
theorem dX3_near_45 : decode cX3_near 45 = .ok (.iconst 0, 1) := by decide +kernel
theorem dX3_near_46 : decode cX3_near 46 = .ok (.goto 12, 3) := by decide +kernel
theorem dX3_near_49 : decode cX3_near 49 = .ok (.aload 4, 2) := by decide +kernel
theorem dX3_near_51 : decode cX3_near 51 = .ok (.iconst 0, 1) := by decide +kernel
theorem dX3_near_52 : decode cX3_near 52 = .ok (.iload_n 2, 1) := by decide +kernel
theorem dX3_near_53 : decode cX3_near 53 = .ok (.iconst 1, 1) := by decide +kernel
theorem dX3_near_54 : decode cX3_near 54 = .ok (.isub, 1) := by decide +kernel
theorem dX3_near_55 : decode cX3_near 55 = .ok (.invokevirtual 72, 3) := by decide +kernel
theorem dX3_near_58 : decode cX3_near 58 = .ok (.invokevirtual 95, 3) := by decide +kernel
theorem dX3_near_61 : decode cX3_near 61 = .ok (.ireturn, 1) := by decide +kernel
set_option maxRecDepth 20000 in
theorem ggX3_runs_X3_isSet : GoodIn wsX3_runs wsX3_isSet := goodIn_r _ [5] (by decide +kernel) (by decide +kernel)
set_option maxRecDepth 20000 in
theorem gX3_runs_X3_isSet : GoodIn wsX3_runs (va_wsS RX3 38 yX3_isSet wsX3_isSet) := goodIn_app (goodIn_of _ (by decide +kernel)) ggX3_runs_X3_isSet
set_option maxRecDepth 20000 in
theorem ggX3_runs_X1_countRuns : GoodIn wsX3_runs wsX1_countRuns := goodIn_r _ [9, 10, 11, 12, 13, 7, 14, 15, 16, 17, 18, 19, 20, 21, 22, 31] (by decide +kernel) (by decide +kernel)
set_option maxRecDepth 20000 in
theorem gX3_runs_X1_countRuns_n99 : GoodIn wsX3_runs (wsX1_countRuns) := ggX3_runs_X1_countRuns
theorem dX3_runs_0 : decode cX3_runs 0 = .ok (.iload_n 1, 1) := by decide +kernel
theorem dX3_runs_1 : decode cX3_runs 1 = .ok (.invokestatic 38, 3) := by decide +kernel
theorem dX3_runs_4 : decode cX3_runs 4 = .ok (.ifCond .ne 5, 3) := by decide +kernel
theorem dX3_runs_7 : decode cX3_runs 7 = .ok (.iconst (-1), 1) := by decide +kernel
theorem dX3_runs_8 : decode cX3_runs 8 = .ok (.ireturn, 1) := by decide +kernel
theorem dX3_runs_9 : decode cX3_runs 9 = .ok (.aload_n 0, 1) := by decide +kernel
theorem dX3_runs_10 : decode cX3_runs 10 = .ok (.getfield 10, 3) := by decide +kernel
theorem dX3_runs_13 : decode cX3_runs 13 = .ok (.getfield 50, 3) := by decide +kernel
theorem dX3_runs_16 : decode cX3_runs 16 = .ok (.iload_n 1, 1) := by decide +kernel
theorem dX3_runs_17 : decode cX3_runs 17 = .ok (.aaload, 1) := by decide +kernel
theorem dX3_runs_18 : decode cX3_runs 18 = .ok (.iconst 0, 1) := by decide +kernel
theorem dX3_runs_19 : decode cX3_runs 19 = .ok (.bipush 16, 2) := by decide +kernel
theorem dX3_runs_21 : decode cX3_runs 21 = .ok (.invokevirtual 99, 3) := by decide +kernel
theorem dX3_runs_24 : decode cX3_runs 24 = .ok (.ireturn, 1) := by decide +kernel
set_option maxRecDepth 20000 in
theorem ggX3_run_X3_isSet : GoodIn wsX3_run wsX3_isSet := goodIn_r _ [5] (by decide +kernel) (by decide +kernel)
set_option maxRecDepth 20000 in
theorem gX3_run_X3_isSet : GoodIn wsX3_run (va_wsS RX3 38 yX3_isSet wsX3_isSet) := goodIn_app (goodIn_of _ (by decide +kernel)) ggX3_run_X3_isSet
set_option maxRecDepth 20000 in
theorem ggX3_run_X3_nthEdge : GoodIn wsX3_run wsX3_nthEdge := goodIn_r _ [9, 10, 11, 12, 13, 14, 15, 16, 17, 18, 19, 20, 21, 22, 23, 24, 25, 26, 27, 28, 29, 30, 31, 32, 33, 34, 35, 36, 37, 38, 39, 40, 41, 42, 43, 44, 48] (by decide +kernel) (by decide +kernel)
set_option maxRecDepth 20000 in
theorem gX3_run_X3_nthEdge : GoodIn wsX3_run (wsV RX3 102 RX3 yX3_nthEdge wsX3_nthEdge) := goodIn_app (goodIn_of _ (by decide +kernel)) ggX3_run_X3_nthEdge
theorem dX3_run_0 : decode cX3_run 0 = .ok (.iload_n 1, 1) := by decide +kernel
theorem dX3_run_1 : decode cX3_run 1 = .ok (.invokestatic 38, 3) := by decide +kernel
theorem dX3_run_4 : decode cX3_run 4 = .ok (.ifCond .eq 7, 3) := by decide +kernel
theorem dX3_run_7 : decode cX3_run 7 = .ok (.iload_n 2, 1) := by decide +kernel
theorem dX3_run_8 : decode cX3_run 8 = .ok (.ifCond .ge 5, 3) := by decide +kernel
theorem dX3_run_11 : decode cX3_run 11 = .ok (.iconst (-1), 1) := by decide +kernel
theorem dX3_run_12 : decode cX3_run 12 = .ok (.ireturn, 1) := by decide +kernel
theorem dX3_run_13 : decode cX3_run 13 = .ok (.aload_n 0, 1) := by decide +kernel
theorem dX3_run_14 : decode cX3_run 14 = .ok (.aload_n 0, 1) := by decide +kernel
theorem dX3_run_15 : decode cX3_run 15 = .ok (.getfield 10, 3) := by decide +kernel
theorem dX3_run_18 : decode cX3_run 18 = .ok (.getfield 50, 3) := by decide +kernel
theorem dX3_run_21 : decode cX3_run 21 = .ok (.iload_n 1, 1) := by decide +kernel
theorem dX3_run_22 : decode cX3_run 22 = .ok (.aaload, 1) := by decide +kernel
theorem dX3_run_23 : decode cX3_run 23 = .ok (.iconst 1, 1) := by decide +kernel
theorem dX3_run_24 : decode cX3_run 24 = .ok (.iload_n 2, 1) := by decide +kernel
theorem dX3_run_25 : decode cX3_run 25 = .ok (.invokevirtual 102, 3) := by decide +kernel
theorem dX3_run_28 : decode cX3_run 28 = .ok (.istore_n 3, 1) := by decide +kernel
theorem dX3_run_29 : decode cX3_run 29 = .ok (.aload_n 0, 1) := by decide +kernel
theorem dX3_run_30 : decode cX3_run 30 = .ok (.aload_n 0, 1) := by decide +kernel
theorem dX3_run_31 : decode cX3_run 31 = .ok (.getfield 10, 3) := by decide +kernel
theorem dX3_run_34 : decode cX3_run 34 = .ok (.getfield 50, 3) := by decide +kernel
theorem dX3_run_37 : decode cX3_run 37 = .ok (.iload_n 1, 1) := by decide +kernel
theorem dX3_run_38 : decode cX3_run 38 = .ok (.aaload, 1) := by decide +kernel
theorem dX3_run_39 : decode cX3_run 39 = .ok (.iconst (-1), 1) := by decide +kernel
theorem dX3_run_40 : decode cX3_run 40 = .ok (.iload_n 2, 1) := by decide +kernel
theorem dX3_run_41 : decode cX3_run 41 = .ok (.invokevirtual 102, 3) := by decide +kernel
theorem dX3_run_44 : decode cX3_run 44 = .ok (.istore 4, 2) := by decide +kernel
theorem dX3_run_46 : decode cX3_run 46 = .ok (.iload_n 3, 1) := by decide +kernel
theorem dX3_run_47 : decode cX3_run 47 = .ok (.bipush (-9), 2) := by decide +kernel
theorem dX3_run_49 : decode cX3_run 49 = .ok (.if_icmp .eq 10, 3) := by decide +kernel
theorem dX3_run_52 : decode cX3_run 52 = .ok (.iload 4, 2) := by decide +kernel
theorem dX3_run_54 : decode cX3_run 54 = .ok (.bipush (-9), 2) := by decide +kernel
theorem dX3_run_56 : decode cX3_run 56 = .ok (.if_icmp .ne 6, 3) := by decide +kernel
theorem dX3_run_59 : decode cX3_run 59 = .ok (.bipush (-9), 2) := by decide +kernel
theorem dX3_run_61 : decode cX3_run 61 = .ok (.ireturn, 1) := by decide +kernel
theorem dX3_run_62 : decode cX3_run 62 = .ok (.sipush 4096, 3) := by decide +kernel
theorem dX3_run_65 : decode cX3_run 65 = .ok (.iload_n 3, 1) := by decide +kernel
theorem dX3_run_66 : decode cX3_run 66 = .ok (.imul, 1) := by decide +kernel
theorem dX3_run_67 : decode cX3_run 67 = .ok (.iload 4, 2) := by decide +kernel
theorem dX3_run_69 : decode cX3_run 69 = .ok (.iadd, 1) := by decide +kernel
theorem dX3_run_70 : decode cX3_run 70 = .ok (.ireturn, 1) := by decide +kernel
set_option maxRecDepth 20000 in
theorem ggX3_piece_X3_isSet : GoodIn wsX3_piece wsX3_isSet := goodIn_r _ [5] (by decide +kernel) (by decide +kernel)
set_option maxRecDepth 20000 in
theorem gX3_piece_X3_isSet : GoodIn wsX3_piece (va_wsS RX3 38 yX3_isSet wsX3_isSet) := goodIn_app (goodIn_of _ (by decide +kernel)) ggX3_piece_X3_isSet
set_option maxRecDepth 20000 in
theorem ggX3_piece_X1_detail : GoodIn wsX3_piece wsX1_detail := goodIn_r _ [9, 10, 11, 12, 7, 13, 14, 15, 16, 17, 18, 19, 20, 21, 22, 23, 24, 25, 26, 27, 28, 29, 30, 31, 32, 33, 34, 35, 36, 37, 38, 47] (by decide +kernel) (by decide +kernel)
set_option maxRecDepth 20000 in
theorem gX3_piece_X1_detail_n106 : GoodIn wsX3_piece (wsX1_detail) := ggX3_piece_X1_detail
theorem dX3_piece_0 : decode cX3_piece 0 = .ok (.iload_n 1, 1) := by decide +kernel
theorem dX3_piece_1 : decode cX3_piece 1 = .ok (.invokestatic 38, 3) := by decide +kernel
theorem dX3_piece_4 : decode cX3_piece 4 = .ok (.ifCond .eq 13, 3) := by decide +kernel
theorem dX3_piece_7 : decode cX3_piece 7 = .ok (.iload_n 2, 1) := by decide +kernel
theorem dX3_piece_8 : decode cX3_piece 8 = .ok (.ifCond .lt 9, 3) := by decide +kernel
theorem dX3_piece_11 : decode cX3_piece 11 = .ok (.iload_n 2, 1) := by decide +kernel
theorem dX3_piece_12 : decode cX3_piece 12 = .ok (.bipush 16, 2) := by decide +kernel
theorem dX3_piece_14 : decode cX3_piece 14 = .ok (.if_icmp .lt 5, 3) := by decide +kernel
theorem dX3_piece_17 : decode cX3_piece 17 = .ok (.iconst (-1), 1) := by decide +kernel
theorem dX3_piece_18 : decode cX3_piece 18 = .ok (.ireturn, 1) := by decide +kernel
theorem dX3_piece_19 : decode cX3_piece 19 = .ok (.aload_n 0, 1) := by decide +kernel
theorem dX3_piece_20 : decode cX3_piece 20 = .ok (.getfield 10, 3) := by decide +kernel
theorem dX3_piece_23 : decode cX3_piece 23 = .ok (.getfield 50, 3) := by decide +kernel
theorem dX3_piece_26 : decode cX3_piece 26 = .ok (.iload_n 1, 1) := by decide +kernel
theorem dX3_piece_27 : decode cX3_piece 27 = .ok (.aaload, 1) := by decide +kernel
theorem dX3_piece_28 : decode cX3_piece 28 = .ok (.iload_n 2, 1) := by decide +kernel
theorem dX3_piece_29 : decode cX3_piece 29 = .ok (.iload_n 3, 1) := by decide +kernel
theorem dX3_piece_30 : decode cX3_piece 30 = .ok (.invokevirtual 106, 3) := by decide +kernel
theorem dX3_piece_33 : decode cX3_piece 33 = .ok (.ireturn, 1) := by decide +kernel
set_option maxRecDepth 20000 in
theorem ggX3_bytes_X3_isSet : GoodIn wsX3_bytes wsX3_isSet := goodIn_r _ [5] (by decide +kernel) (by decide +kernel)
set_option maxRecDepth 20000 in
theorem gX3_bytes_X3_isSet : GoodIn wsX3_bytes (va_wsS RX3 38 yX3_isSet wsX3_isSet) := goodIn_app (goodIn_of _ (by decide +kernel)) ggX3_bytes_X3_isSet
set_option maxRecDepth 20000 in
theorem ggX3_bytes_X1_costOf : GoodIn wsX3_bytes wsX1_costOf := goodIn_r _ [9, 10, 11, 12, 7, 13, 14, 15, 16, 17, 18, 19, 20, 21, 22, 23, 24, 25, 26, 27, 28, 29, 30, 31, 32, 33, 34, 43] (by decide +kernel) (by decide +kernel)
set_option maxRecDepth 20000 in
theorem gX3_bytes_X1_costOf_n109 : GoodIn wsX3_bytes (wsX1_costOf) := ggX3_bytes_X1_costOf
theorem dX3_bytes_0 : decode cX3_bytes 0 = .ok (.iload_n 1, 1) := by decide +kernel
theorem dX3_bytes_1 : decode cX3_bytes 1 = .ok (.invokestatic 38, 3) := by decide +kernel
theorem dX3_bytes_4 : decode cX3_bytes 4 = .ok (.ifCond .ne 5, 3) := by decide +kernel
theorem dX3_bytes_7 : decode cX3_bytes 7 = .ok (.iconst (-1), 1) := by decide +kernel
theorem dX3_bytes_8 : decode cX3_bytes 8 = .ok (.ireturn, 1) := by decide +kernel
theorem dX3_bytes_9 : decode cX3_bytes 9 = .ok (.iconst 0, 1) := by decide +kernel
theorem dX3_bytes_10 : decode cX3_bytes 10 = .ok (.istore_n 2, 1) := by decide +kernel
theorem dX3_bytes_11 : decode cX3_bytes 11 = .ok (.iconst 0, 1) := by decide +kernel
theorem dX3_bytes_12 : decode cX3_bytes 12 = .ok (.istore_n 3, 1) := by decide +kernel
theorem dX3_bytes_13 : decode cX3_bytes 13 = .ok (.iload_n 3, 1) := by decide +kernel
theorem dX3_bytes_14 : decode cX3_bytes 14 = .ok (.bipush 16, 2) := by decide +kernel
theorem dX3_bytes_16 : decode cX3_bytes 16 = .ok (.if_icmp .ge 25, 3) := by decide +kernel
theorem dX3_bytes_19 : decode cX3_bytes 19 = .ok (.iload_n 2, 1) := by decide +kernel
theorem dX3_bytes_20 : decode cX3_bytes 20 = .ok (.aload_n 0, 1) := by decide +kernel
theorem dX3_bytes_21 : decode cX3_bytes 21 = .ok (.getfield 10, 3) := by decide +kernel
theorem dX3_bytes_24 : decode cX3_bytes 24 = .ok (.getfield 50, 3) := by decide +kernel
theorem dX3_bytes_27 : decode cX3_bytes 27 = .ok (.iload_n 1, 1) := by decide +kernel
theorem dX3_bytes_28 : decode cX3_bytes 28 = .ok (.aaload, 1) := by decide +kernel
theorem dX3_bytes_29 : decode cX3_bytes 29 = .ok (.iload_n 3, 1) := by decide +kernel
theorem dX3_bytes_30 : decode cX3_bytes 30 = .ok (.invokevirtual 109, 3) := by decide +kernel
theorem dX3_bytes_33 : decode cX3_bytes 33 = .ok (.iadd, 1) := by decide +kernel
theorem dX3_bytes_34 : decode cX3_bytes 34 = .ok (.istore_n 2, 1) := by decide +kernel
theorem dX3_bytes_35 : decode cX3_bytes 35 = .ok (.iinc 3 1, 3) := by decide +kernel
theorem dX3_bytes_38 : decode cX3_bytes 38 = .ok (.goto (-25), 3) := by decide +kernel
theorem dX3_bytes_41 : decode cX3_bytes 41 = .ok (.iload_n 2, 1) := by decide +kernel
theorem dX3_bytes_42 : decode cX3_bytes 42 = .ok (.ireturn, 1) := by decide +kernel
set_option maxRecDepth 20000 in
theorem ggX3_byteAt_X3_isSet : GoodIn wsX3_byteAt wsX3_isSet := goodIn_r _ [5] (by decide +kernel) (by decide +kernel)
set_option maxRecDepth 20000 in
theorem gX3_byteAt_X3_isSet : GoodIn wsX3_byteAt (va_wsS RX3 38 yX3_isSet wsX3_isSet) := goodIn_app (goodIn_of _ (by decide +kernel)) ggX3_byteAt_X3_isSet
set_option maxRecDepth 20000 in
theorem ggX3_byteAt_X1_costOf : GoodIn wsX3_byteAt wsX1_costOf := goodIn_r _ [9, 10, 11, 12, 7, 13, 14, 15, 16, 17, 18, 19, 20, 21, 22, 23, 24, 25, 26, 27, 28, 29, 30, 31, 32, 33, 34, 86] (by decide +kernel) (by decide +kernel)
set_option maxRecDepth 20000 in
theorem gX3_byteAt_X1_costOf_n109 : GoodIn wsX3_byteAt (wsX1_costOf) := ggX3_byteAt_X1_costOf
set_option maxRecDepth 20000 in
theorem ggX3_byteAt_X1_writtenByte : GoodIn wsX3_byteAt wsX1_writtenByte := goodIn_r _ [37, 10, 11, 12, 7, 13, 14, 15, 16, 17, 18, 19, 20, 21, 22, 23, 24, 25, 26, 27, 28, 29, 30, 31, 32, 33, 34, 38, 39, 40, 41, 42, 43, 44, 45, 46, 47, 48, 49, 50, 51, 52, 53, 54, 55, 56, 57, 58, 59, 60, 61, 62, 63, 64, 65, 66, 67, 68, 69, 70, 71, 72, 73, 74, 75, 76, 4, 77, 86] (by decide +kernel) (by decide +kernel)
set_option maxRecDepth 20000 in
theorem gX3_byteAt_X1_writtenByte_n112 : GoodIn wsX3_byteAt (wsX1_writtenByte) := ggX3_byteAt_X1_writtenByte
theorem dX3_byteAt_0 : decode cX3_byteAt 0 = .ok (.iload_n 1, 1) := by decide +kernel
theorem dX3_byteAt_1 : decode cX3_byteAt 1 = .ok (.invokestatic 38, 3) := by decide +kernel
theorem dX3_byteAt_4 : decode cX3_byteAt 4 = .ok (.ifCond .eq 7, 3) := by decide +kernel
theorem dX3_byteAt_7 : decode cX3_byteAt 7 = .ok (.iload_n 2, 1) := by decide +kernel
theorem dX3_byteAt_8 : decode cX3_byteAt 8 = .ok (.ifCond .ge 5, 3) := by decide +kernel
theorem dX3_byteAt_11 : decode cX3_byteAt 11 = .ok (.iconst (-1), 1) := by decide +kernel
theorem dX3_byteAt_12 : decode cX3_byteAt 12 = .ok (.ireturn, 1) := by decide +kernel
theorem dX3_byteAt_13 : decode cX3_byteAt 13 = .ok (.aload_n 0, 1) := by decide +kernel
theorem dX3_byteAt_14 : decode cX3_byteAt 14 = .ok (.getfield 10, 3) := by decide +kernel
theorem dX3_byteAt_17 : decode cX3_byteAt 17 = .ok (.getfield 50, 3) := by decide +kernel
theorem dX3_byteAt_20 : decode cX3_byteAt 20 = .ok (.iload_n 1, 1) := by decide +kernel
theorem dX3_byteAt_21 : decode cX3_byteAt 21 = .ok (.aaload, 1) := by decide +kernel
theorem dX3_byteAt_22 : decode cX3_byteAt 22 = .ok (.astore_n 3, 1) := by decide +kernel
theorem dX3_byteAt_23 : decode cX3_byteAt 23 = .ok (.iload_n 2, 1) := by decide +kernel
theorem dX3_byteAt_24 : decode cX3_byteAt 24 = .ok (.istore 4, 2) := by decide +kernel
theorem dX3_byteAt_26 : decode cX3_byteAt 26 = .ok (.iconst 0, 1) := by decide +kernel
theorem dX3_byteAt_27 : decode cX3_byteAt 27 = .ok (.istore 5, 2) := by decide +kernel
theorem dX3_byteAt_29 : decode cX3_byteAt 29 = .ok (.iload 5, 2) := by decide +kernel
theorem dX3_byteAt_31 : decode cX3_byteAt 31 = .ok (.bipush 16, 2) := by decide +kernel
theorem dX3_byteAt_33 : decode cX3_byteAt 33 = .ok (.if_icmp .ge 40, 3) := by decide +kernel
theorem dX3_byteAt_36 : decode cX3_byteAt 36 = .ok (.aload_n 3, 1) := by decide +kernel
theorem dX3_byteAt_37 : decode cX3_byteAt 37 = .ok (.iload 5, 2) := by decide +kernel
theorem dX3_byteAt_39 : decode cX3_byteAt 39 = .ok (.invokevirtual 109, 3) := by decide +kernel
theorem dX3_byteAt_42 : decode cX3_byteAt 42 = .ok (.istore 6, 2) := by decide +kernel
theorem dX3_byteAt_44 : decode cX3_byteAt 44 = .ok (.iload 4, 2) := by decide +kernel
theorem dX3_byteAt_46 : decode cX3_byteAt 46 = .ok (.iload 6, 2) := by decide +kernel
theorem dX3_byteAt_48 : decode cX3_byteAt 48 = .ok (.if_icmp .ge 12, 3) := by decide +kernel
theorem dX3_byteAt_51 : decode cX3_byteAt 51 = .ok (.aload_n 3, 1) := by decide +kernel
theorem dX3_byteAt_52 : decode cX3_byteAt 52 = .ok (.iload 5, 2) := by decide +kernel
theorem dX3_byteAt_54 : decode cX3_byteAt 54 = .ok (.iload 4, 2) := by decide +kernel
theorem dX3_byteAt_56 : decode cX3_byteAt 56 = .ok (.invokevirtual 112, 3) := by decide +kernel
theorem dX3_byteAt_59 : decode cX3_byteAt 59 = .ok (.ireturn, 1) := by decide +kernel
theorem dX3_byteAt_60 : decode cX3_byteAt 60 = .ok (.iload 4, 2) := by decide +kernel
theorem dX3_byteAt_62 : decode cX3_byteAt 62 = .ok (.iload 6, 2) := by decide +kernel
theorem dX3_byteAt_64 : decode cX3_byteAt 64 = .ok (.isub, 1) := by decide +kernel
theorem dX3_byteAt_65 : decode cX3_byteAt 65 = .ok (.istore 4, 2) := by decide +kernel
theorem dX3_byteAt_67 : decode cX3_byteAt 67 = .ok (.iinc 5 1, 3) := by decide +kernel
theorem dX3_byteAt_70 : decode cX3_byteAt 70 = .ok (.goto (-41), 3) := by decide +kernel
theorem dX3_byteAt_73 : decode cX3_byteAt 73 = .ok (.bipush (-9), 2) := by decide +kernel
theorem dX3_byteAt_75 : decode cX3_byteAt 75 = .ok (.ireturn, 1) := by decide +kernel
set_option maxRecDepth 20000 in
theorem ggX3_put_X0_append : GoodIn wsX3_put wsX0_append := goodIn_r _ [5, 6, 7, 13, 14] (by decide +kernel) (by decide +kernel)
set_option maxRecDepth 20000 in
theorem gX3_put_X0_append_n115 : GoodIn wsX3_put (wsX0_append) := ggX3_put_X0_append
theorem dX3_put_0 : decode cX3_put 0 = .ok (.iload_n 1, 1) := by decide +kernel
theorem dX3_put_1 : decode cX3_put 1 = .ok (.ifCond .lt 10, 3) := by decide +kernel
theorem dX3_put_4 : decode cX3_put 4 = .ok (.iload_n 1, 1) := by decide +kernel
theorem dX3_put_5 : decode cX3_put 5 = .ok (.sipush 255, 3) := by decide +kernel
theorem dX3_put_8 : decode cX3_put 8 = .ok (.if_icmp .le 5, 3) := by decide +kernel
theorem dX3_put_11 : decode cX3_put 11 = .ok (.iconst (-1), 1) := by decide +kernel
theorem dX3_put_12 : decode cX3_put 12 = .ok (.ireturn, 1) := by decide +kernel
theorem dX3_put_13 : decode cX3_put 13 = .ok (.aload_n 0, 1) := by decide +kernel
theorem dX3_put_14 : decode cX3_put 14 = .ok (.getfield 27, 3) := by decide +kernel
theorem dX3_put_17 : decode cX3_put 17 = .ok (.iload_n 1, 1) := by decide +kernel
theorem dX3_put_18 : decode cX3_put 18 = .ok (.invokevirtual 115, 3) := by decide +kernel
theorem dX3_put_21 : decode cX3_put 21 = .ok (.ifCond .eq 13, 3) := by decide +kernel
theorem dX3_put_24 : decode cX3_put 24 = .ok (.aload_n 0, 1) := by decide +kernel
theorem dX3_put_25 : decode cX3_put 25 = .ok (.getfield 27, 3) := by decide +kernel
theorem dX3_put_28 : decode cX3_put 28 = .ok (.getfield 118, 3) := by decide +kernel
theorem dX3_put_31 : decode cX3_put 31 = .ok (.goto 5, 3) := by decide +kernel
theorem dX3_put_34 : decode cX3_put 34 = .ok (.bipush (-3), 2) := by decide +kernel
theorem dX3_put_36 : decode cX3_put 36 = .ok (.ireturn, 1) := by decide +kernel
theorem dX3_clear_0 : decode cX3_clear 0 = .ok (.aload_n 0, 1) := by decide +kernel
theorem dX3_clear_1 : decode cX3_clear 1 = .ok (.getfield 27, 3) := by decide +kernel
theorem dX3_clear_4 : decode cX3_clear 4 = .ok (.getfield 118, 3) := by decide +kernel
theorem dX3_clear_7 : decode cX3_clear 7 = .ok (.istore_n 1, 1) := by decide +kernel
theorem dX3_clear_8 : decode cX3_clear 8 = .ok (.aload_n 0, 1) := by decide +kernel
theorem dX3_clear_9 : decode cX3_clear 9 = .ok (.getfield 27, 3) := by decide +kernel
theorem dX3_clear_12 : decode cX3_clear 12 = .ok (.iconst 0, 1) := by decide +kernel
theorem dX3_clear_13 : decode cX3_clear 13 = .ok (.putfield 118, 3) := by decide +kernel
theorem dX3_clear_16 : decode cX3_clear 16 = .ok (.iload_n 1, 1) := by decide +kernel
theorem dX3_clear_17 : decode cX3_clear 17 = .ok (.ireturn, 1) := by decide +kernel
set_option maxRecDepth 20000 in
theorem ggX3_read_X3_isSet : GoodIn wsX3_read wsX3_isSet := goodIn_r _ [7] (by decide +kernel) (by decide +kernel)
set_option maxRecDepth 20000 in
theorem gX3_read_X3_isSet : GoodIn wsX3_read (va_wsS RX3 38 yX3_isSet wsX3_isSet) := goodIn_app (goodIn_of _ (by decide +kernel)) ggX3_read_X3_isSet
set_option maxRecDepth 20000 in
theorem ggX3_read_X0_parse : GoodIn wsX3_read wsX0_parse := goodIn_r _ [11, 12, 13, 14, 15, 16, 17, 18, 19, 20, 21, 22, 23, 6, 24, 25, 26, 27, 9, 28, 29, 30, 31, 32, 33, 34, 35, 36, 37, 38, 39, 40, 41, 42, 43, 44, 45, 46, 47, 48, 49, 50, 51, 52, 53, 54, 55, 56, 57, 58, 59, 60, 61, 62, 63, 64, 65, 66, 67, 68, 69, 70, 71, 72, 73, 74, 75, 76, 77, 78, 79, 80, 81, 117, 118, 119] (by decide +kernel) (by decide +kernel)
set_option maxRecDepth 20000 in
theorem gX3_read_X0_parse_n121 : GoodIn wsX3_read (wsX0_parse) := ggX3_read_X0_parse
set_option maxRecDepth 20000 in
theorem ggX3_read_X3_keepState : GoodIn wsX3_read wsX3_keepState := goodIn_r _ [85, 86, 87, 3, 88, 89, 90, 91, 92, 93, 94, 95, 96, 97, 98, 99, 15, 100, 101, 18, 102, 109, 110, 111, 112, 113, 114, 115, 116, 119] (by decide +kernel) (by decide +kernel)
set_option maxRecDepth 20000 in
theorem gX3_read_X3_keepState : GoodIn wsX3_read (wsV RX3 46 RX3 yX3_keepState wsX3_keepState) := goodIn_app (goodIn_of _ (by decide +kernel)) ggX3_read_X3_keepState
set_option maxRecDepth 20000 in
theorem ggX3_read_X1_become : GoodIn wsX3_read wsX1_become := goodIn_r _ [101, 18, 102, 95, 96, 97, 119] (by decide +kernel) (by decide +kernel)
set_option maxRecDepth 20000 in
theorem gX3_read_X1_become_n125 : GoodIn wsX3_read (wsX1_become) := ggX3_read_X1_become
set_option maxRecDepth 20000 in
theorem ggX3_read_X2_countConversions : GoodIn wsX3_read wsX2_countConversions := goodIn_r _ [105, 98, 60, 15, 61, 62, 63, 64, 65, 66, 67, 68, 69, 70, 18, 71, 72, 73, 74, 75, 76, 77, 78, 79, 80, 81, 59, 23, 6, 24, 114, 115, 116, 119] (by decide +kernel) (by decide +kernel)
set_option maxRecDepth 20000 in
theorem gX3_read_X2_countConversions_n58 : GoodIn wsX3_read (wsX2_countConversions) := ggX3_read_X2_countConversions
set_option maxRecDepth 20000 in
theorem ggX3_read_X1_count : GoodIn wsX3_read wsX1_count := goodIn_r _ [108, 63, 64, 65, 15, 66, 67, 68, 69, 70, 18, 71, 72, 73, 74, 75, 76, 77, 119] (by decide +kernel) (by decide +kernel)
set_option maxRecDepth 20000 in
theorem gX3_read_X1_count_n62 : GoodIn wsX3_read (wsX1_count) := ggX3_read_X1_count
theorem dX3_read_0 : decode cX3_read 0 = .ok (.iload_n 1, 1) := by decide +kernel
theorem dX3_read_1 : decode cX3_read 1 = .ok (.invokestatic 38, 3) := by decide +kernel
theorem dX3_read_4 : decode cX3_read 4 = .ok (.ifCond .ne 5, 3) := by decide +kernel
theorem dX3_read_7 : decode cX3_read 7 = .ok (.iconst (-1), 1) := by decide +kernel
theorem dX3_read_8 : decode cX3_read 8 = .ok (.ireturn, 1) := by decide +kernel
theorem dX3_read_9 : decode cX3_read 9 = .ok (.aload_n 0, 1) := by decide +kernel
theorem dX3_read_10 : decode cX3_read 10 = .ok (.getfield 27, 3) := by decide +kernel
theorem dX3_read_13 : decode cX3_read 13 = .ok (.aload_n 0, 1) := by decide +kernel
theorem dX3_read_14 : decode cX3_read 14 = .ok (.getfield 34, 3) := by decide +kernel
theorem dX3_read_17 : decode cX3_read 17 = .ok (.invokevirtual 121, 3) := by decide +kernel
theorem dX3_read_20 : decode cX3_read 20 = .ok (.istore_n 2, 1) := by decide +kernel
theorem dX3_read_21 : decode cX3_read 21 = .ok (.iload_n 2, 1) := by decide +kernel
theorem dX3_read_22 : decode cX3_read 22 = .ok (.ifCond .lt 8, 3) := by decide +kernel
theorem dX3_read_25 : decode cX3_read 25 = .ok (.bipush (-100), 2) := by decide +kernel
theorem dX3_read_27 : decode cX3_read 27 = .ok (.iload_n 2, 1) := by decide +kernel
theorem dX3_read_28 : decode cX3_read 28 = .ok (.isub, 1) := by decide +kernel
theorem dX3_read_29 : decode cX3_read 29 = .ok (.ireturn, 1) := by decide +kernel
theorem dX3_read_30 : decode cX3_read 30 = .ok (.aload_n 0, 1) := by decide +kernel
theorem dX3_read_31 : decode cX3_read 31 = .ok (.invokevirtual 46, 3) := by decide +kernel
theorem dX3_read_34 : decode cX3_read 34 = .ok (.getfield 50, 3) := by decide +kernel
theorem dX3_read_37 : decode cX3_read 37 = .ok (.iload_n 1, 1) := by decide +kernel
theorem dX3_read_38 : decode cX3_read 38 = .ok (.aaload, 1) := by decide +kernel
theorem dX3_read_39 : decode cX3_read 39 = .ok (.astore_n 3, 1) := by decide +kernel
theorem dX3_read_40 : decode cX3_read 40 = .ok (.aload_n 0, 1) := by decide +kernel
theorem dX3_read_41 : decode cX3_read 41 = .ok (.getfield 10, 3) := by decide +kernel
theorem dX3_read_44 : decode cX3_read 44 = .ok (.getfield 50, 3) := by decide +kernel
theorem dX3_read_47 : decode cX3_read 47 = .ok (.iload_n 1, 1) := by decide +kernel
theorem dX3_read_48 : decode cX3_read 48 = .ok (.aaload, 1) := by decide +kernel
theorem dX3_read_49 : decode cX3_read 49 = .ok (.astore 4, 2) := by decide +kernel
theorem dX3_read_51 : decode cX3_read 51 = .ok (.aload 4, 2) := by decide +kernel
theorem dX3_read_53 : decode cX3_read 53 = .ok (.aload_n 0, 1) := by decide +kernel
theorem dX3_read_54 : decode cX3_read 54 = .ok (.getfield 34, 3) := by decide +kernel
theorem dX3_read_57 : decode cX3_read 57 = .ok (.invokevirtual 125, 3) := by decide +kernel
theorem dX3_read_60 : decode cX3_read 60 = .ok (.aload_n 0, 1) := by decide +kernel
theorem dX3_read_61 : decode cX3_read 61 = .ok (.getfield 10, 3) := by decide +kernel
theorem dX3_read_64 : decode cX3_read 64 = .ok (.aload_n 3, 1) := by decide +kernel
theorem dX3_read_65 : decode cX3_read 65 = .ok (.aload 4, 2) := by decide +kernel
theorem dX3_read_67 : decode cX3_read 67 = .ok (.invokevirtual 58, 3) := by decide +kernel
theorem dX3_read_70 : decode cX3_read 70 = .ok (.aload_n 0, 1) := by decide +kernel
theorem dX3_read_71 : decode cX3_read 71 = .ok (.getfield 27, 3) := by decide +kernel
theorem dX3_read_74 : decode cX3_read 74 = .ok (.iconst 0, 1) := by decide +kernel
theorem dX3_read_75 : decode cX3_read 75 = .ok (.putfield 118, 3) := by decide +kernel
theorem dX3_read_78 : decode cX3_read 78 = .ok (.aload 4, 2) := by decide +kernel
theorem dX3_read_80 : decode cX3_read 80 = .ok (.invokevirtual 62, 3) := by decide +kernel
theorem dX3_read_83 : decode cX3_read 83 = .ok (.ireturn, 1) := by decide +kernel
set_option maxRecDepth 20000 in
theorem ggX3_compare_X3_isSet : GoodIn wsX3_compare wsX3_isSet := goodIn_r _ [6] (by decide +kernel) (by decide +kernel)
set_option maxRecDepth 20000 in
theorem gX3_compare_X3_isSet : GoodIn wsX3_compare (va_wsS RX3 38 yX3_isSet wsX3_isSet) := goodIn_app (goodIn_of _ (by decide +kernel)) ggX3_compare_X3_isSet
set_option maxRecDepth 20000 in
theorem ggX3_compare_X3_countJoin : GoodIn wsX3_compare wsX3_countJoin := goodIn_r _ [10, 1, 2, 11, 12, 13, 14, 15, 16, 17, 18, 19, 20, 21, 22, 23, 24, 25, 26, 27, 28, 29, 30, 31, 32, 33, 34, 35, 36, 37, 48, 49, 50, 51, 52, 53, 54, 55, 56] (by decide +kernel) (by decide +kernel)
set_option maxRecDepth 20000 in
theorem gX3_compare_X3_countJoin : GoodIn wsX3_compare (wsV RX3 129 RX3 yX3_countJoin wsX3_countJoin) := goodIn_app (goodIn_of _ (by decide +kernel)) ggX3_compare_X3_countJoin
set_option maxRecDepth 20000 in
theorem ggX3_compare_X3_countSamePieces : GoodIn wsX3_compare wsX3_countSamePieces := goodIn_r _ [41, 1, 2, 11, 12, 13, 14, 15, 16, 17, 18, 19, 24, 25, 26, 27, 28, 29, 30, 31, 32, 33, 34, 35, 36, 37, 48, 49, 50, 51, 52, 53, 54, 55, 56] (by decide +kernel) (by decide +kernel)
set_option maxRecDepth 20000 in
theorem gX3_compare_X3_countSamePieces : GoodIn wsX3_compare (wsV RX3 133 RX3 yX3_countSamePieces wsX3_countSamePieces) := goodIn_app (goodIn_of _ (by decide +kernel)) ggX3_compare_X3_countSamePieces
set_option maxRecDepth 20000 in
theorem ggX3_compare_X1_becomeJoin : GoodIn wsX3_compare wsX1_becomeJoin := goodIn_r _ [14, 15, 16, 17, 12, 18, 19, 56] (by decide +kernel) (by decide +kernel)
set_option maxRecDepth 20000 in
theorem gX3_compare_X1_becomeJoin_n81 : GoodIn wsX3_compare (wsX1_becomeJoin) := ggX3_compare_X1_becomeJoin
set_option maxRecDepth 20000 in
theorem ggX3_compare_X1_nth : GoodIn wsX3_compare wsX1_nth := goodIn_r _ [44, 15, 31, 32, 33, 34, 35, 36, 37, 45, 46, 12, 47, 56] (by decide +kernel) (by decide +kernel)
set_option maxRecDepth 20000 in
theorem gX3_compare_X1_nth_n95 : GoodIn wsX3_compare (wsX1_nth) := ggX3_compare_X1_nth
theorem dX3_compare_0 : decode cX3_compare 0 = .ok (.iload_n 1, 1) := by decide +kernel
theorem dX3_compare_1 : decode cX3_compare 1 = .ok (.invokestatic 38, 3) := by decide +kernel
theorem dX3_compare_4 : decode cX3_compare 4 = .ok (.ifCond .eq 10, 3) := by decide +kernel
theorem dX3_compare_7 : decode cX3_compare 7 = .ok (.iload_n 2, 1) := by decide +kernel
theorem dX3_compare_8 : decode cX3_compare 8 = .ok (.invokestatic 38, 3) := by decide +kernel
theorem dX3_compare_11 : decode cX3_compare 11 = .ok (.ifCond .ne 5, 3) := by decide +kernel
theorem dX3_compare_14 : decode cX3_compare 14 = .ok (.iconst (-1), 1) := by decide +kernel
theorem dX3_compare_15 : decode cX3_compare 15 = .ok (.ireturn, 1) := by decide +kernel
theorem dX3_compare_16 : decode cX3_compare 16 = .ok (.iload_n 3, 1) := by decide +kernel
theorem dX3_compare_17 : decode cX3_compare 17 = .ok (.tableswitch 109 0 4 #[35, 43, 51, 67, 74], 35) := by decide +kernel
theorem dX3_compare_52 : decode cX3_compare 52 = .ok (.aload_n 0, 1) := by decide +kernel
theorem dX3_compare_53 : decode cX3_compare 53 = .ok (.iconst 0, 1) := by decide +kernel
theorem dX3_compare_54 : decode cX3_compare 54 = .ok (.iload_n 1, 1) := by decide +kernel
theorem dX3_compare_55 : decode cX3_compare 55 = .ok (.iload_n 2, 1) := by decide +kernel
theorem dX3_compare_56 : decode cX3_compare 56 = .ok (.invokevirtual 129, 3) := by decide +kernel
theorem dX3_compare_59 : decode cX3_compare 59 = .ok (.ireturn, 1) := by decide +kernel
theorem dX3_compare_60 : decode cX3_compare 60 = .ok (.aload_n 0, 1) := by decide +kernel
theorem dX3_compare_61 : decode cX3_compare 61 = .ok (.iconst 2, 1) := by decide +kernel
theorem dX3_compare_62 : decode cX3_compare 62 = .ok (.iload_n 1, 1) := by decide +kernel
theorem dX3_compare_63 : decode cX3_compare 63 = .ok (.iload_n 2, 1) := by decide +kernel
theorem dX3_compare_64 : decode cX3_compare 64 = .ok (.invokevirtual 129, 3) := by decide +kernel
theorem dX3_compare_67 : decode cX3_compare 67 = .ok (.ireturn, 1) := by decide +kernel
theorem dX3_compare_68 : decode cX3_compare 68 = .ok (.aload_n 0, 1) := by decide +kernel
theorem dX3_compare_69 : decode cX3_compare 69 = .ok (.iconst 3, 1) := by decide +kernel
theorem dX3_compare_70 : decode cX3_compare 70 = .ok (.iload_n 1, 1) := by decide +kernel
theorem dX3_compare_71 : decode cX3_compare 71 = .ok (.iload_n 2, 1) := by decide +kernel
theorem dX3_compare_72 : decode cX3_compare 72 = .ok (.invokevirtual 129, 3) := by decide +kernel
theorem dX3_compare_75 : decode cX3_compare 75 = .ok (.ifCond .ne 7, 3) := by decide +kernel
theorem dX3_compare_78 : decode cX3_compare 78 = .ok (.iconst 1, 1) := by decide +kernel
theorem dX3_compare_79 : decode cX3_compare 79 = .ok (.goto 4, 3) := by decide +kernel
theorem dX3_compare_82 : decode cX3_compare 82 = .ok (.iconst 0, 1) := by decide +kernel
theorem dX3_compare_83 : decode cX3_compare 83 = .ok (.ireturn, 1) := by decide +kernel
theorem dX3_compare_84 : decode cX3_compare 84 = .ok (.aload_n 0, 1) := by decide +kernel
theorem dX3_compare_85 : decode cX3_compare 85 = .ok (.iload_n 1, 1) := by decide +kernel
theorem dX3_compare_86 : decode cX3_compare 86 = .ok (.iload_n 2, 1) := by decide +kernel
theorem dX3_compare_87 : decode cX3_compare 87 = .ok (.invokevirtual 133, 3) := by decide +kernel
theorem dX3_compare_90 : decode cX3_compare 90 = .ok (.ireturn, 1) := by decide +kernel
theorem dX3_compare_91 : decode cX3_compare 91 = .ok (.aload_n 0, 1) := by decide +kernel
theorem dX3_compare_92 : decode cX3_compare 92 = .ok (.getfield 34, 3) := by decide +kernel
theorem dX3_compare_95 : decode cX3_compare 95 = .ok (.iconst 2, 1) := by decide +kernel
theorem dX3_compare_96 : decode cX3_compare 96 = .ok (.aload_n 0, 1) := by decide +kernel
theorem dX3_compare_97 : decode cX3_compare 97 = .ok (.getfield 10, 3) := by decide +kernel
theorem dX3_compare_100 : decode cX3_compare 100 = .ok (.getfield 50, 3) := by decide +kernel
theorem dX3_compare_103 : decode cX3_compare 103 = .ok (.iload_n 1, 1) := by decide +kernel
theorem dX3_compare_104 : decode cX3_compare 104 = .ok (.aaload, 1) := by decide +kernel
theorem dX3_compare_105 : decode cX3_compare 105 = .ok (.aload_n 0, 1) := by decide +kernel
theorem dX3_compare_106 : decode cX3_compare 106 = .ok (.getfield 10, 3) := by decide +kernel
theorem dX3_compare_109 : decode cX3_compare 109 = .ok (.getfield 50, 3) := by decide +kernel
theorem dX3_compare_112 : decode cX3_compare 112 = .ok (.iload_n 2, 1) := by decide +kernel
theorem dX3_compare_113 : decode cX3_compare 113 = .ok (.aaload, 1) := by decide +kernel
theorem dX3_compare_114 : decode cX3_compare 114 = .ok (.invokevirtual 81, 3) := by decide +kernel
theorem dX3_compare_117 : decode cX3_compare 117 = .ok (.aload_n 0, 1) := by decide +kernel
theorem dX3_compare_118 : decode cX3_compare 118 = .ok (.getfield 34, 3) := by decide +kernel
theorem dX3_compare_121 : decode cX3_compare 121 = .ok (.iconst 0, 1) := by decide +kernel
theorem dX3_compare_122 : decode cX3_compare 122 = .ok (.invokevirtual 95, 3) := by decide +kernel
theorem dX3_compare_125 : decode cX3_compare 125 = .ok (.ireturn, 1) := by decide +kernel
theorem dX3_compare_126 : decode cX3_compare 126 = .ok (.iconst (-1), 1) := by decide +kernel
theorem dX3_compare_127 : decode cX3_compare 127 = .ok (.ireturn, 1) := by decide +kernel
set_option maxRecDepth 20000 in
theorem ggX3_alike_X3_isSet : GoodIn wsX3_alike wsX3_isSet := goodIn_r _ [4] (by decide +kernel) (by decide +kernel)
set_option maxRecDepth 20000 in
theorem gX3_alike_X3_isSet : GoodIn wsX3_alike (va_wsS RX3 38 yX3_isSet wsX3_isSet) := goodIn_app (goodIn_of _ (by decide +kernel)) ggX3_alike_X3_isSet
set_option maxRecDepth 20000 in
theorem ggX3_alike_X3_countJoin : GoodIn wsX3_alike wsX3_countJoin := goodIn_r _ [8, 9, 10, 11, 12, 13, 14, 15, 16, 17, 18, 19, 20, 21, 22, 23, 24, 25, 26, 27, 28, 29, 30, 31, 32, 33, 34, 35, 36, 37, 41, 42, 43, 44, 45, 46, 47, 48, 49] (by decide +kernel) (by decide +kernel)
set_option maxRecDepth 20000 in
theorem gX3_alike_X3_countJoin : GoodIn wsX3_alike (wsV RX3 129 RX3 yX3_countJoin wsX3_countJoin) := goodIn_app (goodIn_of _ (by decide +kernel)) ggX3_alike_X3_countJoin
set_option maxRecDepth 20000 in
theorem ggX3_alike_X3_greatestDivisor : GoodIn wsX3_alike wsX3_greatestDivisor := goodIn_r _ [40] (by decide +kernel) (by decide +kernel)
set_option maxRecDepth 20000 in
theorem gX3_alike_X3_greatestDivisor : GoodIn wsX3_alike (va_wsS RX3 136 yX3_greatestDivisor wsX3_greatestDivisor) := goodIn_app (goodIn_of _ (by decide +kernel)) ggX3_alike_X3_greatestDivisor
theorem dX3_alike_0 : decode cX3_alike 0 = .ok (.iload_n 1, 1) := by decide +kernel
theorem dX3_alike_1 : decode cX3_alike 1 = .ok (.invokestatic 38, 3) := by decide +kernel
theorem dX3_alike_4 : decode cX3_alike 4 = .ok (.ifCond .eq 10, 3) := by decide +kernel
theorem dX3_alike_7 : decode cX3_alike 7 = .ok (.iload_n 2, 1) := by decide +kernel
theorem dX3_alike_8 : decode cX3_alike 8 = .ok (.invokestatic 38, 3) := by decide +kernel
theorem dX3_alike_11 : decode cX3_alike 11 = .ok (.ifCond .ne 5, 3) := by decide +kernel
theorem dX3_alike_14 : decode cX3_alike 14 = .ok (.iconst (-1), 1) := by decide +kernel
theorem dX3_alike_15 : decode cX3_alike 15 = .ok (.ireturn, 1) := by decide +kernel
theorem dX3_alike_16 : decode cX3_alike 16 = .ok (.aload_n 0, 1) := by decide +kernel
theorem dX3_alike_17 : decode cX3_alike 17 = .ok (.iconst 0, 1) := by decide +kernel
theorem dX3_alike_18 : decode cX3_alike 18 = .ok (.iload_n 1, 1) := by decide +kernel
theorem dX3_alike_19 : decode cX3_alike 19 = .ok (.iload_n 2, 1) := by decide +kernel
theorem dX3_alike_20 : decode cX3_alike 20 = .ok (.invokevirtual 129, 3) := by decide +kernel
theorem dX3_alike_23 : decode cX3_alike 23 = .ok (.istore 4, 2) := by decide +kernel
theorem dX3_alike_25 : decode cX3_alike 25 = .ok (.aload_n 0, 1) := by decide +kernel
theorem dX3_alike_26 : decode cX3_alike 26 = .ok (.iconst 1, 1) := by decide +kernel
theorem dX3_alike_27 : decode cX3_alike 27 = .ok (.iload_n 1, 1) := by decide +kernel
theorem dX3_alike_28 : decode cX3_alike 28 = .ok (.iload_n 2, 1) := by decide +kernel
theorem dX3_alike_29 : decode cX3_alike 29 = .ok (.invokevirtual 129, 3) := by decide +kernel
theorem dX3_alike_32 : decode cX3_alike 32 = .ok (.istore 5, 2) := by decide +kernel
theorem dX3_alike_34 : decode cX3_alike 34 = .ok (.iload 5, 2) := by decide +kernel
theorem dX3_alike_36 : decode cX3_alike 36 = .ok (.iload 4, 2) := by decide +kernel
theorem dX3_alike_38 : decode cX3_alike 38 = .ok (.invokestatic 136, 3) := by decide +kernel
theorem dX3_alike_41 : decode cX3_alike 41 = .ok (.istore 6, 2) := by decide +kernel
theorem dX3_alike_43 : decode cX3_alike 43 = .ok (.iload 6, 2) := by decide +kernel
theorem dX3_alike_45 : decode cX3_alike 45 = .ok (.ifCond .ne 5, 3) := by decide +kernel
theorem dX3_alike_48 : decode cX3_alike 48 = .ok (.iconst 1, 1) := by decide +kernel
theorem dX3_alike_49 : decode cX3_alike 49 = .ok (.ireturn, 1) := by decide +kernel
theorem dX3_alike_50 : decode cX3_alike 50 = .ok (.iload_n 3, 1) := by decide +kernel
theorem dX3_alike_51 : decode cX3_alike 51 = .ok (.ifCond .eq 8, 3) := by decide +kernel
theorem dX3_alike_54 : decode cX3_alike 54 = .ok (.iload 5, 2) := by decide +kernel
theorem dX3_alike_56 : decode cX3_alike 56 = .ok (.goto 5, 3) := by decide +kernel
theorem dX3_alike_59 : decode cX3_alike 59 = .ok (.iload 4, 2) := by decide +kernel
theorem dX3_alike_61 : decode cX3_alike 61 = .ok (.iload 6, 2) := by decide +kernel
theorem dX3_alike_63 : decode cX3_alike 63 = .ok (.idiv, 1) := by decide +kernel
theorem dX3_alike_64 : decode cX3_alike 64 = .ok (.ireturn, 1) := by decide +kernel
set_option maxRecDepth 20000 in
theorem ggX3_met_X3_isKind : GoodIn wsX3_met wsX3_isKind := goodIn_r _ [5] (by decide +kernel) (by decide +kernel)
set_option maxRecDepth 20000 in
theorem gX3_met_X3_isKind : GoodIn wsX3_met (va_wsS RX3 139 yX3_isKind wsX3_isKind) := goodIn_app (goodIn_of _ (by decide +kernel)) ggX3_met_X3_isKind
theorem dX3_met_0 : decode cX3_met 0 = .ok (.iload_n 1, 1) := by decide +kernel
theorem dX3_met_1 : decode cX3_met 1 = .ok (.invokestatic 139, 3) := by decide +kernel
theorem dX3_met_4 : decode cX3_met 4 = .ok (.ifCond .eq 10, 3) := by decide +kernel
theorem dX3_met_7 : decode cX3_met 7 = .ok (.iload_n 2, 1) := by decide +kernel
theorem dX3_met_8 : decode cX3_met 8 = .ok (.invokestatic 139, 3) := by decide +kernel
theorem dX3_met_11 : decode cX3_met 11 = .ok (.ifCond .ne 5, 3) := by decide +kernel
theorem dX3_met_14 : decode cX3_met 14 = .ok (.iconst (-1), 1) := by decide +kernel
theorem dX3_met_15 : decode cX3_met 15 = .ok (.ireturn, 1) := by decide +kernel
theorem dX3_met_16 : decode cX3_met 16 = .ok (.aload_n 0, 1) := by decide +kernel
theorem dX3_met_17 : decode cX3_met 17 = .ok (.getfield 10, 3) := by decide +kernel
theorem dX3_met_20 : decode cX3_met 20 = .ok (.getfield 142, 3) := by decide +kernel
theorem dX3_met_23 : decode cX3_met 23 = .ok (.iconst 3, 1) := by decide +kernel
theorem dX3_met_24 : decode cX3_met 24 = .ok (.iload_n 1, 1) := by decide +kernel
theorem dX3_met_25 : decode cX3_met 25 = .ok (.imul, 1) := by decide +kernel
theorem dX3_met_26 : decode cX3_met 26 = .ok (.iload_n 2, 1) := by decide +kernel
theorem dX3_met_27 : decode cX3_met 27 = .ok (.iadd, 1) := by decide +kernel
theorem dX3_met_28 : decode cX3_met 28 = .ok (.iaload, 1) := by decide +kernel
theorem dX3_met_29 : decode cX3_met 29 = .ok (.ireturn, 1) := by decide +kernel
set_option maxRecDepth 20000 in
theorem ggX3_converted_X3_isKind : GoodIn wsX3_converted wsX3_isKind := goodIn_r _ [5] (by decide +kernel) (by decide +kernel)
set_option maxRecDepth 20000 in
theorem gX3_converted_X3_isKind : GoodIn wsX3_converted (va_wsS RX3 139 yX3_isKind wsX3_isKind) := goodIn_app (goodIn_of _ (by decide +kernel)) ggX3_converted_X3_isKind
theorem dX3_converted_0 : decode cX3_converted 0 = .ok (.iload_n 1, 1) := by decide +kernel
theorem dX3_converted_1 : decode cX3_converted 1 = .ok (.invokestatic 139, 3) := by decide +kernel
theorem dX3_converted_4 : decode cX3_converted 4 = .ok (.ifCond .eq 15, 3) := by decide +kernel
theorem dX3_converted_7 : decode cX3_converted 7 = .ok (.iload_n 2, 1) := by decide +kernel
theorem dX3_converted_8 : decode cX3_converted 8 = .ok (.invokestatic 139, 3) := by decide +kernel
theorem dX3_converted_11 : decode cX3_converted 11 = .ok (.ifCond .eq 8, 3) := by decide +kernel
theorem dX3_converted_14 : decode cX3_converted 14 = .ok (.iload_n 1, 1) := by decide +kernel
theorem dX3_converted_15 : decode cX3_converted 15 = .ok (.iload_n 2, 1) := by decide +kernel
theorem dX3_converted_16 : decode cX3_converted 16 = .ok (.if_icmp .ne 5, 3) := by decide +kernel
theorem dX3_converted_19 : decode cX3_converted 19 = .ok (.iconst (-1), 1) := by decide +kernel
theorem dX3_converted_20 : decode cX3_converted 20 = .ok (.ireturn, 1) := by decide +kernel
theorem dX3_converted_21 : decode cX3_converted 21 = .ok (.aload_n 0, 1) := by decide +kernel
theorem dX3_converted_22 : decode cX3_converted 22 = .ok (.getfield 10, 3) := by decide +kernel
theorem dX3_converted_25 : decode cX3_converted 25 = .ok (.getfield 146, 3) := by decide +kernel
theorem dX3_converted_28 : decode cX3_converted 28 = .ok (.iconst 3, 1) := by decide +kernel
theorem dX3_converted_29 : decode cX3_converted 29 = .ok (.iload_n 1, 1) := by decide +kernel
theorem dX3_converted_30 : decode cX3_converted 30 = .ok (.imul, 1) := by decide +kernel
theorem dX3_converted_31 : decode cX3_converted 31 = .ok (.iload_n 2, 1) := by decide +kernel
theorem dX3_converted_32 : decode cX3_converted 32 = .ok (.iadd, 1) := by decide +kernel
theorem dX3_converted_33 : decode cX3_converted 33 = .ok (.iaload, 1) := by decide +kernel
theorem dX3_converted_34 : decode cX3_converted 34 = .ok (.ireturn, 1) := by decide +kernel
theorem dX3_undo_0 : decode cX3_undo 0 = .ok (.aload_n 0, 1) := by decide +kernel
theorem dX3_undo_1 : decode cX3_undo 1 = .ok (.getfield 20, 3) := by decide +kernel
theorem dX3_undo_4 : decode cX3_undo 4 = .ok (.iconst 1, 1) := by decide +kernel
theorem dX3_undo_5 : decode cX3_undo 5 = .ok (.if_icmp .lt 11, 3) := by decide +kernel
theorem dX3_undo_8 : decode cX3_undo 8 = .ok (.aload_n 0, 1) := by decide +kernel
theorem dX3_undo_9 : decode cX3_undo 9 = .ok (.getfield 20, 3) := by decide +kernel
theorem dX3_undo_12 : decode cX3_undo 12 = .ok (.iconst 5, 1) := by decide +kernel
theorem dX3_undo_13 : decode cX3_undo 13 = .ok (.if_icmp .le 6, 3) := by decide +kernel
theorem dX3_undo_16 : decode cX3_undo 16 = .ok (.bipush (-9), 2) := by decide +kernel
theorem dX3_undo_18 : decode cX3_undo 18 = .ok (.ireturn, 1) := by decide +kernel
theorem dX3_undo_19 : decode cX3_undo 19 = .ok (.aload_n 0, 1) := by decide +kernel
theorem dX3_undo_20 : decode cX3_undo 20 = .ok (.dup, 1) := by decide +kernel
theorem dX3_undo_21 : decode cX3_undo 21 = .ok (.getfield 20, 3) := by decide +kernel
theorem dX3_undo_24 : decode cX3_undo 24 = .ok (.iconst 1, 1) := by decide +kernel
theorem dX3_undo_25 : decode cX3_undo 25 = .ok (.isub, 1) := by decide +kernel
theorem dX3_undo_26 : decode cX3_undo 26 = .ok (.putfield 20, 3) := by decide +kernel
theorem dX3_undo_29 : decode cX3_undo 29 = .ok (.aload_n 0, 1) := by decide +kernel
theorem dX3_undo_30 : decode cX3_undo 30 = .ok (.getfield 10, 3) := by decide +kernel
theorem dX3_undo_33 : decode cX3_undo 33 = .ok (.astore_n 1, 1) := by decide +kernel
theorem dX3_undo_34 : decode cX3_undo 34 = .ok (.aload_n 0, 1) := by decide +kernel
theorem dX3_undo_35 : decode cX3_undo 35 = .ok (.aload_n 0, 1) := by decide +kernel
theorem dX3_undo_36 : decode cX3_undo 36 = .ok (.getfield 16, 3) := by decide +kernel
theorem dX3_undo_39 : decode cX3_undo 39 = .ok (.aload_n 0, 1) := by decide +kernel
theorem dX3_undo_40 : decode cX3_undo 40 = .ok (.getfield 20, 3) := by decide +kernel
theorem dX3_undo_43 : decode cX3_undo 43 = .ok (.aaload, 1) := by decide +kernel
theorem dX3_undo_44 : decode cX3_undo 44 = .ok (.putfield 10, 3) := by decide +kernel
theorem dX3_undo_47 : decode cX3_undo 47 = .ok (.aload_n 0, 1) := by decide +kernel
theorem dX3_undo_48 : decode cX3_undo 48 = .ok (.getfield 16, 3) := by decide +kernel
theorem dX3_undo_51 : decode cX3_undo 51 = .ok (.aload_n 0, 1) := by decide +kernel
theorem dX3_undo_52 : decode cX3_undo 52 = .ok (.getfield 20, 3) := by decide +kernel
theorem dX3_undo_55 : decode cX3_undo 55 = .ok (.aload_n 1, 1) := by decide +kernel
theorem dX3_undo_56 : decode cX3_undo 56 = .ok (.aastore, 1) := by decide +kernel
theorem dX3_undo_57 : decode cX3_undo 57 = .ok (.aload_n 0, 1) := by decide +kernel
theorem dX3_undo_58 : decode cX3_undo 58 = .ok (.getfield 20, 3) := by decide +kernel
theorem dX3_undo_61 : decode cX3_undo 61 = .ok (.ireturn, 1) := by decide +kernel
set_option maxRecDepth 20000 in
theorem ggX3_fingerprint_X3_printPieces : GoodIn wsX3_fingerprint wsX3_printPieces := goodIn_r _ [7, 3, 8, 9, 10, 11, 12, 13, 14, 15, 16, 17, 18, 19, 20, 21, 22, 23, 24, 25, 26, 27, 28, 29, 30, 31, 32, 33, 34, 35, 36, 37, 38, 39, 40, 41, 42, 43, 55] (by decide +kernel) (by decide +kernel)
set_option maxRecDepth 20000 in
theorem gX3_fingerprint_X3_printPieces : GoodIn wsX3_fingerprint (va_wsS RX3 151 yX3_printPieces wsX3_printPieces) := goodIn_app (goodIn_of _ (by decide +kernel)) ggX3_fingerprint_X3_printPieces
set_option maxRecDepth 20000 in
theorem ggX3_fingerprint_X3_printNumbers : GoodIn wsX3_fingerprint wsX3_printNumbers := goodIn_r _ [46, 3, 55] (by decide +kernel) (by decide +kernel)
set_option maxRecDepth 20000 in
theorem gX3_fingerprint_X3_printNumbers : GoodIn wsX3_fingerprint (va_wsS RX3 157 yX3_printNumbers wsX3_printNumbers) := goodIn_app (goodIn_of _ (by decide +kernel)) ggX3_fingerprint_X3_printNumbers
theorem dX3_fingerprint_0 : decode cX3_fingerprint 0 = .ok (.ldc2_w 149, 3) := by decide +kernel
theorem dX3_fingerprint_3 : decode cX3_fingerprint 3 = .ok (.lstore_n 1, 1) := by decide +kernel
theorem dX3_fingerprint_4 : decode cX3_fingerprint 4 = .ok (.iconst 0, 1) := by decide +kernel
theorem dX3_fingerprint_5 : decode cX3_fingerprint 5 = .ok (.istore_n 3, 1) := by decide +kernel
theorem dX3_fingerprint_6 : decode cX3_fingerprint 6 = .ok (.iload_n 3, 1) := by decide +kernel
theorem dX3_fingerprint_7 : decode cX3_fingerprint 7 = .ok (.bipush 6, 2) := by decide +kernel
theorem dX3_fingerprint_9 : decode cX3_fingerprint 9 = .ok (.if_icmp .ge 23, 3) := by decide +kernel
theorem dX3_fingerprint_12 : decode cX3_fingerprint 12 = .ok (.lload_n 1, 1) := by decide +kernel
theorem dX3_fingerprint_13 : decode cX3_fingerprint 13 = .ok (.aload_n 0, 1) := by decide +kernel
theorem dX3_fingerprint_14 : decode cX3_fingerprint 14 = .ok (.getfield 10, 3) := by decide +kernel
theorem dX3_fingerprint_17 : decode cX3_fingerprint 17 = .ok (.getfield 50, 3) := by decide +kernel
theorem dX3_fingerprint_20 : decode cX3_fingerprint 20 = .ok (.iload_n 3, 1) := by decide +kernel
theorem dX3_fingerprint_21 : decode cX3_fingerprint 21 = .ok (.aaload, 1) := by decide +kernel
theorem dX3_fingerprint_22 : decode cX3_fingerprint 22 = .ok (.invokestatic 151, 3) := by decide +kernel
theorem dX3_fingerprint_25 : decode cX3_fingerprint 25 = .ok (.lstore_n 1, 1) := by decide +kernel
theorem dX3_fingerprint_26 : decode cX3_fingerprint 26 = .ok (.iinc 3 1, 3) := by decide +kernel
theorem dX3_fingerprint_29 : decode cX3_fingerprint 29 = .ok (.goto (-23), 3) := by decide +kernel
theorem dX3_fingerprint_32 : decode cX3_fingerprint 32 = .ok (.iconst 0, 1) := by decide +kernel
theorem dX3_fingerprint_33 : decode cX3_fingerprint 33 = .ok (.istore_n 3, 1) := by decide +kernel
theorem dX3_fingerprint_34 : decode cX3_fingerprint 34 = .ok (.iload_n 3, 1) := by decide +kernel
theorem dX3_fingerprint_35 : decode cX3_fingerprint 35 = .ok (.bipush 9, 2) := by decide +kernel
theorem dX3_fingerprint_37 : decode cX3_fingerprint 37 = .ok (.if_icmp .ge 26, 3) := by decide +kernel
theorem dX3_fingerprint_40 : decode cX3_fingerprint 40 = .ok (.ldc2_w 155, 3) := by decide +kernel
theorem dX3_fingerprint_43 : decode cX3_fingerprint 43 = .ok (.lload_n 1, 1) := by decide +kernel
theorem dX3_fingerprint_44 : decode cX3_fingerprint 44 = .ok (.lmul, 1) := by decide +kernel
theorem dX3_fingerprint_45 : decode cX3_fingerprint 45 = .ok (.aload_n 0, 1) := by decide +kernel
theorem dX3_fingerprint_46 : decode cX3_fingerprint 46 = .ok (.getfield 10, 3) := by decide +kernel
theorem dX3_fingerprint_49 : decode cX3_fingerprint 49 = .ok (.getfield 142, 3) := by decide +kernel
theorem dX3_fingerprint_52 : decode cX3_fingerprint 52 = .ok (.iload_n 3, 1) := by decide +kernel
theorem dX3_fingerprint_53 : decode cX3_fingerprint 53 = .ok (.iaload, 1) := by decide +kernel
theorem dX3_fingerprint_54 : decode cX3_fingerprint 54 = .ok (.i2l, 1) := by decide +kernel
theorem dX3_fingerprint_55 : decode cX3_fingerprint 55 = .ok (.ladd, 1) := by decide +kernel
theorem dX3_fingerprint_56 : decode cX3_fingerprint 56 = .ok (.lstore_n 1, 1) := by decide +kernel
theorem dX3_fingerprint_57 : decode cX3_fingerprint 57 = .ok (.iinc 3 1, 3) := by decide +kernel
theorem dX3_fingerprint_60 : decode cX3_fingerprint 60 = .ok (.goto (-26), 3) := by decide +kernel
theorem dX3_fingerprint_63 : decode cX3_fingerprint 63 = .ok (.iconst 0, 1) := by decide +kernel
theorem dX3_fingerprint_64 : decode cX3_fingerprint 64 = .ok (.istore_n 3, 1) := by decide +kernel
theorem dX3_fingerprint_65 : decode cX3_fingerprint 65 = .ok (.iload_n 3, 1) := by decide +kernel
theorem dX3_fingerprint_66 : decode cX3_fingerprint 66 = .ok (.bipush 9, 2) := by decide +kernel
theorem dX3_fingerprint_68 : decode cX3_fingerprint 68 = .ok (.if_icmp .ge 35, 3) := by decide +kernel
theorem dX3_fingerprint_71 : decode cX3_fingerprint 71 = .ok (.iload_n 3, 1) := by decide +kernel
theorem dX3_fingerprint_72 : decode cX3_fingerprint 72 = .ok (.iconst 3, 1) := by decide +kernel
theorem dX3_fingerprint_73 : decode cX3_fingerprint 73 = .ok (.idiv, 1) := by decide +kernel
theorem dX3_fingerprint_74 : decode cX3_fingerprint 74 = .ok (.iload_n 3, 1) := by decide +kernel
theorem dX3_fingerprint_75 : decode cX3_fingerprint 75 = .ok (.iconst 3, 1) := by decide +kernel
theorem dX3_fingerprint_76 : decode cX3_fingerprint 76 = .ok (.irem, 1) := by decide +kernel
theorem dX3_fingerprint_77 : decode cX3_fingerprint 77 = .ok (.if_icmp .eq 20, 3) := by decide +kernel
theorem dX3_fingerprint_80 : decode cX3_fingerprint 80 = .ok (.ldc2_w 155, 3) := by decide +kernel
theorem dX3_fingerprint_83 : decode cX3_fingerprint 83 = .ok (.lload_n 1, 1) := by decide +kernel
theorem dX3_fingerprint_84 : decode cX3_fingerprint 84 = .ok (.lmul, 1) := by decide +kernel
theorem dX3_fingerprint_85 : decode cX3_fingerprint 85 = .ok (.aload_n 0, 1) := by decide +kernel
theorem dX3_fingerprint_86 : decode cX3_fingerprint 86 = .ok (.getfield 10, 3) := by decide +kernel
theorem dX3_fingerprint_89 : decode cX3_fingerprint 89 = .ok (.getfield 146, 3) := by decide +kernel
theorem dX3_fingerprint_92 : decode cX3_fingerprint 92 = .ok (.iload_n 3, 1) := by decide +kernel
theorem dX3_fingerprint_93 : decode cX3_fingerprint 93 = .ok (.iaload, 1) := by decide +kernel
theorem dX3_fingerprint_94 : decode cX3_fingerprint 94 = .ok (.i2l, 1) := by decide +kernel
theorem dX3_fingerprint_95 : decode cX3_fingerprint 95 = .ok (.ladd, 1) := by decide +kernel
theorem dX3_fingerprint_96 : decode cX3_fingerprint 96 = .ok (.lstore_n 1, 1) := by decide +kernel
theorem dX3_fingerprint_97 : decode cX3_fingerprint 97 = .ok (.iinc 3 1, 3) := by decide +kernel
theorem dX3_fingerprint_100 : decode cX3_fingerprint 100 = .ok (.goto (-35), 3) := by decide +kernel
theorem dX3_fingerprint_103 : decode cX3_fingerprint 103 = .ok (.iconst 0, 1) := by decide +kernel
theorem dX3_fingerprint_104 : decode cX3_fingerprint 104 = .ok (.istore_n 3, 1) := by decide +kernel
theorem dX3_fingerprint_105 : decode cX3_fingerprint 105 = .ok (.iload_n 3, 1) := by decide +kernel
theorem dX3_fingerprint_106 : decode cX3_fingerprint 106 = .ok (.bipush 6, 2) := by decide +kernel
theorem dX3_fingerprint_108 : decode cX3_fingerprint 108 = .ok (.if_icmp .ge 23, 3) := by decide +kernel
theorem dX3_fingerprint_111 : decode cX3_fingerprint 111 = .ok (.lload_n 1, 1) := by decide +kernel
theorem dX3_fingerprint_112 : decode cX3_fingerprint 112 = .ok (.aload_n 0, 1) := by decide +kernel
theorem dX3_fingerprint_113 : decode cX3_fingerprint 113 = .ok (.getfield 10, 3) := by decide +kernel
theorem dX3_fingerprint_116 : decode cX3_fingerprint 116 = .ok (.getfield 50, 3) := by decide +kernel
theorem dX3_fingerprint_119 : decode cX3_fingerprint 119 = .ok (.iload_n 3, 1) := by decide +kernel
theorem dX3_fingerprint_120 : decode cX3_fingerprint 120 = .ok (.aaload, 1) := by decide +kernel
theorem dX3_fingerprint_121 : decode cX3_fingerprint 121 = .ok (.invokestatic 157, 3) := by decide +kernel
theorem dX3_fingerprint_124 : decode cX3_fingerprint 124 = .ok (.lstore_n 1, 1) := by decide +kernel
theorem dX3_fingerprint_125 : decode cX3_fingerprint 125 = .ok (.iinc 3 1, 3) := by decide +kernel
theorem dX3_fingerprint_128 : decode cX3_fingerprint 128 = .ok (.goto (-23), 3) := by decide +kernel
theorem dX3_fingerprint_131 : decode cX3_fingerprint 131 = .ok (.lload_n 1, 1) := by decide +kernel
theorem dX3_fingerprint_132 : decode cX3_fingerprint 132 = .ok (.lreturn, 1) := by decide +kernel
theorem dX3_isSet_0 : decode cX3_isSet 0 = .ok (.iload_n 0, 1) := by decide +kernel
theorem dX3_isSet_1 : decode cX3_isSet 1 = .ok (.ifCond .lt 13, 3) := by decide +kernel
theorem dX3_isSet_4 : decode cX3_isSet 4 = .ok (.iload_n 0, 1) := by decide +kernel
theorem dX3_isSet_5 : decode cX3_isSet 5 = .ok (.bipush 6, 2) := by decide +kernel
theorem dX3_isSet_7 : decode cX3_isSet 7 = .ok (.if_icmp .ge 7, 3) := by decide +kernel
theorem dX3_isSet_10 : decode cX3_isSet 10 = .ok (.iconst 1, 1) := by decide +kernel
theorem dX3_isSet_11 : decode cX3_isSet 11 = .ok (.goto 4, 3) := by decide +kernel
theorem dX3_isSet_14 : decode cX3_isSet 14 = .ok (.iconst 0, 1) := by decide +kernel
theorem dX3_isSet_15 : decode cX3_isSet 15 = .ok (.ireturn, 1) := by decide +kernel
theorem dX3_isNumber_0 : decode cX3_isNumber 0 = .ok (.iload_n 0, 1) := by decide +kernel
theorem dX3_isNumber_1 : decode cX3_isNumber 1 = .ok (.ifCond .lt 14, 3) := by decide +kernel
theorem dX3_isNumber_4 : decode cX3_isNumber 4 = .ok (.iload_n 0, 1) := by decide +kernel
theorem dX3_isNumber_5 : decode cX3_isNumber 5 = .ok (.sipush 4096, 3) := by decide +kernel
theorem dX3_isNumber_8 : decode cX3_isNumber 8 = .ok (.if_icmp .ge 7, 3) := by decide +kernel
theorem dX3_isNumber_11 : decode cX3_isNumber 11 = .ok (.iconst 1, 1) := by decide +kernel
theorem dX3_isNumber_12 : decode cX3_isNumber 12 = .ok (.goto 4, 3) := by decide +kernel
theorem dX3_isNumber_15 : decode cX3_isNumber 15 = .ok (.iconst 0, 1) := by decide +kernel
theorem dX3_isNumber_16 : decode cX3_isNumber 16 = .ok (.ireturn, 1) := by decide +kernel
set_option maxRecDepth 20000 in
theorem ggX3_isRange_X3_isNumber : GoodIn wsX3_isRange wsX3_isNumber := goodIn_r _ [4] (by decide +kernel) (by decide +kernel)
set_option maxRecDepth 20000 in
theorem gX3_isRange_X3_isNumber : GoodIn wsX3_isRange (va_wsS RX3 160 yX3_isNumber wsX3_isNumber) := goodIn_app (goodIn_of _ (by decide +kernel)) ggX3_isRange_X3_isNumber
theorem dX3_isRange_0 : decode cX3_isRange 0 = .ok (.iload_n 0, 1) := by decide +kernel
theorem dX3_isRange_1 : decode cX3_isRange 1 = .ok (.invokestatic 160, 3) := by decide +kernel
theorem dX3_isRange_4 : decode cX3_isRange 4 = .ok (.ifCond .eq 19, 3) := by decide +kernel
theorem dX3_isRange_7 : decode cX3_isRange 7 = .ok (.iload_n 1, 1) := by decide +kernel
theorem dX3_isRange_8 : decode cX3_isRange 8 = .ok (.invokestatic 160, 3) := by decide +kernel
theorem dX3_isRange_11 : decode cX3_isRange 11 = .ok (.ifCond .eq 12, 3) := by decide +kernel
theorem dX3_isRange_14 : decode cX3_isRange 14 = .ok (.iload_n 0, 1) := by decide +kernel
theorem dX3_isRange_15 : decode cX3_isRange 15 = .ok (.iload_n 1, 1) := by decide +kernel
theorem dX3_isRange_16 : decode cX3_isRange 16 = .ok (.if_icmp .gt 7, 3) := by decide +kernel
theorem dX3_isRange_19 : decode cX3_isRange 19 = .ok (.iconst 1, 1) := by decide +kernel
theorem dX3_isRange_20 : decode cX3_isRange 20 = .ok (.goto 4, 3) := by decide +kernel
theorem dX3_isRange_23 : decode cX3_isRange 23 = .ok (.iconst 0, 1) := by decide +kernel
theorem dX3_isRange_24 : decode cX3_isRange 24 = .ok (.ireturn, 1) := by decide +kernel
theorem dX3_isKind_0 : decode cX3_isKind 0 = .ok (.iload_n 0, 1) := by decide +kernel
theorem dX3_isKind_1 : decode cX3_isKind 1 = .ok (.ifCond .lt 12, 3) := by decide +kernel
theorem dX3_isKind_4 : decode cX3_isKind 4 = .ok (.iload_n 0, 1) := by decide +kernel
theorem dX3_isKind_5 : decode cX3_isKind 5 = .ok (.iconst 3, 1) := by decide +kernel
theorem dX3_isKind_6 : decode cX3_isKind 6 = .ok (.if_icmp .ge 7, 3) := by decide +kernel
theorem dX3_isKind_9 : decode cX3_isKind 9 = .ok (.iconst 1, 1) := by decide +kernel
theorem dX3_isKind_10 : decode cX3_isKind 10 = .ok (.goto 4, 3) := by decide +kernel
theorem dX3_isKind_13 : decode cX3_isKind 13 = .ok (.iconst 0, 1) := by decide +kernel
theorem dX3_isKind_14 : decode cX3_isKind 14 = .ok (.ireturn, 1) := by decide +kernel
set_option maxRecDepth 20000 in
theorem ggX3_keepState_X2_become : GoodIn wsX3_keepState wsX2_become := goodIn_r _ [7, 8, 9, 10, 11, 12, 13, 14, 15, 16, 17, 18, 19, 20, 26, 27, 28, 29] (by decide +kernel) (by decide +kernel)
set_option maxRecDepth 20000 in
theorem gX3_keepState_X2_become_n163 : GoodIn wsX3_keepState (wsX2_become) := ggX3_keepState_X2_become
theorem dX3_keepState_0 : decode cX3_keepState 0 = .ok (.aload_n 0, 1) := by decide +kernel
theorem dX3_keepState_1 : decode cX3_keepState 1 = .ok (.getfield 20, 3) := by decide +kernel
theorem dX3_keepState_4 : decode cX3_keepState 4 = .ok (.iconst 5, 1) := by decide +kernel
theorem dX3_keepState_5 : decode cX3_keepState 5 = .ok (.if_icmp .lt 49, 3) := by decide +kernel
theorem dX3_keepState_8 : decode cX3_keepState 8 = .ok (.aload_n 0, 1) := by decide +kernel
theorem dX3_keepState_9 : decode cX3_keepState 9 = .ok (.getfield 16, 3) := by decide +kernel
theorem dX3_keepState_12 : decode cX3_keepState 12 = .ok (.iconst 0, 1) := by decide +kernel
theorem dX3_keepState_13 : decode cX3_keepState 13 = .ok (.aaload, 1) := by decide +kernel
theorem dX3_keepState_14 : decode cX3_keepState 14 = .ok (.astore_n 1, 1) := by decide +kernel
theorem dX3_keepState_15 : decode cX3_keepState 15 = .ok (.iconst 1, 1) := by decide +kernel
theorem dX3_keepState_16 : decode cX3_keepState 16 = .ok (.istore_n 2, 1) := by decide +kernel
theorem dX3_keepState_17 : decode cX3_keepState 17 = .ok (.iload_n 2, 1) := by decide +kernel
theorem dX3_keepState_18 : decode cX3_keepState 18 = .ok (.iconst 5, 1) := by decide +kernel
theorem dX3_keepState_19 : decode cX3_keepState 19 = .ok (.if_icmp .ge 23, 3) := by decide +kernel
theorem dX3_keepState_22 : decode cX3_keepState 22 = .ok (.aload_n 0, 1) := by decide +kernel
theorem dX3_keepState_23 : decode cX3_keepState 23 = .ok (.getfield 16, 3) := by decide +kernel
theorem dX3_keepState_26 : decode cX3_keepState 26 = .ok (.iload_n 2, 1) := by decide +kernel
theorem dX3_keepState_27 : decode cX3_keepState 27 = .ok (.iconst 1, 1) := by decide +kernel
theorem dX3_keepState_28 : decode cX3_keepState 28 = .ok (.isub, 1) := by decide +kernel
theorem dX3_keepState_29 : decode cX3_keepState 29 = .ok (.aload_n 0, 1) := by decide +kernel
theorem dX3_keepState_30 : decode cX3_keepState 30 = .ok (.getfield 16, 3) := by decide +kernel
theorem dX3_keepState_33 : decode cX3_keepState 33 = .ok (.iload_n 2, 1) := by decide +kernel
theorem dX3_keepState_34 : decode cX3_keepState 34 = .ok (.aaload, 1) := by decide +kernel
theorem dX3_keepState_35 : decode cX3_keepState 35 = .ok (.aastore, 1) := by decide +kernel
theorem dX3_keepState_36 : decode cX3_keepState 36 = .ok (.iinc 2 1, 3) := by decide +kernel
theorem dX3_keepState_39 : decode cX3_keepState 39 = .ok (.goto (-22), 3) := by decide +kernel
theorem dX3_keepState_42 : decode cX3_keepState 42 = .ok (.aload_n 0, 1) := by decide +kernel
theorem dX3_keepState_43 : decode cX3_keepState 43 = .ok (.getfield 16, 3) := by decide +kernel
theorem dX3_keepState_46 : decode cX3_keepState 46 = .ok (.iconst 4, 1) := by decide +kernel
theorem dX3_keepState_47 : decode cX3_keepState 47 = .ok (.aload_n 1, 1) := by decide +kernel
theorem dX3_keepState_48 : decode cX3_keepState 48 = .ok (.aastore, 1) := by decide +kernel
theorem dX3_keepState_49 : decode cX3_keepState 49 = .ok (.aload_n 0, 1) := by decide +kernel
theorem dX3_keepState_50 : decode cX3_keepState 50 = .ok (.iconst 4, 1) := by decide +kernel
theorem dX3_keepState_51 : decode cX3_keepState 51 = .ok (.putfield 20, 3) := by decide +kernel
theorem dX3_keepState_54 : decode cX3_keepState 54 = .ok (.aload_n 0, 1) := by decide +kernel
theorem dX3_keepState_55 : decode cX3_keepState 55 = .ok (.getfield 16, 3) := by decide +kernel
theorem dX3_keepState_58 : decode cX3_keepState 58 = .ok (.aload_n 0, 1) := by decide +kernel
theorem dX3_keepState_59 : decode cX3_keepState 59 = .ok (.getfield 20, 3) := by decide +kernel
theorem dX3_keepState_62 : decode cX3_keepState 62 = .ok (.aaload, 1) := by decide +kernel
theorem dX3_keepState_63 : decode cX3_keepState 63 = .ok (.astore_n 1, 1) := by decide +kernel
theorem dX3_keepState_64 : decode cX3_keepState 64 = .ok (.aload_n 1, 1) := by decide +kernel
theorem dX3_keepState_65 : decode cX3_keepState 65 = .ok (.aload_n 0, 1) := by decide +kernel
theorem dX3_keepState_66 : decode cX3_keepState 66 = .ok (.getfield 10, 3) := by decide +kernel
theorem dX3_keepState_69 : decode cX3_keepState 69 = .ok (.invokevirtual 163, 3) := by decide +kernel
theorem dX3_keepState_72 : decode cX3_keepState 72 = .ok (.aload_n 0, 1) := by decide +kernel
theorem dX3_keepState_73 : decode cX3_keepState 73 = .ok (.dup, 1) := by decide +kernel
theorem dX3_keepState_74 : decode cX3_keepState 74 = .ok (.getfield 20, 3) := by decide +kernel
theorem dX3_keepState_77 : decode cX3_keepState 77 = .ok (.iconst 1, 1) := by decide +kernel
theorem dX3_keepState_78 : decode cX3_keepState 78 = .ok (.iadd, 1) := by decide +kernel
theorem dX3_keepState_79 : decode cX3_keepState 79 = .ok (.putfield 20, 3) := by decide +kernel
theorem dX3_keepState_82 : decode cX3_keepState 82 = .ok (.aload_n 1, 1) := by decide +kernel
theorem dX3_keepState_83 : decode cX3_keepState 83 = .ok (.areturn, 1) := by decide +kernel
end
section
set_option maxRecDepth 20000 in
theorem ggX3_nthEdge_X1_becomeMoved : GoodIn wsX3_nthEdge wsX1_becomeMoved := goodIn_r _ [5, 6, 7, 8, 9, 3, 10, 36] (by decide +kernel) (by decide +kernel)
set_option maxRecDepth 20000 in
theorem gX3_nthEdge_X1_becomeMoved_n88 : GoodIn wsX3_nthEdge (wsX1_becomeMoved) := ggX3_nthEdge_X1_becomeMoved
set_option maxRecDepth 20000 in
theorem ggX3_nthEdge_X1_becomeJoin : GoodIn wsX3_nthEdge wsX1_becomeJoin := goodIn_r _ [13, 6, 14, 15, 3, 16, 17, 36] (by decide +kernel) (by decide +kernel)
set_option maxRecDepth 20000 in
theorem gX3_nthEdge_X1_becomeJoin_n81 : GoodIn wsX3_nthEdge (wsX1_becomeJoin) := ggX3_nthEdge_X1_becomeJoin
set_option maxRecDepth 20000 in
theorem ggX3_nthEdge_X1_nth : GoodIn wsX3_nthEdge wsX1_nth := goodIn_r _ [20, 6, 21, 22, 23, 24, 25, 26, 27, 28, 29, 3, 30, 36] (by decide +kernel) (by decide +kernel)
set_option maxRecDepth 20000 in
theorem gX3_nthEdge_X1_nth_n95 : GoodIn wsX3_nthEdge (wsX1_nth) := ggX3_nthEdge_X1_nth
theorem dX3_nthEdge_0 : decode cX3_nthEdge 0 = .ok (.aload_n 0, 1) := by decide +kernel
theorem dX3_nthEdge_1 : decode cX3_nthEdge 1 = .ok (.getfield 34, 3) := by decide +kernel
theorem dX3_nthEdge_4 : decode cX3_nthEdge 4 = .ok (.aload_n 1, 1) := by decide +kernel
theorem dX3_nthEdge_5 : decode cX3_nthEdge 5 = .ok (.iload_n 2, 1) := by decide +kernel
theorem dX3_nthEdge_6 : decode cX3_nthEdge 6 = .ok (.invokevirtual 88, 3) := by decide +kernel
theorem dX3_nthEdge_9 : decode cX3_nthEdge 9 = .ok (.aload_n 0, 1) := by decide +kernel
theorem dX3_nthEdge_10 : decode cX3_nthEdge 10 = .ok (.getfield 34, 3) := by decide +kernel
theorem dX3_nthEdge_13 : decode cX3_nthEdge 13 = .ok (.iconst 3, 1) := by decide +kernel
theorem dX3_nthEdge_14 : decode cX3_nthEdge 14 = .ok (.aload_n 1, 1) := by decide +kernel
theorem dX3_nthEdge_15 : decode cX3_nthEdge 15 = .ok (.aload_n 0, 1) := by decide +kernel
theorem dX3_nthEdge_16 : decode cX3_nthEdge 16 = .ok (.getfield 34, 3) := by decide +kernel
theorem dX3_nthEdge_19 : decode cX3_nthEdge 19 = .ok (.invokevirtual 81, 3) := by decide +kernel
theorem dX3_nthEdge_22 : decode cX3_nthEdge 22 = .ok (.aload_n 0, 1) := by decide +kernel
theorem dX3_nthEdge_23 : decode cX3_nthEdge 23 = .ok (.getfield 34, 3) := by decide +kernel
theorem dX3_nthEdge_26 : decode cX3_nthEdge 26 = .ok (.iload_n 3, 1) := by decide +kernel
theorem dX3_nthEdge_27 : decode cX3_nthEdge 27 = .ok (.invokevirtual 95, 3) := by decide +kernel
theorem dX3_nthEdge_30 : decode cX3_nthEdge 30 = .ok (.ireturn, 1) := by decide +kernel
set_option maxRecDepth 20000 in
theorem ggX3_countJoin_X1_becomeJoin : GoodIn wsX3_countJoin wsX1_becomeJoin := goodIn_r _ [6, 7, 8, 9, 4, 10, 11, 38] (by decide +kernel) (by decide +kernel)
set_option maxRecDepth 20000 in
theorem gX3_countJoin_X1_becomeJoin_n81 : GoodIn wsX3_countJoin (wsX1_becomeJoin) := ggX3_countJoin_X1_becomeJoin
set_option maxRecDepth 20000 in
theorem ggX3_countJoin_X1_count : GoodIn wsX3_countJoin wsX1_count := goodIn_r _ [14, 15, 16, 17, 4, 18, 19, 20, 21, 22, 7, 23, 24, 25, 26, 27, 28, 29, 38] (by decide +kernel) (by decide +kernel)
set_option maxRecDepth 20000 in
theorem gX3_countJoin_X1_count_n62 : GoodIn wsX3_countJoin (wsX1_count) := ggX3_countJoin_X1_count
theorem dX3_countJoin_0 : decode cX3_countJoin 0 = .ok (.aload_n 0, 1) := by decide +kernel
theorem dX3_countJoin_1 : decode cX3_countJoin 1 = .ok (.getfield 34, 3) := by decide +kernel
theorem dX3_countJoin_4 : decode cX3_countJoin 4 = .ok (.iload_n 1, 1) := by decide +kernel
theorem dX3_countJoin_5 : decode cX3_countJoin 5 = .ok (.aload_n 0, 1) := by decide +kernel
theorem dX3_countJoin_6 : decode cX3_countJoin 6 = .ok (.getfield 10, 3) := by decide +kernel
theorem dX3_countJoin_9 : decode cX3_countJoin 9 = .ok (.getfield 50, 3) := by decide +kernel
theorem dX3_countJoin_12 : decode cX3_countJoin 12 = .ok (.iload_n 2, 1) := by decide +kernel
theorem dX3_countJoin_13 : decode cX3_countJoin 13 = .ok (.aaload, 1) := by decide +kernel
theorem dX3_countJoin_14 : decode cX3_countJoin 14 = .ok (.aload_n 0, 1) := by decide +kernel
theorem dX3_countJoin_15 : decode cX3_countJoin 15 = .ok (.getfield 10, 3) := by decide +kernel
theorem dX3_countJoin_18 : decode cX3_countJoin 18 = .ok (.getfield 50, 3) := by decide +kernel
theorem dX3_countJoin_21 : decode cX3_countJoin 21 = .ok (.iload_n 3, 1) := by decide +kernel
theorem dX3_countJoin_22 : decode cX3_countJoin 22 = .ok (.aaload, 1) := by decide +kernel
theorem dX3_countJoin_23 : decode cX3_countJoin 23 = .ok (.invokevirtual 81, 3) := by decide +kernel
theorem dX3_countJoin_26 : decode cX3_countJoin 26 = .ok (.aload_n 0, 1) := by decide +kernel
theorem dX3_countJoin_27 : decode cX3_countJoin 27 = .ok (.getfield 34, 3) := by decide +kernel
theorem dX3_countJoin_30 : decode cX3_countJoin 30 = .ok (.invokevirtual 62, 3) := by decide +kernel
theorem dX3_countJoin_33 : decode cX3_countJoin 33 = .ok (.ireturn, 1) := by decide +kernel
set_option maxRecDepth 20000 in
theorem ggX3_countSamePieces_X1_becomeJoin : GoodIn wsX3_countSamePieces wsX1_becomeJoin := goodIn_r _ [6, 7, 8, 9, 4, 10, 11, 34] (by decide +kernel) (by decide +kernel)
set_option maxRecDepth 20000 in
theorem gX3_countSamePieces_X1_becomeJoin_n81 : GoodIn wsX3_countSamePieces (wsX1_becomeJoin) := ggX3_countSamePieces_X1_becomeJoin
set_option maxRecDepth 20000 in
theorem ggX3_countSamePieces_X1_countInPiece : GoodIn wsX3_countSamePieces wsX1_countInPiece := goodIn_r _ [14, 15, 16, 17, 4, 18, 7, 19, 20, 21, 22, 23, 24, 25, 34] (by decide +kernel) (by decide +kernel)
set_option maxRecDepth 20000 in
theorem gX3_countSamePieces_X1_countInPiece_n166 : GoodIn wsX3_countSamePieces (wsX1_countInPiece) := ggX3_countSamePieces_X1_countInPiece
theorem dX3_countSamePieces_0 : decode cX3_countSamePieces 0 = .ok (.aload_n 0, 1) := by decide +kernel
theorem dX3_countSamePieces_1 : decode cX3_countSamePieces 1 = .ok (.getfield 34, 3) := by decide +kernel
theorem dX3_countSamePieces_4 : decode cX3_countSamePieces 4 = .ok (.iconst 2, 1) := by decide +kernel
theorem dX3_countSamePieces_5 : decode cX3_countSamePieces 5 = .ok (.aload_n 0, 1) := by decide +kernel
theorem dX3_countSamePieces_6 : decode cX3_countSamePieces 6 = .ok (.getfield 10, 3) := by decide +kernel
theorem dX3_countSamePieces_9 : decode cX3_countSamePieces 9 = .ok (.getfield 50, 3) := by decide +kernel
theorem dX3_countSamePieces_12 : decode cX3_countSamePieces 12 = .ok (.iload_n 1, 1) := by decide +kernel
theorem dX3_countSamePieces_13 : decode cX3_countSamePieces 13 = .ok (.aaload, 1) := by decide +kernel
theorem dX3_countSamePieces_14 : decode cX3_countSamePieces 14 = .ok (.aload_n 0, 1) := by decide +kernel
theorem dX3_countSamePieces_15 : decode cX3_countSamePieces 15 = .ok (.getfield 10, 3) := by decide +kernel
theorem dX3_countSamePieces_18 : decode cX3_countSamePieces 18 = .ok (.getfield 50, 3) := by decide +kernel
theorem dX3_countSamePieces_21 : decode cX3_countSamePieces 21 = .ok (.iload_n 2, 1) := by decide +kernel
theorem dX3_countSamePieces_22 : decode cX3_countSamePieces 22 = .ok (.aaload, 1) := by decide +kernel
theorem dX3_countSamePieces_23 : decode cX3_countSamePieces 23 = .ok (.invokevirtual 81, 3) := by decide +kernel
theorem dX3_countSamePieces_26 : decode cX3_countSamePieces 26 = .ok (.iconst 0, 1) := by decide +kernel
theorem dX3_countSamePieces_27 : decode cX3_countSamePieces 27 = .ok (.istore_n 3, 1) := by decide +kernel
theorem dX3_countSamePieces_28 : decode cX3_countSamePieces 28 = .ok (.iconst 0, 1) := by decide +kernel
theorem dX3_countSamePieces_29 : decode cX3_countSamePieces 29 = .ok (.istore 4, 2) := by decide +kernel
theorem dX3_countSamePieces_31 : decode cX3_countSamePieces 31 = .ok (.iload 4, 2) := by decide +kernel
theorem dX3_countSamePieces_33 : decode cX3_countSamePieces 33 = .ok (.bipush 16, 2) := by decide +kernel
theorem dX3_countSamePieces_35 : decode cX3_countSamePieces 35 = .ok (.if_icmp .ge 24, 3) := by decide +kernel
theorem dX3_countSamePieces_38 : decode cX3_countSamePieces 38 = .ok (.aload_n 0, 1) := by decide +kernel
theorem dX3_countSamePieces_39 : decode cX3_countSamePieces 39 = .ok (.getfield 34, 3) := by decide +kernel
theorem dX3_countSamePieces_42 : decode cX3_countSamePieces 42 = .ok (.iload 4, 2) := by decide +kernel
theorem dX3_countSamePieces_44 : decode cX3_countSamePieces 44 = .ok (.invokevirtual 166, 3) := by decide +kernel
theorem dX3_countSamePieces_47 : decode cX3_countSamePieces 47 = .ok (.ifCond .ne 6, 3) := by decide +kernel
theorem dX3_countSamePieces_50 : decode cX3_countSamePieces 50 = .ok (.iinc 3 1, 3) := by decide +kernel
theorem dX3_countSamePieces_53 : decode cX3_countSamePieces 53 = .ok (.iinc 4 1, 3) := by decide +kernel
theorem dX3_countSamePieces_56 : decode cX3_countSamePieces 56 = .ok (.goto (-25), 3) := by decide +kernel
theorem dX3_countSamePieces_59 : decode cX3_countSamePieces 59 = .ok (.iload_n 3, 1) := by decide +kernel
theorem dX3_countSamePieces_60 : decode cX3_countSamePieces 60 = .ok (.ireturn, 1) := by decide +kernel
theorem dX3_greatestDivisor_0 : decode cX3_greatestDivisor 0 = .ok (.iload_n 0, 1) := by decide +kernel
theorem dX3_greatestDivisor_1 : decode cX3_greatestDivisor 1 = .ok (.istore_n 2, 1) := by decide +kernel
theorem dX3_greatestDivisor_2 : decode cX3_greatestDivisor 2 = .ok (.iload_n 1, 1) := by decide +kernel
theorem dX3_greatestDivisor_3 : decode cX3_greatestDivisor 3 = .ok (.istore_n 3, 1) := by decide +kernel
theorem dX3_greatestDivisor_4 : decode cX3_greatestDivisor 4 = .ok (.iconst 0, 1) := by decide +kernel
theorem dX3_greatestDivisor_5 : decode cX3_greatestDivisor 5 = .ok (.istore 4, 2) := by decide +kernel
theorem dX3_greatestDivisor_7 : decode cX3_greatestDivisor 7 = .ok (.iload 4, 2) := by decide +kernel
theorem dX3_greatestDivisor_9 : decode cX3_greatestDivisor 9 = .ok (.bipush 64, 2) := by decide +kernel
theorem dX3_greatestDivisor_11 : decode cX3_greatestDivisor 11 = .ok (.if_icmp .ge 23, 3) := by decide +kernel
theorem dX3_greatestDivisor_14 : decode cX3_greatestDivisor 14 = .ok (.iload_n 3, 1) := by decide +kernel
theorem dX3_greatestDivisor_15 : decode cX3_greatestDivisor 15 = .ok (.ifCond .eq 19, 3) := by decide +kernel
theorem dX3_greatestDivisor_18 : decode cX3_greatestDivisor 18 = .ok (.iload_n 2, 1) := by decide +kernel
theorem dX3_greatestDivisor_19 : decode cX3_greatestDivisor 19 = .ok (.iload_n 3, 1) := by decide +kernel
theorem dX3_greatestDivisor_20 : decode cX3_greatestDivisor 20 = .ok (.irem, 1) := by decide +kernel
theorem dX3_greatestDivisor_21 : decode cX3_greatestDivisor 21 = .ok (.istore 5, 2) := by decide +kernel
theorem dX3_greatestDivisor_23 : decode cX3_greatestDivisor 23 = .ok (.iload_n 3, 1) := by decide +kernel
theorem dX3_greatestDivisor_24 : decode cX3_greatestDivisor 24 = .ok (.istore_n 2, 1) := by decide +kernel
theorem dX3_greatestDivisor_25 : decode cX3_greatestDivisor 25 = .ok (.iload 5, 2) := by decide +kernel
theorem dX3_greatestDivisor_27 : decode cX3_greatestDivisor 27 = .ok (.istore_n 3, 1) := by decide +kernel
theorem dX3_greatestDivisor_28 : decode cX3_greatestDivisor 28 = .ok (.iinc 4 1, 3) := by decide +kernel
theorem dX3_greatestDivisor_31 : decode cX3_greatestDivisor 31 = .ok (.goto (-24), 3) := by decide +kernel
theorem dX3_greatestDivisor_34 : decode cX3_greatestDivisor 34 = .ok (.iload_n 2, 1) := by decide +kernel
theorem dX3_greatestDivisor_35 : decode cX3_greatestDivisor 35 = .ok (.ireturn, 1) := by decide +kernel
set_option maxRecDepth 20000 in
theorem ggX3_printPieces_X1_count : GoodIn wsX3_printPieces wsX1_count := goodIn_r _ [5, 6, 7, 8, 3, 9, 10, 11, 12, 13, 14, 15, 16, 17, 18, 19, 20, 21, 38] (by decide +kernel) (by decide +kernel)
set_option maxRecDepth 20000 in
theorem gX3_printPieces_X1_count_n62 : GoodIn wsX3_printPieces (wsX1_count) := ggX3_printPieces_X1_count
set_option maxRecDepth 20000 in
theorem ggX3_printPieces_X1_countInPiece : GoodIn wsX3_printPieces wsX1_countInPiece := goodIn_r _ [9, 10, 11, 12, 3, 13, 14, 15, 16, 17, 18, 19, 20, 21, 38] (by decide +kernel) (by decide +kernel)
set_option maxRecDepth 20000 in
theorem gX3_printPieces_X1_countInPiece_n166 : GoodIn wsX3_printPieces (wsX1_countInPiece) := ggX3_printPieces_X1_countInPiece
set_option maxRecDepth 20000 in
theorem ggX3_printPieces_X1_detail : GoodIn wsX3_printPieces wsX1_detail := goodIn_r _ [24, 25, 26, 27, 3, 28, 6, 7, 8, 9, 10, 11, 12, 13, 14, 15, 16, 17, 18, 19, 20, 21, 29, 30, 31, 32, 33, 34, 35, 36, 37, 38] (by decide +kernel) (by decide +kernel)
set_option maxRecDepth 20000 in
theorem gX3_printPieces_X1_detail_n106 : GoodIn wsX3_printPieces (wsX1_detail) := ggX3_printPieces_X1_detail
theorem dX3_printPieces_0 : decode cX3_printPieces 0 = .ok (.ldc2_w 155, 3) := by decide +kernel
theorem dX3_printPieces_3 : decode cX3_printPieces 3 = .ok (.lload_n 0, 1) := by decide +kernel
theorem dX3_printPieces_4 : decode cX3_printPieces 4 = .ok (.lmul, 1) := by decide +kernel
theorem dX3_printPieces_5 : decode cX3_printPieces 5 = .ok (.aload_n 2, 1) := by decide +kernel
theorem dX3_printPieces_6 : decode cX3_printPieces 6 = .ok (.invokevirtual 62, 3) := by decide +kernel
theorem dX3_printPieces_9 : decode cX3_printPieces 9 = .ok (.i2l, 1) := by decide +kernel
theorem dX3_printPieces_10 : decode cX3_printPieces 10 = .ok (.ladd, 1) := by decide +kernel
theorem dX3_printPieces_11 : decode cX3_printPieces 11 = .ok (.lstore_n 3, 1) := by decide +kernel
theorem dX3_printPieces_12 : decode cX3_printPieces 12 = .ok (.iconst 0, 1) := by decide +kernel
theorem dX3_printPieces_13 : decode cX3_printPieces 13 = .ok (.istore 5, 2) := by decide +kernel
theorem dX3_printPieces_15 : decode cX3_printPieces 15 = .ok (.iload 5, 2) := by decide +kernel
theorem dX3_printPieces_17 : decode cX3_printPieces 17 = .ok (.bipush 16, 2) := by decide +kernel
theorem dX3_printPieces_19 : decode cX3_printPieces 19 = .ok (.if_icmp .ge 59, 3) := by decide +kernel
theorem dX3_printPieces_22 : decode cX3_printPieces 22 = .ok (.aload_n 2, 1) := by decide +kernel
theorem dX3_printPieces_23 : decode cX3_printPieces 23 = .ok (.iload 5, 2) := by decide +kernel
theorem dX3_printPieces_25 : decode cX3_printPieces 25 = .ok (.invokevirtual 166, 3) := by decide +kernel
theorem dX3_printPieces_28 : decode cX3_printPieces 28 = .ok (.ifCond .le 44, 3) := by decide +kernel
theorem dX3_printPieces_31 : decode cX3_printPieces 31 = .ok (.ldc2_w 155, 3) := by decide +kernel
theorem dX3_printPieces_34 : decode cX3_printPieces 34 = .ok (.lload_n 3, 1) := by decide +kernel
theorem dX3_printPieces_35 : decode cX3_printPieces 35 = .ok (.lmul, 1) := by decide +kernel
theorem dX3_printPieces_36 : decode cX3_printPieces 36 = .ok (.iload 5, 2) := by decide +kernel
theorem dX3_printPieces_38 : decode cX3_printPieces 38 = .ok (.i2l, 1) := by decide +kernel
theorem dX3_printPieces_39 : decode cX3_printPieces 39 = .ok (.ladd, 1) := by decide +kernel
theorem dX3_printPieces_40 : decode cX3_printPieces 40 = .ok (.lstore_n 3, 1) := by decide +kernel
theorem dX3_printPieces_41 : decode cX3_printPieces 41 = .ok (.iconst 0, 1) := by decide +kernel
theorem dX3_printPieces_42 : decode cX3_printPieces 42 = .ok (.istore 6, 2) := by decide +kernel
theorem dX3_printPieces_44 : decode cX3_printPieces 44 = .ok (.iload 6, 2) := by decide +kernel
theorem dX3_printPieces_46 : decode cX3_printPieces 46 = .ok (.iconst 4, 1) := by decide +kernel
theorem dX3_printPieces_47 : decode cX3_printPieces 47 = .ok (.if_icmp .ge 25, 3) := by decide +kernel
theorem dX3_printPieces_50 : decode cX3_printPieces 50 = .ok (.ldc2_w 155, 3) := by decide +kernel
theorem dX3_printPieces_53 : decode cX3_printPieces 53 = .ok (.lload_n 3, 1) := by decide +kernel
theorem dX3_printPieces_54 : decode cX3_printPieces 54 = .ok (.lmul, 1) := by decide +kernel
theorem dX3_printPieces_55 : decode cX3_printPieces 55 = .ok (.aload_n 2, 1) := by decide +kernel
theorem dX3_printPieces_56 : decode cX3_printPieces 56 = .ok (.iload 5, 2) := by decide +kernel
theorem dX3_printPieces_58 : decode cX3_printPieces 58 = .ok (.iload 6, 2) := by decide +kernel
theorem dX3_printPieces_60 : decode cX3_printPieces 60 = .ok (.invokevirtual 106, 3) := by decide +kernel
theorem dX3_printPieces_63 : decode cX3_printPieces 63 = .ok (.i2l, 1) := by decide +kernel
theorem dX3_printPieces_64 : decode cX3_printPieces 64 = .ok (.ladd, 1) := by decide +kernel
theorem dX3_printPieces_65 : decode cX3_printPieces 65 = .ok (.lstore_n 3, 1) := by decide +kernel
theorem dX3_printPieces_66 : decode cX3_printPieces 66 = .ok (.iinc 6 1, 3) := by decide +kernel
theorem dX3_printPieces_69 : decode cX3_printPieces 69 = .ok (.goto (-25), 3) := by decide +kernel
theorem dX3_printPieces_72 : decode cX3_printPieces 72 = .ok (.iinc 5 1, 3) := by decide +kernel
theorem dX3_printPieces_75 : decode cX3_printPieces 75 = .ok (.goto (-60), 3) := by decide +kernel
theorem dX3_printPieces_78 : decode cX3_printPieces 78 = .ok (.lload_n 3, 1) := by decide +kernel
theorem dX3_printPieces_79 : decode cX3_printPieces 79 = .ok (.lreturn, 1) := by decide +kernel
theorem dX3_printNumbers_0 : decode cX3_printNumbers 0 = .ok (.lload_n 0, 1) := by decide +kernel
theorem dX3_printNumbers_1 : decode cX3_printNumbers 1 = .ok (.lstore_n 3, 1) := by decide +kernel
theorem dX3_printNumbers_2 : decode cX3_printNumbers 2 = .ok (.iconst 0, 1) := by decide +kernel
theorem dX3_printNumbers_3 : decode cX3_printNumbers 3 = .ok (.istore 5, 2) := by decide +kernel
theorem dX3_printNumbers_5 : decode cX3_printNumbers 5 = .ok (.iload 5, 2) := by decide +kernel
theorem dX3_printNumbers_7 : decode cX3_printNumbers 7 = .ok (.bipush 64, 2) := by decide +kernel
theorem dX3_printNumbers_9 : decode cX3_printNumbers 9 = .ok (.if_icmp .ge 70, 3) := by decide +kernel
theorem dX3_printNumbers_12 : decode cX3_printNumbers 12 = .ok (.aload_n 2, 1) := by decide +kernel
theorem dX3_printNumbers_13 : decode cX3_printNumbers 13 = .ok (.getfield 169, 3) := by decide +kernel
theorem dX3_printNumbers_16 : decode cX3_printNumbers 16 = .ok (.iload 5, 2) := by decide +kernel
theorem dX3_printNumbers_18 : decode cX3_printNumbers 18 = .ok (.laload, 1) := by decide +kernel
theorem dX3_printNumbers_19 : decode cX3_printNumbers 19 = .ok (.lstore 6, 2) := by decide +kernel
theorem dX3_printNumbers_21 : decode cX3_printNumbers 21 = .ok (.iconst 0, 1) := by decide +kernel
theorem dX3_printNumbers_22 : decode cX3_printNumbers 22 = .ok (.istore 8, 2) := by decide +kernel
theorem dX3_printNumbers_24 : decode cX3_printNumbers 24 = .ok (.iload 8, 2) := by decide +kernel
theorem dX3_printNumbers_26 : decode cX3_printNumbers 26 = .ok (.bipush 64, 2) := by decide +kernel
theorem dX3_printNumbers_28 : decode cX3_printNumbers 28 = .ok (.if_icmp .ge 45, 3) := by decide +kernel
theorem dX3_printNumbers_31 : decode cX3_printNumbers 31 = .ok (.lload 6, 2) := by decide +kernel
theorem dX3_printNumbers_33 : decode cX3_printNumbers 33 = .ok (.lconst 0, 1) := by decide +kernel
theorem dX3_printNumbers_34 : decode cX3_printNumbers 34 = .ok (.lcmp, 1) := by decide +kernel
theorem dX3_printNumbers_35 : decode cX3_printNumbers 35 = .ok (.ifCond .eq 38, 3) := by decide +kernel
theorem dX3_printNumbers_38 : decode cX3_printNumbers 38 = .ok (.lload 6, 2) := by decide +kernel
theorem dX3_printNumbers_40 : decode cX3_printNumbers 40 = .ok (.iload 8, 2) := by decide +kernel
theorem dX3_printNumbers_42 : decode cX3_printNumbers 42 = .ok (.lushr, 1) := by decide +kernel
theorem dX3_printNumbers_43 : decode cX3_printNumbers 43 = .ok (.lconst 1, 1) := by decide +kernel
theorem dX3_printNumbers_44 : decode cX3_printNumbers 44 = .ok (.land, 1) := by decide +kernel
theorem dX3_printNumbers_45 : decode cX3_printNumbers 45 = .ok (.lconst 0, 1) := by decide +kernel
theorem dX3_printNumbers_46 : decode cX3_printNumbers 46 = .ok (.lcmp, 1) := by decide +kernel
theorem dX3_printNumbers_47 : decode cX3_printNumbers 47 = .ok (.ifCond .eq 20, 3) := by decide +kernel
theorem dX3_printNumbers_50 : decode cX3_printNumbers 50 = .ok (.ldc2_w 155, 3) := by decide +kernel
theorem dX3_printNumbers_53 : decode cX3_printNumbers 53 = .ok (.lload_n 3, 1) := by decide +kernel
theorem dX3_printNumbers_54 : decode cX3_printNumbers 54 = .ok (.lmul, 1) := by decide +kernel
theorem dX3_printNumbers_55 : decode cX3_printNumbers 55 = .ok (.bipush 64, 2) := by decide +kernel
theorem dX3_printNumbers_57 : decode cX3_printNumbers 57 = .ok (.iload 5, 2) := by decide +kernel
theorem dX3_printNumbers_59 : decode cX3_printNumbers 59 = .ok (.imul, 1) := by decide +kernel
theorem dX3_printNumbers_60 : decode cX3_printNumbers 60 = .ok (.i2l, 1) := by decide +kernel
theorem dX3_printNumbers_61 : decode cX3_printNumbers 61 = .ok (.ladd, 1) := by decide +kernel
theorem dX3_printNumbers_62 : decode cX3_printNumbers 62 = .ok (.iload 8, 2) := by decide +kernel
theorem dX3_printNumbers_64 : decode cX3_printNumbers 64 = .ok (.i2l, 1) := by decide +kernel
theorem dX3_printNumbers_65 : decode cX3_printNumbers 65 = .ok (.ladd, 1) := by decide +kernel
theorem dX3_printNumbers_66 : decode cX3_printNumbers 66 = .ok (.lstore_n 3, 1) := by decide +kernel
theorem dX3_printNumbers_67 : decode cX3_printNumbers 67 = .ok (.iinc 8 1, 3) := by decide +kernel
theorem dX3_printNumbers_70 : decode cX3_printNumbers 70 = .ok (.goto (-46), 3) := by decide +kernel
theorem dX3_printNumbers_73 : decode cX3_printNumbers 73 = .ok (.iinc 5 1, 3) := by decide +kernel
theorem dX3_printNumbers_76 : decode cX3_printNumbers 76 = .ok (.goto (-71), 3) := by decide +kernel
theorem dX3_printNumbers_79 : decode cX3_printNumbers 79 = .ok (.lload_n 3, 1) := by decide +kernel
theorem dX3_printNumbers_80 : decode cX3_printNumbers 80 = .ok (.lreturn, 1) := by decide +kernel
theorem dX4_init_0 : decode cX4_init 0 = .ok (.aload_n 0, 1) := by decide +kernel
theorem dX4_init_1 : decode cX4_init 1 = .ok (.invokespecial 1, 3) := by decide +kernel
theorem dX4_init_4 : decode cX4_init 4 = .ok (.aload_n 0, 1) := by decide +kernel
theorem dX4_init_5 : decode cX4_init 5 = .ok (.sipush 790, 3) := by decide +kernel
theorem dX4_init_8 : decode cX4_init 8 = .ok (.newarray .int, 2) := by decide +kernel
theorem dX4_init_10 : decode cX4_init 10 = .ok (.putfield 7, 3) := by decide +kernel
theorem dX4_init_13 : decode cX4_init 13 = .ok (.aload_n 0, 1) := by decide +kernel
theorem dX4_init_14 : decode cX4_init 14 = .ok (.sipush 790, 3) := by decide +kernel
theorem dX4_init_17 : decode cX4_init 17 = .ok (.newarray .int, 2) := by decide +kernel
theorem dX4_init_19 : decode cX4_init 19 = .ok (.putfield 13, 3) := by decide +kernel
theorem dX4_init_22 : decode cX4_init 22 = .ok (.aload_n 0, 1) := by decide +kernel
theorem dX4_init_23 : decode cX4_init 23 = .ok (.sipush 3950, 3) := by decide +kernel
theorem dX4_init_26 : decode cX4_init 26 = .ok (.newarray .int, 2) := by decide +kernel
theorem dX4_init_28 : decode cX4_init 28 = .ok (.putfield 16, 3) := by decide +kernel
theorem dX4_init_31 : decode cX4_init 31 = .ok (.aload_n 0, 1) := by decide +kernel
theorem dX4_init_32 : decode cX4_init 32 = .ok (.sipush 200, 3) := by decide +kernel
theorem dX4_init_35 : decode cX4_init 35 = .ok (.newarray .int, 2) := by decide +kernel
theorem dX4_init_37 : decode cX4_init 37 = .ok (.putfield 19, 3) := by decide +kernel
theorem dX4_init_40 : decode cX4_init 40 = .ok (.aload_n 0, 1) := by decide +kernel
theorem dX4_init_41 : decode cX4_init 41 = .ok (.sipush 128, 3) := by decide +kernel
theorem dX4_init_44 : decode cX4_init 44 = .ok (.newarray .int, 2) := by decide +kernel
theorem dX4_init_46 : decode cX4_init 46 = .ok (.putfield 22, 3) := by decide +kernel
theorem dX4_init_49 : decode cX4_init 49 = .ok (.return_, 1) := by decide +kernel
theorem dX4_in_0 : decode cX4_in 0 = .ok (.iload_n 0, 1) := by decide +kernel
theorem dX4_in_1 : decode cX4_in 1 = .ok (.iload_n 1, 1) := by decide +kernel
theorem dX4_in_2 : decode cX4_in 2 = .ok (.if_icmp .lt 12, 3) := by decide +kernel
theorem dX4_in_5 : decode cX4_in 5 = .ok (.iload_n 0, 1) := by decide +kernel
theorem dX4_in_6 : decode cX4_in 6 = .ok (.iload_n 2, 1) := by decide +kernel
theorem dX4_in_7 : decode cX4_in 7 = .ok (.if_icmp .gt 7, 3) := by decide +kernel
theorem dX4_in_10 : decode cX4_in 10 = .ok (.iconst 1, 1) := by decide +kernel
theorem dX4_in_11 : decode cX4_in 11 = .ok (.goto 4, 3) := by decide +kernel
theorem dX4_in_14 : decode cX4_in 14 = .ok (.iconst 0, 1) := by decide +kernel
theorem dX4_in_15 : decode cX4_in 15 = .ok (.ireturn, 1) := by decide +kernel
set_option maxRecDepth 20000 in
theorem ggX4_isSet_X4_in : GoodIn wsX4_isSet wsX4_in := goodIn_r _ [4] (by decide +kernel) (by decide +kernel)
set_option maxRecDepth 20000 in
theorem gX4_isSet_X4_in : GoodIn wsX4_isSet (va_wsS RX4 25 yX4_in wsX4_in) := goodIn_app (goodIn_of _ (by decide +kernel)) ggX4_isSet_X4_in
theorem dX4_isSet_0 : decode cX4_isSet 0 = .ok (.iload_n 0, 1) := by decide +kernel
theorem dX4_isSet_1 : decode cX4_isSet 1 = .ok (.iconst 0, 1) := by decide +kernel
theorem dX4_isSet_2 : decode cX4_isSet 2 = .ok (.iconst 5, 1) := by decide +kernel
theorem dX4_isSet_3 : decode cX4_isSet 3 = .ok (.invokestatic 25, 3) := by decide +kernel
theorem dX4_isSet_6 : decode cX4_isSet 6 = .ok (.ireturn, 1) := by decide +kernel
theorem dX4_bit_0 : decode cX4_bit 0 = .ok (.aload_n 0, 1) := by decide +kernel
theorem dX4_bit_1 : decode cX4_bit 1 = .ok (.sipush 128, 3) := by decide +kernel
theorem dX4_bit_4 : decode cX4_bit 4 = .ok (.iload_n 1, 1) := by decide +kernel
theorem dX4_bit_5 : decode cX4_bit 5 = .ok (.imul, 1) := by decide +kernel
theorem dX4_bit_6 : decode cX4_bit 6 = .ok (.iload_n 2, 1) := by decide +kernel
theorem dX4_bit_7 : decode cX4_bit 7 = .ok (.bipush 32, 2) := by decide +kernel
theorem dX4_bit_9 : decode cX4_bit 9 = .ok (.idiv, 1) := by decide +kernel
theorem dX4_bit_10 : decode cX4_bit 10 = .ok (.iadd, 1) := by decide +kernel
theorem dX4_bit_11 : decode cX4_bit 11 = .ok (.iaload, 1) := by decide +kernel
theorem dX4_bit_12 : decode cX4_bit 12 = .ok (.iload_n 2, 1) := by decide +kernel
theorem dX4_bit_13 : decode cX4_bit 13 = .ok (.bipush 32, 2) := by decide +kernel
theorem dX4_bit_15 : decode cX4_bit 15 = .ok (.irem, 1) := by decide +kernel
theorem dX4_bit_16 : decode cX4_bit 16 = .ok (.ishr, 1) := by decide +kernel
theorem dX4_bit_17 : decode cX4_bit 17 = .ok (.iconst 1, 1) := by decide +kernel
theorem dX4_bit_18 : decode cX4_bit 18 = .ok (.iand, 1) := by decide +kernel
theorem dX4_bit_19 : decode cX4_bit 19 = .ok (.iconst 1, 1) := by decide +kernel
theorem dX4_bit_20 : decode cX4_bit 20 = .ok (.if_icmp .ne 7, 3) := by decide +kernel
theorem dX4_bit_23 : decode cX4_bit 23 = .ok (.iconst 1, 1) := by decide +kernel
theorem dX4_bit_24 : decode cX4_bit 24 = .ok (.goto 4, 3) := by decide +kernel
theorem dX4_bit_27 : decode cX4_bit 27 = .ok (.iconst 0, 1) := by decide +kernel
theorem dX4_bit_28 : decode cX4_bit 28 = .ok (.ireturn, 1) := by decide +kernel
set_option maxRecDepth 20000 in
theorem ggX4_has_X4_bit : GoodIn wsX4_has wsX4_bit := goodIn_r _ [5] (by decide +kernel) (by decide +kernel)
set_option maxRecDepth 20000 in
theorem gX4_has_X4_bit : GoodIn wsX4_has (va_wsS RX4 29 yX4_bit wsX4_bit) := goodIn_app (goodIn_of _ (by decide +kernel)) ggX4_has_X4_bit
theorem dX4_has_0 : decode cX4_has 0 = .ok (.aload_n 0, 1) := by decide +kernel
theorem dX4_has_1 : decode cX4_has 1 = .ok (.getfield 7, 3) := by decide +kernel
theorem dX4_has_4 : decode cX4_has 4 = .ok (.iload_n 1, 1) := by decide +kernel
theorem dX4_has_5 : decode cX4_has 5 = .ok (.iload_n 2, 1) := by decide +kernel
theorem dX4_has_6 : decode cX4_has 6 = .ok (.invokestatic 29, 3) := by decide +kernel
theorem dX4_has_9 : decode cX4_has 9 = .ok (.ireturn, 1) := by decide +kernel
theorem dX4_puts_0 : decode cX4_puts 0 = .ok (.sipush 128, 3) := by decide +kernel
theorem dX4_puts_3 : decode cX4_puts 3 = .ok (.iload_n 1, 1) := by decide +kernel
theorem dX4_puts_4 : decode cX4_puts 4 = .ok (.imul, 1) := by decide +kernel
theorem dX4_puts_5 : decode cX4_puts 5 = .ok (.iload_n 2, 1) := by decide +kernel
theorem dX4_puts_6 : decode cX4_puts 6 = .ok (.bipush 32, 2) := by decide +kernel
theorem dX4_puts_8 : decode cX4_puts 8 = .ok (.idiv, 1) := by decide +kernel
theorem dX4_puts_9 : decode cX4_puts 9 = .ok (.iadd, 1) := by decide +kernel
theorem dX4_puts_10 : decode cX4_puts 10 = .ok (.istore 4, 2) := by decide +kernel
theorem dX4_puts_12 : decode cX4_puts 12 = .ok (.aload_n 0, 1) := by decide +kernel
theorem dX4_puts_13 : decode cX4_puts 13 = .ok (.getfield 7, 3) := by decide +kernel
theorem dX4_puts_16 : decode cX4_puts 16 = .ok (.iload 4, 2) := by decide +kernel
theorem dX4_puts_18 : decode cX4_puts 18 = .ok (.iload_n 3, 1) := by decide +kernel
theorem dX4_puts_19 : decode cX4_puts 19 = .ok (.ifCond .eq 20, 3) := by decide +kernel
theorem dX4_puts_22 : decode cX4_puts 22 = .ok (.aload_n 0, 1) := by decide +kernel
theorem dX4_puts_23 : decode cX4_puts 23 = .ok (.getfield 7, 3) := by decide +kernel
theorem dX4_puts_26 : decode cX4_puts 26 = .ok (.iload 4, 2) := by decide +kernel
theorem dX4_puts_28 : decode cX4_puts 28 = .ok (.iaload, 1) := by decide +kernel
theorem dX4_puts_29 : decode cX4_puts 29 = .ok (.iconst 1, 1) := by decide +kernel
theorem dX4_puts_30 : decode cX4_puts 30 = .ok (.iload_n 2, 1) := by decide +kernel
theorem dX4_puts_31 : decode cX4_puts 31 = .ok (.bipush 32, 2) := by decide +kernel
theorem dX4_puts_33 : decode cX4_puts 33 = .ok (.irem, 1) := by decide +kernel
theorem dX4_puts_34 : decode cX4_puts 34 = .ok (.ishl, 1) := by decide +kernel
theorem dX4_puts_35 : decode cX4_puts 35 = .ok (.ior, 1) := by decide +kernel
theorem dX4_puts_36 : decode cX4_puts 36 = .ok (.goto 19, 3) := by decide +kernel
theorem dX4_puts_39 : decode cX4_puts 39 = .ok (.aload_n 0, 1) := by decide +kernel
theorem dX4_puts_40 : decode cX4_puts 40 = .ok (.getfield 7, 3) := by decide +kernel
theorem dX4_puts_43 : decode cX4_puts 43 = .ok (.iload 4, 2) := by decide +kernel
theorem dX4_puts_45 : decode cX4_puts 45 = .ok (.iaload, 1) := by decide +kernel
theorem dX4_puts_46 : decode cX4_puts 46 = .ok (.iconst 1, 1) := by decide +kernel
theorem dX4_puts_47 : decode cX4_puts 47 = .ok (.iload_n 2, 1) := by decide +kernel
theorem dX4_puts_48 : decode cX4_puts 48 = .ok (.bipush 32, 2) := by decide +kernel
theorem dX4_puts_50 : decode cX4_puts 50 = .ok (.irem, 1) := by decide +kernel
theorem dX4_puts_51 : decode cX4_puts 51 = .ok (.ishl, 1) := by decide +kernel
theorem dX4_puts_52 : decode cX4_puts 52 = .ok (.iconst (-1), 1) := by decide +kernel
theorem dX4_puts_53 : decode cX4_puts 53 = .ok (.ixor, 1) := by decide +kernel
theorem dX4_puts_54 : decode cX4_puts 54 = .ok (.iand, 1) := by decide +kernel
theorem dX4_puts_55 : decode cX4_puts 55 = .ok (.iastore, 1) := by decide +kernel
theorem dX4_puts_56 : decode cX4_puts 56 = .ok (.return_, 1) := by decide +kernel
theorem dX4_act_0 : decode cX4_act 0 = .ok (.aload_n 0, 1) := by decide +kernel
theorem dX4_act_1 : decode cX4_act 1 = .ok (.getfield 33, 3) := by decide +kernel
theorem dX4_act_4 : decode cX4_act 4 = .ok (.iconst 5, 1) := by decide +kernel
theorem dX4_act_5 : decode cX4_act 5 = .ok (.if_icmp .ne 44, 3) := by decide +kernel
theorem dX4_act_8 : decode cX4_act 8 = .ok (.iconst 0, 1) := by decide +kernel
theorem dX4_act_9 : decode cX4_act 9 = .ok (.istore_n 1, 1) := by decide +kernel
theorem dX4_act_10 : decode cX4_act 10 = .ok (.iload_n 1, 1) := by decide +kernel
theorem dX4_act_11 : decode cX4_act 11 = .ok (.sipush 3160, 3) := by decide +kernel
theorem dX4_act_14 : decode cX4_act 14 = .ok (.if_icmp .ge 25, 3) := by decide +kernel
theorem dX4_act_17 : decode cX4_act 17 = .ok (.aload_n 0, 1) := by decide +kernel
theorem dX4_act_18 : decode cX4_act 18 = .ok (.getfield 16, 3) := by decide +kernel
theorem dX4_act_21 : decode cX4_act 21 = .ok (.iload_n 1, 1) := by decide +kernel
theorem dX4_act_22 : decode cX4_act 22 = .ok (.aload_n 0, 1) := by decide +kernel
theorem dX4_act_23 : decode cX4_act 23 = .ok (.getfield 16, 3) := by decide +kernel
theorem dX4_act_26 : decode cX4_act 26 = .ok (.iload_n 1, 1) := by decide +kernel
theorem dX4_act_27 : decode cX4_act 27 = .ok (.sipush 790, 3) := by decide +kernel
theorem dX4_act_30 : decode cX4_act 30 = .ok (.iadd, 1) := by decide +kernel
theorem dX4_act_31 : decode cX4_act 31 = .ok (.iaload, 1) := by decide +kernel
theorem dX4_act_32 : decode cX4_act 32 = .ok (.iastore, 1) := by decide +kernel
theorem dX4_act_33 : decode cX4_act 33 = .ok (.iinc 1 1, 3) := by decide +kernel
theorem dX4_act_36 : decode cX4_act 36 = .ok (.goto (-26), 3) := by decide +kernel
theorem dX4_act_39 : decode cX4_act 39 = .ok (.aload_n 0, 1) := by decide +kernel
theorem dX4_act_40 : decode cX4_act 40 = .ok (.dup, 1) := by decide +kernel
theorem dX4_act_41 : decode cX4_act 41 = .ok (.getfield 33, 3) := by decide +kernel
theorem dX4_act_44 : decode cX4_act 44 = .ok (.iconst 1, 1) := by decide +kernel
theorem dX4_act_45 : decode cX4_act 45 = .ok (.isub, 1) := by decide +kernel
theorem dX4_act_46 : decode cX4_act 46 = .ok (.putfield 33, 3) := by decide +kernel
theorem dX4_act_49 : decode cX4_act 49 = .ok (.iconst 0, 1) := by decide +kernel
theorem dX4_act_50 : decode cX4_act 50 = .ok (.istore_n 1, 1) := by decide +kernel
theorem dX4_act_51 : decode cX4_act 51 = .ok (.iload_n 1, 1) := by decide +kernel
theorem dX4_act_52 : decode cX4_act 52 = .ok (.sipush 790, 3) := by decide +kernel
theorem dX4_act_55 : decode cX4_act 55 = .ok (.if_icmp .ge 42, 3) := by decide +kernel
theorem dX4_act_58 : decode cX4_act 58 = .ok (.aload_n 0, 1) := by decide +kernel
theorem dX4_act_59 : decode cX4_act 59 = .ok (.getfield 16, 3) := by decide +kernel
theorem dX4_act_62 : decode cX4_act 62 = .ok (.sipush 790, 3) := by decide +kernel
theorem dX4_act_65 : decode cX4_act 65 = .ok (.aload_n 0, 1) := by decide +kernel
theorem dX4_act_66 : decode cX4_act 66 = .ok (.getfield 33, 3) := by decide +kernel
theorem dX4_act_69 : decode cX4_act 69 = .ok (.imul, 1) := by decide +kernel
theorem dX4_act_70 : decode cX4_act 70 = .ok (.iload_n 1, 1) := by decide +kernel
theorem dX4_act_71 : decode cX4_act 71 = .ok (.iadd, 1) := by decide +kernel
theorem dX4_act_72 : decode cX4_act 72 = .ok (.aload_n 0, 1) := by decide +kernel
theorem dX4_act_73 : decode cX4_act 73 = .ok (.getfield 7, 3) := by decide +kernel
theorem dX4_act_76 : decode cX4_act 76 = .ok (.iload_n 1, 1) := by decide +kernel
theorem dX4_act_77 : decode cX4_act 77 = .ok (.iaload, 1) := by decide +kernel
theorem dX4_act_78 : decode cX4_act 78 = .ok (.iastore, 1) := by decide +kernel
theorem dX4_act_79 : decode cX4_act 79 = .ok (.aload_n 0, 1) := by decide +kernel
theorem dX4_act_80 : decode cX4_act 80 = .ok (.getfield 13, 3) := by decide +kernel
theorem dX4_act_83 : decode cX4_act 83 = .ok (.iload_n 1, 1) := by decide +kernel
theorem dX4_act_84 : decode cX4_act 84 = .ok (.aload_n 0, 1) := by decide +kernel
theorem dX4_act_85 : decode cX4_act 85 = .ok (.getfield 7, 3) := by decide +kernel
theorem dX4_act_88 : decode cX4_act 88 = .ok (.iload_n 1, 1) := by decide +kernel
theorem dX4_act_89 : decode cX4_act 89 = .ok (.iaload, 1) := by decide +kernel
theorem dX4_act_90 : decode cX4_act 90 = .ok (.iastore, 1) := by decide +kernel
theorem dX4_act_91 : decode cX4_act 91 = .ok (.iinc 1 1, 3) := by decide +kernel
theorem dX4_act_94 : decode cX4_act 94 = .ok (.goto (-43), 3) := by decide +kernel
theorem dX4_act_97 : decode cX4_act 97 = .ok (.aload_n 0, 1) := by decide +kernel
theorem dX4_act_98 : decode cX4_act 98 = .ok (.dup, 1) := by decide +kernel
theorem dX4_act_99 : decode cX4_act 99 = .ok (.getfield 33, 3) := by decide +kernel
theorem dX4_act_102 : decode cX4_act 102 = .ok (.iconst 1, 1) := by decide +kernel
theorem dX4_act_103 : decode cX4_act 103 = .ok (.iadd, 1) := by decide +kernel
theorem dX4_act_104 : decode cX4_act 104 = .ok (.putfield 33, 3) := by decide +kernel
theorem dX4_act_107 : decode cX4_act 107 = .ok (.return_, 1) := by decide +kernel
set_option maxRecDepth 20000 in
theorem ggX4_manyIn_X4_bit : GoodIn wsX4_manyIn wsX4_bit := goodIn_r _ [4] (by decide +kernel) (by decide +kernel)
set_option maxRecDepth 20000 in
theorem gX4_manyIn_X4_bit : GoodIn wsX4_manyIn (va_wsS RX4 29 yX4_bit wsX4_bit) := goodIn_app (goodIn_of _ (by decide +kernel)) ggX4_manyIn_X4_bit
theorem dX4_manyIn_0 : decode cX4_manyIn 0 = .ok (.iconst 0, 1) := by decide +kernel
theorem dX4_manyIn_1 : decode cX4_manyIn 1 = .ok (.istore_n 3, 1) := by decide +kernel
theorem dX4_manyIn_2 : decode cX4_manyIn 2 = .ok (.sipush 256, 3) := by decide +kernel
theorem dX4_manyIn_5 : decode cX4_manyIn 5 = .ok (.iload_n 2, 1) := by decide +kernel
theorem dX4_manyIn_6 : decode cX4_manyIn 6 = .ok (.imul, 1) := by decide +kernel
theorem dX4_manyIn_7 : decode cX4_manyIn 7 = .ok (.istore 4, 2) := by decide +kernel
theorem dX4_manyIn_9 : decode cX4_manyIn 9 = .ok (.iload 4, 2) := by decide +kernel
theorem dX4_manyIn_11 : decode cX4_manyIn 11 = .ok (.sipush 256, 3) := by decide +kernel
theorem dX4_manyIn_14 : decode cX4_manyIn 14 = .ok (.iload_n 2, 1) := by decide +kernel
theorem dX4_manyIn_15 : decode cX4_manyIn 15 = .ok (.imul, 1) := by decide +kernel
theorem dX4_manyIn_16 : decode cX4_manyIn 16 = .ok (.sipush 256, 3) := by decide +kernel
theorem dX4_manyIn_19 : decode cX4_manyIn 19 = .ok (.iadd, 1) := by decide +kernel
theorem dX4_manyIn_20 : decode cX4_manyIn 20 = .ok (.if_icmp .ge 27, 3) := by decide +kernel
theorem dX4_manyIn_23 : decode cX4_manyIn 23 = .ok (.iload_n 3, 1) := by decide +kernel
theorem dX4_manyIn_24 : decode cX4_manyIn 24 = .ok (.aload_n 0, 1) := by decide +kernel
theorem dX4_manyIn_25 : decode cX4_manyIn 25 = .ok (.iload_n 1, 1) := by decide +kernel
theorem dX4_manyIn_26 : decode cX4_manyIn 26 = .ok (.iload 4, 2) := by decide +kernel
theorem dX4_manyIn_28 : decode cX4_manyIn 28 = .ok (.invokestatic 29, 3) := by decide +kernel
theorem dX4_manyIn_31 : decode cX4_manyIn 31 = .ok (.ifCond .eq 7, 3) := by decide +kernel
theorem dX4_manyIn_34 : decode cX4_manyIn 34 = .ok (.iconst 1, 1) := by decide +kernel
theorem dX4_manyIn_35 : decode cX4_manyIn 35 = .ok (.goto 4, 3) := by decide +kernel
theorem dX4_manyIn_38 : decode cX4_manyIn 38 = .ok (.iconst 0, 1) := by decide +kernel
theorem dX4_manyIn_39 : decode cX4_manyIn 39 = .ok (.iadd, 1) := by decide +kernel
theorem dX4_manyIn_40 : decode cX4_manyIn 40 = .ok (.istore_n 3, 1) := by decide +kernel
theorem dX4_manyIn_41 : decode cX4_manyIn 41 = .ok (.iinc 4 1, 3) := by decide +kernel
theorem dX4_manyIn_44 : decode cX4_manyIn 44 = .ok (.goto (-35), 3) := by decide +kernel
theorem dX4_manyIn_47 : decode cX4_manyIn 47 = .ok (.iload_n 3, 1) := by decide +kernel
theorem dX4_manyIn_48 : decode cX4_manyIn 48 = .ok (.ireturn, 1) := by decide +kernel
set_option maxRecDepth 20000 in
theorem ggX4_runsIn_X4_bit : GoodIn wsX4_runsIn wsX4_bit := goodIn_r _ [4] (by decide +kernel) (by decide +kernel)
set_option maxRecDepth 20000 in
theorem gX4_runsIn_X4_bit : GoodIn wsX4_runsIn (va_wsS RX4 29 yX4_bit wsX4_bit) := goodIn_app (goodIn_of _ (by decide +kernel)) ggX4_runsIn_X4_bit
theorem dX4_runsIn_0 : decode cX4_runsIn 0 = .ok (.iconst 0, 1) := by decide +kernel
theorem dX4_runsIn_1 : decode cX4_runsIn 1 = .ok (.istore_n 3, 1) := by decide +kernel
theorem dX4_runsIn_2 : decode cX4_runsIn 2 = .ok (.sipush 256, 3) := by decide +kernel
theorem dX4_runsIn_5 : decode cX4_runsIn 5 = .ok (.iload_n 2, 1) := by decide +kernel
theorem dX4_runsIn_6 : decode cX4_runsIn 6 = .ok (.imul, 1) := by decide +kernel
theorem dX4_runsIn_7 : decode cX4_runsIn 7 = .ok (.istore 4, 2) := by decide +kernel
theorem dX4_runsIn_9 : decode cX4_runsIn 9 = .ok (.iload 4, 2) := by decide +kernel
theorem dX4_runsIn_11 : decode cX4_runsIn 11 = .ok (.sipush 256, 3) := by decide +kernel
theorem dX4_runsIn_14 : decode cX4_runsIn 14 = .ok (.iload_n 2, 1) := by decide +kernel
theorem dX4_runsIn_15 : decode cX4_runsIn 15 = .ok (.imul, 1) := by decide +kernel
theorem dX4_runsIn_16 : decode cX4_runsIn 16 = .ok (.sipush 256, 3) := by decide +kernel
theorem dX4_runsIn_19 : decode cX4_runsIn 19 = .ok (.iadd, 1) := by decide +kernel
theorem dX4_runsIn_20 : decode cX4_runsIn 20 = .ok (.if_icmp .ge 48, 3) := by decide +kernel
theorem dX4_runsIn_23 : decode cX4_runsIn 23 = .ok (.iload_n 3, 1) := by decide +kernel
theorem dX4_runsIn_24 : decode cX4_runsIn 24 = .ok (.aload_n 0, 1) := by decide +kernel
theorem dX4_runsIn_25 : decode cX4_runsIn 25 = .ok (.iload_n 1, 1) := by decide +kernel
theorem dX4_runsIn_26 : decode cX4_runsIn 26 = .ok (.iload 4, 2) := by decide +kernel
theorem dX4_runsIn_28 : decode cX4_runsIn 28 = .ok (.invokestatic 29, 3) := by decide +kernel
theorem dX4_runsIn_31 : decode cX4_runsIn 31 = .ok (.ifCond .eq 28, 3) := by decide +kernel
theorem dX4_runsIn_34 : decode cX4_runsIn 34 = .ok (.iload 4, 2) := by decide +kernel
theorem dX4_runsIn_36 : decode cX4_runsIn 36 = .ok (.sipush 256, 3) := by decide +kernel
theorem dX4_runsIn_39 : decode cX4_runsIn 39 = .ok (.irem, 1) := by decide +kernel
theorem dX4_runsIn_40 : decode cX4_runsIn 40 = .ok (.ifCond .eq 15, 3) := by decide +kernel
theorem dX4_runsIn_43 : decode cX4_runsIn 43 = .ok (.aload_n 0, 1) := by decide +kernel
theorem dX4_runsIn_44 : decode cX4_runsIn 44 = .ok (.iload_n 1, 1) := by decide +kernel
theorem dX4_runsIn_45 : decode cX4_runsIn 45 = .ok (.iload 4, 2) := by decide +kernel
theorem dX4_runsIn_47 : decode cX4_runsIn 47 = .ok (.iconst 1, 1) := by decide +kernel
theorem dX4_runsIn_48 : decode cX4_runsIn 48 = .ok (.isub, 1) := by decide +kernel
theorem dX4_runsIn_49 : decode cX4_runsIn 49 = .ok (.invokestatic 29, 3) := by decide +kernel
theorem dX4_runsIn_52 : decode cX4_runsIn 52 = .ok (.ifCond .ne 7, 3) := by decide +kernel
theorem dX4_runsIn_55 : decode cX4_runsIn 55 = .ok (.iconst 1, 1) := by decide +kernel
theorem dX4_runsIn_56 : decode cX4_runsIn 56 = .ok (.goto 4, 3) := by decide +kernel
theorem dX4_runsIn_59 : decode cX4_runsIn 59 = .ok (.iconst 0, 1) := by decide +kernel
theorem dX4_runsIn_60 : decode cX4_runsIn 60 = .ok (.iadd, 1) := by decide +kernel
theorem dX4_runsIn_61 : decode cX4_runsIn 61 = .ok (.istore_n 3, 1) := by decide +kernel
theorem dX4_runsIn_62 : decode cX4_runsIn 62 = .ok (.iinc 4 1, 3) := by decide +kernel
theorem dX4_runsIn_65 : decode cX4_runsIn 65 = .ok (.goto (-56), 3) := by decide +kernel
theorem dX4_runsIn_68 : decode cX4_runsIn 68 = .ok (.iload_n 3, 1) := by decide +kernel
theorem dX4_runsIn_69 : decode cX4_runsIn 69 = .ok (.ireturn, 1) := by decide +kernel
theorem dX4_kindBy_0 : decode cX4_kindBy 0 = .ok (.iload_n 0, 1) := by decide +kernel
theorem dX4_kindBy_1 : decode cX4_kindBy 1 = .ok (.ifCond .ne 6, 3) := by decide +kernel
theorem dX4_kindBy_4 : decode cX4_kindBy 4 = .ok (.bipush (-9), 2) := by decide +kernel
theorem dX4_kindBy_6 : decode cX4_kindBy 6 = .ok (.ireturn, 1) := by decide +kernel
theorem dX4_kindBy_7 : decode cX4_kindBy 7 = .ok (.iconst 2, 1) := by decide +kernel
theorem dX4_kindBy_8 : decode cX4_kindBy 8 = .ok (.iconst 2, 1) := by decide +kernel
theorem dX4_kindBy_9 : decode cX4_kindBy 9 = .ok (.iload_n 1, 1) := by decide +kernel
theorem dX4_kindBy_10 : decode cX4_kindBy 10 = .ok (.imul, 1) := by decide +kernel
theorem dX4_kindBy_11 : decode cX4_kindBy 11 = .ok (.iadd, 1) := by decide +kernel
theorem dX4_kindBy_12 : decode cX4_kindBy 12 = .ok (.iconst 2, 1) := by decide +kernel
theorem dX4_kindBy_13 : decode cX4_kindBy 13 = .ok (.iload_n 0, 1) := by decide +kernel
theorem dX4_kindBy_14 : decode cX4_kindBy 14 = .ok (.iadd, 1) := by decide +kernel
theorem dX4_kindBy_15 : decode cX4_kindBy 15 = .ok (.if_icmp .ge 7, 3) := by decide +kernel
theorem dX4_kindBy_18 : decode cX4_kindBy 18 = .ok (.iconst 1, 1) := by decide +kernel
theorem dX4_kindBy_19 : decode cX4_kindBy 19 = .ok (.goto 4, 3) := by decide +kernel
theorem dX4_kindBy_22 : decode cX4_kindBy 22 = .ok (.iconst 0, 1) := by decide +kernel
theorem dX4_kindBy_23 : decode cX4_kindBy 23 = .ok (.istore_n 2, 1) := by decide +kernel
theorem dX4_kindBy_24 : decode cX4_kindBy 24 = .ok (.iload_n 2, 1) := by decide +kernel
theorem dX4_kindBy_25 : decode cX4_kindBy 25 = .ok (.iconst 1, 1) := by decide +kernel
theorem dX4_kindBy_26 : decode cX4_kindBy 26 = .ok (.if_icmp .ne 11, 3) := by decide +kernel
theorem dX4_kindBy_29 : decode cX4_kindBy 29 = .ok (.iconst 2, 1) := by decide +kernel
theorem dX4_kindBy_30 : decode cX4_kindBy 30 = .ok (.iconst 2, 1) := by decide +kernel
theorem dX4_kindBy_31 : decode cX4_kindBy 31 = .ok (.iload_n 1, 1) := by decide +kernel
theorem dX4_kindBy_32 : decode cX4_kindBy 32 = .ok (.imul, 1) := by decide +kernel
theorem dX4_kindBy_33 : decode cX4_kindBy 33 = .ok (.iadd, 1) := by decide +kernel
theorem dX4_kindBy_34 : decode cX4_kindBy 34 = .ok (.goto 6, 3) := by decide +kernel
theorem dX4_kindBy_37 : decode cX4_kindBy 37 = .ok (.iconst 2, 1) := by decide +kernel
theorem dX4_kindBy_38 : decode cX4_kindBy 38 = .ok (.iload_n 0, 1) := by decide +kernel
theorem dX4_kindBy_39 : decode cX4_kindBy 39 = .ok (.iadd, 1) := by decide +kernel
theorem dX4_kindBy_40 : decode cX4_kindBy 40 = .ok (.istore_n 3, 1) := by decide +kernel
theorem dX4_kindBy_41 : decode cX4_kindBy 41 = .ok (.bipush 33, 2) := by decide +kernel
theorem dX4_kindBy_43 : decode cX4_kindBy 43 = .ok (.iload_n 3, 1) := by decide +kernel
theorem dX4_kindBy_44 : decode cX4_kindBy 44 = .ok (.if_icmp .ge 7, 3) := by decide +kernel
theorem dX4_kindBy_47 : decode cX4_kindBy 47 = .ok (.iconst 2, 1) := by decide +kernel
theorem dX4_kindBy_48 : decode cX4_kindBy 48 = .ok (.goto 4, 3) := by decide +kernel
theorem dX4_kindBy_51 : decode cX4_kindBy 51 = .ok (.iload_n 2, 1) := by decide +kernel
theorem dX4_kindBy_52 : decode cX4_kindBy 52 = .ok (.ireturn, 1) := by decide +kernel
set_option maxRecDepth 20000 in
theorem ggX4_bytesBy_X4_kindBy : GoodIn wsX4_bytesBy wsX4_kindBy := goodIn_r _ [4] (by decide +kernel) (by decide +kernel)
set_option maxRecDepth 20000 in
theorem gX4_bytesBy_X4_kindBy : GoodIn wsX4_bytesBy (va_wsS RX4 37 yX4_kindBy wsX4_kindBy) := goodIn_app (goodIn_of _ (by decide +kernel)) ggX4_bytesBy_X4_kindBy
theorem dX4_bytesBy_0 : decode cX4_bytesBy 0 = .ok (.iload_n 0, 1) := by decide +kernel
theorem dX4_bytesBy_1 : decode cX4_bytesBy 1 = .ok (.iload_n 1, 1) := by decide +kernel
theorem dX4_bytesBy_2 : decode cX4_bytesBy 2 = .ok (.invokestatic 37, 3) := by decide +kernel
theorem dX4_bytesBy_5 : decode cX4_bytesBy 5 = .ok (.istore_n 2, 1) := by decide +kernel
theorem dX4_bytesBy_6 : decode cX4_bytesBy 6 = .ok (.iload_n 2, 1) := by decide +kernel
theorem dX4_bytesBy_7 : decode cX4_bytesBy 7 = .ok (.ifCond .ge 7, 3) := by decide +kernel
theorem dX4_bytesBy_10 : decode cX4_bytesBy 10 = .ok (.iconst 0, 1) := by decide +kernel
theorem dX4_bytesBy_11 : decode cX4_bytesBy 11 = .ok (.goto 28, 3) := by decide +kernel
theorem dX4_bytesBy_14 : decode cX4_bytesBy 14 = .ok (.iload_n 2, 1) := by decide +kernel
theorem dX4_bytesBy_15 : decode cX4_bytesBy 15 = .ok (.ifCond .ne 9, 3) := by decide +kernel
theorem dX4_bytesBy_18 : decode cX4_bytesBy 18 = .ok (.iconst 2, 1) := by decide +kernel
theorem dX4_bytesBy_19 : decode cX4_bytesBy 19 = .ok (.iload_n 0, 1) := by decide +kernel
theorem dX4_bytesBy_20 : decode cX4_bytesBy 20 = .ok (.iadd, 1) := by decide +kernel
theorem dX4_bytesBy_21 : decode cX4_bytesBy 21 = .ok (.goto 18, 3) := by decide +kernel
theorem dX4_bytesBy_24 : decode cX4_bytesBy 24 = .ok (.iload_n 2, 1) := by decide +kernel
theorem dX4_bytesBy_25 : decode cX4_bytesBy 25 = .ok (.iconst 1, 1) := by decide +kernel
theorem dX4_bytesBy_26 : decode cX4_bytesBy 26 = .ok (.if_icmp .ne 11, 3) := by decide +kernel
theorem dX4_bytesBy_29 : decode cX4_bytesBy 29 = .ok (.iconst 2, 1) := by decide +kernel
theorem dX4_bytesBy_30 : decode cX4_bytesBy 30 = .ok (.iconst 2, 1) := by decide +kernel
theorem dX4_bytesBy_31 : decode cX4_bytesBy 31 = .ok (.iload_n 1, 1) := by decide +kernel
theorem dX4_bytesBy_32 : decode cX4_bytesBy 32 = .ok (.imul, 1) := by decide +kernel
theorem dX4_bytesBy_33 : decode cX4_bytesBy 33 = .ok (.iadd, 1) := by decide +kernel
theorem dX4_bytesBy_34 : decode cX4_bytesBy 34 = .ok (.goto 5, 3) := by decide +kernel
theorem dX4_bytesBy_37 : decode cX4_bytesBy 37 = .ok (.bipush 33, 2) := by decide +kernel
theorem dX4_bytesBy_39 : decode cX4_bytesBy 39 = .ok (.ireturn, 1) := by decide +kernel
set_option maxRecDepth 20000 in
theorem ggX4_kindIn_X4_manyIn : GoodIn wsX4_kindIn wsX4_manyIn := goodIn_r _ [4, 5, 6, 3, 7] (by decide +kernel) (by decide +kernel)
set_option maxRecDepth 20000 in
theorem gX4_kindIn_X4_manyIn : GoodIn wsX4_kindIn (va_wsS RX4 41 yX4_manyIn wsX4_manyIn) := goodIn_app (goodIn_of _ (by decide +kernel)) ggX4_kindIn_X4_manyIn
set_option maxRecDepth 20000 in
theorem ggX4_kindIn_X4_runsIn : GoodIn wsX4_kindIn wsX4_runsIn := goodIn_r _ [10, 5, 6, 3, 7] (by decide +kernel) (by decide +kernel)
set_option maxRecDepth 20000 in
theorem gX4_kindIn_X4_runsIn : GoodIn wsX4_kindIn (va_wsS RX4 45 yX4_runsIn wsX4_runsIn) := goodIn_app (goodIn_of _ (by decide +kernel)) ggX4_kindIn_X4_runsIn
set_option maxRecDepth 20000 in
theorem ggX4_kindIn_X4_kindBy : GoodIn wsX4_kindIn wsX4_kindBy := goodIn_r _ [13] (by decide +kernel) (by decide +kernel)
set_option maxRecDepth 20000 in
theorem gX4_kindIn_X4_kindBy : GoodIn wsX4_kindIn (va_wsS RX4 37 yX4_kindBy wsX4_kindBy) := goodIn_app (goodIn_of _ (by decide +kernel)) ggX4_kindIn_X4_kindBy
theorem dX4_kindIn_0 : decode cX4_kindIn 0 = .ok (.aload_n 0, 1) := by decide +kernel
theorem dX4_kindIn_1 : decode cX4_kindIn 1 = .ok (.iload_n 1, 1) := by decide +kernel
theorem dX4_kindIn_2 : decode cX4_kindIn 2 = .ok (.iload_n 2, 1) := by decide +kernel
theorem dX4_kindIn_3 : decode cX4_kindIn 3 = .ok (.invokestatic 41, 3) := by decide +kernel
theorem dX4_kindIn_6 : decode cX4_kindIn 6 = .ok (.aload_n 0, 1) := by decide +kernel
theorem dX4_kindIn_7 : decode cX4_kindIn 7 = .ok (.iload_n 1, 1) := by decide +kernel
theorem dX4_kindIn_8 : decode cX4_kindIn 8 = .ok (.iload_n 2, 1) := by decide +kernel
theorem dX4_kindIn_9 : decode cX4_kindIn 9 = .ok (.invokestatic 45, 3) := by decide +kernel
theorem dX4_kindIn_12 : decode cX4_kindIn 12 = .ok (.invokestatic 37, 3) := by decide +kernel
theorem dX4_kindIn_15 : decode cX4_kindIn 15 = .ok (.ireturn, 1) := by decide +kernel
set_option maxRecDepth 20000 in
theorem ggX4_converts_X4_kindIn : GoodIn wsX4_converts wsX4_kindIn := goodIn_r _ [6, 7, 8, 5, 9, 10, 11, 12, 13, 14, 15, 16, 17, 18] (by decide +kernel) (by decide +kernel)
set_option maxRecDepth 20000 in
theorem gX4_converts_X4_kindIn : GoodIn wsX4_converts (va_wsS RX4 48 yX4_kindIn wsX4_kindIn) := goodIn_app (goodIn_of _ (by decide +kernel)) ggX4_converts_X4_kindIn
theorem dX4_converts_0 : decode cX4_converts 0 = .ok (.iconst 0, 1) := by decide +kernel
theorem dX4_converts_1 : decode cX4_converts 1 = .ok (.istore_n 2, 1) := by decide +kernel
theorem dX4_converts_2 : decode cX4_converts 2 = .ok (.iload_n 2, 1) := by decide +kernel
theorem dX4_converts_3 : decode cX4_converts 3 = .ok (.bipush 16, 2) := by decide +kernel
theorem dX4_converts_5 : decode cX4_converts 5 = .ok (.if_icmp .ge 64, 3) := by decide +kernel
theorem dX4_converts_8 : decode cX4_converts 8 = .ok (.aload_n 0, 1) := by decide +kernel
theorem dX4_converts_9 : decode cX4_converts 9 = .ok (.getfield 13, 3) := by decide +kernel
theorem dX4_converts_12 : decode cX4_converts 12 = .ok (.iload_n 1, 1) := by decide +kernel
theorem dX4_converts_13 : decode cX4_converts 13 = .ok (.iload_n 2, 1) := by decide +kernel
theorem dX4_converts_14 : decode cX4_converts 14 = .ok (.invokestatic 48, 3) := by decide +kernel
theorem dX4_converts_17 : decode cX4_converts 17 = .ok (.istore_n 3, 1) := by decide +kernel
theorem dX4_converts_18 : decode cX4_converts 18 = .ok (.aload_n 0, 1) := by decide +kernel
theorem dX4_converts_19 : decode cX4_converts 19 = .ok (.getfield 7, 3) := by decide +kernel
theorem dX4_converts_22 : decode cX4_converts 22 = .ok (.iload_n 1, 1) := by decide +kernel
theorem dX4_converts_23 : decode cX4_converts 23 = .ok (.iload_n 2, 1) := by decide +kernel
theorem dX4_converts_24 : decode cX4_converts 24 = .ok (.invokestatic 48, 3) := by decide +kernel
theorem dX4_converts_27 : decode cX4_converts 27 = .ok (.istore 4, 2) := by decide +kernel
theorem dX4_converts_29 : decode cX4_converts 29 = .ok (.iload_n 3, 1) := by decide +kernel
theorem dX4_converts_30 : decode cX4_converts 30 = .ok (.ifCond .lt 33, 3) := by decide +kernel
theorem dX4_converts_33 : decode cX4_converts 33 = .ok (.iload 4, 2) := by decide +kernel
theorem dX4_converts_35 : decode cX4_converts 35 = .ok (.ifCond .lt 28, 3) := by decide +kernel
theorem dX4_converts_38 : decode cX4_converts 38 = .ok (.iload_n 3, 1) := by decide +kernel
theorem dX4_converts_39 : decode cX4_converts 39 = .ok (.iload 4, 2) := by decide +kernel
theorem dX4_converts_41 : decode cX4_converts 41 = .ok (.if_icmp .eq 22, 3) := by decide +kernel
theorem dX4_converts_44 : decode cX4_converts 44 = .ok (.aload_n 0, 1) := by decide +kernel
theorem dX4_converts_45 : decode cX4_converts 45 = .ok (.getfield 7, 3) := by decide +kernel
theorem dX4_converts_48 : decode cX4_converts 48 = .ok (.sipush 777, 3) := by decide +kernel
theorem dX4_converts_51 : decode cX4_converts 51 = .ok (.iconst 3, 1) := by decide +kernel
theorem dX4_converts_52 : decode cX4_converts 52 = .ok (.iload_n 3, 1) := by decide +kernel
theorem dX4_converts_53 : decode cX4_converts 53 = .ok (.imul, 1) := by decide +kernel
theorem dX4_converts_54 : decode cX4_converts 54 = .ok (.iadd, 1) := by decide +kernel
theorem dX4_converts_55 : decode cX4_converts 55 = .ok (.iload 4, 2) := by decide +kernel
theorem dX4_converts_57 : decode cX4_converts 57 = .ok (.iadd, 1) := by decide +kernel
theorem dX4_converts_58 : decode cX4_converts 58 = .ok (.dup2, 1) := by decide +kernel
theorem dX4_converts_59 : decode cX4_converts 59 = .ok (.iaload, 1) := by decide +kernel
theorem dX4_converts_60 : decode cX4_converts 60 = .ok (.iconst 1, 1) := by decide +kernel
theorem dX4_converts_61 : decode cX4_converts 61 = .ok (.iadd, 1) := by decide +kernel
theorem dX4_converts_62 : decode cX4_converts 62 = .ok (.iastore, 1) := by decide +kernel
theorem dX4_converts_63 : decode cX4_converts 63 = .ok (.iinc 2 1, 3) := by decide +kernel
theorem dX4_converts_66 : decode cX4_converts 66 = .ok (.goto (-64), 3) := by decide +kernel
theorem dX4_converts_69 : decode cX4_converts 69 = .ok (.return_, 1) := by decide +kernel
set_option maxRecDepth 20000 in
theorem ggX4_sizeOf_X4_has : GoodIn wsX4_sizeOf wsX4_has := goodIn_r _ [5, 6, 7, 8, 4, 9, 10, 11, 12, 13, 14, 15, 16, 17] (by decide +kernel) (by decide +kernel)
set_option maxRecDepth 20000 in
theorem gX4_sizeOf_X4_has : GoodIn wsX4_sizeOf (wsV RX4 51 RX4 yX4_has wsX4_has) := goodIn_app (goodIn_of _ (by decide +kernel)) ggX4_sizeOf_X4_has
theorem dX4_sizeOf_0 : decode cX4_sizeOf 0 = .ok (.iconst 0, 1) := by decide +kernel
theorem dX4_sizeOf_1 : decode cX4_sizeOf 1 = .ok (.istore_n 2, 1) := by decide +kernel
theorem dX4_sizeOf_2 : decode cX4_sizeOf 2 = .ok (.iconst 0, 1) := by decide +kernel
theorem dX4_sizeOf_3 : decode cX4_sizeOf 3 = .ok (.istore_n 3, 1) := by decide +kernel
theorem dX4_sizeOf_4 : decode cX4_sizeOf 4 = .ok (.iload_n 3, 1) := by decide +kernel
theorem dX4_sizeOf_5 : decode cX4_sizeOf 5 = .ok (.sipush 4096, 3) := by decide +kernel
theorem dX4_sizeOf_8 : decode cX4_sizeOf 8 = .ok (.if_icmp .ge 26, 3) := by decide +kernel
theorem dX4_sizeOf_11 : decode cX4_sizeOf 11 = .ok (.iload_n 2, 1) := by decide +kernel
theorem dX4_sizeOf_12 : decode cX4_sizeOf 12 = .ok (.aload_n 0, 1) := by decide +kernel
theorem dX4_sizeOf_13 : decode cX4_sizeOf 13 = .ok (.iload_n 1, 1) := by decide +kernel
theorem dX4_sizeOf_14 : decode cX4_sizeOf 14 = .ok (.iload_n 3, 1) := by decide +kernel
theorem dX4_sizeOf_15 : decode cX4_sizeOf 15 = .ok (.invokevirtual 51, 3) := by decide +kernel
theorem dX4_sizeOf_18 : decode cX4_sizeOf 18 = .ok (.ifCond .eq 7, 3) := by decide +kernel
theorem dX4_sizeOf_21 : decode cX4_sizeOf 21 = .ok (.iconst 1, 1) := by decide +kernel
theorem dX4_sizeOf_22 : decode cX4_sizeOf 22 = .ok (.goto 4, 3) := by decide +kernel
theorem dX4_sizeOf_25 : decode cX4_sizeOf 25 = .ok (.iconst 0, 1) := by decide +kernel
theorem dX4_sizeOf_26 : decode cX4_sizeOf 26 = .ok (.iadd, 1) := by decide +kernel
theorem dX4_sizeOf_27 : decode cX4_sizeOf 27 = .ok (.istore_n 2, 1) := by decide +kernel
theorem dX4_sizeOf_28 : decode cX4_sizeOf 28 = .ok (.iinc 3 1, 3) := by decide +kernel
theorem dX4_sizeOf_31 : decode cX4_sizeOf 31 = .ok (.goto (-27), 3) := by decide +kernel
theorem dX4_sizeOf_34 : decode cX4_sizeOf 34 = .ok (.iload_n 2, 1) := by decide +kernel
theorem dX4_sizeOf_35 : decode cX4_sizeOf 35 = .ok (.ireturn, 1) := by decide +kernel
set_option maxRecDepth 20000 in
theorem ggX4_isRange_X4_isSet : GoodIn wsX4_isRange wsX4_isSet := goodIn_r _ [4, 5, 6, 3, 7] (by decide +kernel) (by decide +kernel)
set_option maxRecDepth 20000 in
theorem gX4_isRange_X4_isSet : GoodIn wsX4_isRange (va_wsS RX4 55 yX4_isSet wsX4_isSet) := goodIn_app (goodIn_of _ (by decide +kernel)) ggX4_isRange_X4_isSet
set_option maxRecDepth 20000 in
theorem ggX4_isRange_X4_in : GoodIn wsX4_isRange wsX4_in := goodIn_r _ [7] (by decide +kernel) (by decide +kernel)
set_option maxRecDepth 20000 in
theorem gX4_isRange_X4_in : GoodIn wsX4_isRange (va_wsS RX4 25 yX4_in wsX4_in) := goodIn_app (goodIn_of _ (by decide +kernel)) ggX4_isRange_X4_in
theorem dX4_isRange_0 : decode cX4_isRange 0 = .ok (.iload_n 0, 1) := by decide +kernel
theorem dX4_isRange_1 : decode cX4_isRange 1 = .ok (.invokestatic 55, 3) := by decide +kernel
theorem dX4_isRange_4 : decode cX4_isRange 4 = .ok (.ifCond .eq 29, 3) := by decide +kernel
theorem dX4_isRange_7 : decode cX4_isRange 7 = .ok (.iload_n 1, 1) := by decide +kernel
theorem dX4_isRange_8 : decode cX4_isRange 8 = .ok (.iconst 0, 1) := by decide +kernel
theorem dX4_isRange_9 : decode cX4_isRange 9 = .ok (.sipush 4095, 3) := by decide +kernel
theorem dX4_isRange_12 : decode cX4_isRange 12 = .ok (.invokestatic 25, 3) := by decide +kernel
theorem dX4_isRange_15 : decode cX4_isRange 15 = .ok (.ifCond .eq 18, 3) := by decide +kernel
theorem dX4_isRange_18 : decode cX4_isRange 18 = .ok (.iload_n 2, 1) := by decide +kernel
theorem dX4_isRange_19 : decode cX4_isRange 19 = .ok (.iload_n 1, 1) := by decide +kernel
theorem dX4_isRange_20 : decode cX4_isRange 20 = .ok (.sipush 4095, 3) := by decide +kernel
theorem dX4_isRange_23 : decode cX4_isRange 23 = .ok (.invokestatic 25, 3) := by decide +kernel
theorem dX4_isRange_26 : decode cX4_isRange 26 = .ok (.ifCond .eq 7, 3) := by decide +kernel
theorem dX4_isRange_29 : decode cX4_isRange 29 = .ok (.iconst 1, 1) := by decide +kernel
theorem dX4_isRange_30 : decode cX4_isRange 30 = .ok (.goto 4, 3) := by decide +kernel
theorem dX4_isRange_33 : decode cX4_isRange 33 = .ok (.iconst 0, 1) := by decide +kernel
theorem dX4_isRange_34 : decode cX4_isRange 34 = .ok (.ireturn, 1) := by decide +kernel
set_option maxRecDepth 20000 in
theorem ggX4_turns_X4_act : GoodIn wsX4_turns wsX4_act := goodIn_r _ [5, 6, 7, 8, 9, 37, 38, 39, 40, 41, 42, 43, 44] (by decide +kernel) (by decide +kernel)
set_option maxRecDepth 20000 in
theorem gX4_turns_X4_act : GoodIn wsX4_turns (wsV RX4 59 RX4 yX4_act wsX4_act) := goodIn_app (goodIn_of _ (by decide +kernel)) ggX4_turns_X4_act
set_option maxRecDepth 20000 in
theorem ggX4_turns_X4_has : GoodIn wsX4_turns wsX4_has := goodIn_r _ [13, 8, 14, 15, 4, 16, 37, 38, 39, 40, 41, 42, 43, 44] (by decide +kernel) (by decide +kernel)
set_option maxRecDepth 20000 in
theorem gX4_turns_X4_has : GoodIn wsX4_turns (wsV RX4 51 RX4 yX4_has wsX4_has) := goodIn_app (goodIn_of _ (by decide +kernel)) ggX4_turns_X4_has
set_option maxRecDepth 20000 in
theorem ggX4_turns_X4_puts : GoodIn wsX4_turns wsX4_puts := goodIn_r _ [20, 8, 37, 38, 39, 40, 41, 42, 43, 44] (by decide +kernel) (by decide +kernel)
set_option maxRecDepth 20000 in
theorem gX4_turns_X4_puts : GoodIn wsX4_turns (wsV RX4 62 RX4 yX4_puts wsX4_puts) := goodIn_app (goodIn_of _ (by decide +kernel)) ggX4_turns_X4_puts
set_option maxRecDepth 20000 in
theorem ggX4_turns_X4_converts : GoodIn wsX4_turns wsX4_converts := goodIn_r _ [24, 9, 8, 25, 26, 4, 27, 28, 29, 30, 14, 15, 16, 31, 32, 33, 34, 35, 36, 37, 38, 39, 40, 41, 42, 43, 44] (by decide +kernel) (by decide +kernel)
set_option maxRecDepth 20000 in
theorem gX4_turns_X4_converts : GoodIn wsX4_turns (wsV RX4 66 RX4 yX4_converts wsX4_converts) := goodIn_app (goodIn_of _ (by decide +kernel)) ggX4_turns_X4_converts
theorem dX4_turns_0 : decode cX4_turns 0 = .ok (.aload_n 0, 1) := by decide +kernel
theorem dX4_turns_1 : decode cX4_turns 1 = .ok (.invokevirtual 59, 3) := by decide +kernel
theorem dX4_turns_4 : decode cX4_turns 4 = .ok (.iconst 0, 1) := by decide +kernel
theorem dX4_turns_5 : decode cX4_turns 5 = .ok (.istore 5, 2) := by decide +kernel
theorem dX4_turns_7 : decode cX4_turns 7 = .ok (.iload_n 2, 1) := by decide +kernel
theorem dX4_turns_8 : decode cX4_turns 8 = .ok (.istore 6, 2) := by decide +kernel
theorem dX4_turns_10 : decode cX4_turns 10 = .ok (.iload 6, 2) := by decide +kernel
theorem dX4_turns_12 : decode cX4_turns 12 = .ok (.iload_n 3, 1) := by decide +kernel
theorem dX4_turns_13 : decode cX4_turns 13 = .ok (.if_icmp .gt 71, 3) := by decide +kernel
theorem dX4_turns_16 : decode cX4_turns 16 = .ok (.iload 5, 2) := by decide +kernel
theorem dX4_turns_18 : decode cX4_turns 18 = .ok (.aload_n 0, 1) := by decide +kernel
theorem dX4_turns_19 : decode cX4_turns 19 = .ok (.iload_n 1, 1) := by decide +kernel
theorem dX4_turns_20 : decode cX4_turns 20 = .ok (.iload 6, 2) := by decide +kernel
theorem dX4_turns_22 : decode cX4_turns 22 = .ok (.invokevirtual 51, 3) := by decide +kernel
theorem dX4_turns_25 : decode cX4_turns 25 = .ok (.ifCond .eq 7, 3) := by decide +kernel
theorem dX4_turns_28 : decode cX4_turns 28 = .ok (.iconst 1, 1) := by decide +kernel
theorem dX4_turns_29 : decode cX4_turns 29 = .ok (.goto 4, 3) := by decide +kernel
theorem dX4_turns_32 : decode cX4_turns 32 = .ok (.iconst 0, 1) := by decide +kernel
theorem dX4_turns_33 : decode cX4_turns 33 = .ok (.iadd, 1) := by decide +kernel
theorem dX4_turns_34 : decode cX4_turns 34 = .ok (.istore 5, 2) := by decide +kernel
theorem dX4_turns_36 : decode cX4_turns 36 = .ok (.aload_n 0, 1) := by decide +kernel
theorem dX4_turns_37 : decode cX4_turns 37 = .ok (.iload_n 1, 1) := by decide +kernel
theorem dX4_turns_38 : decode cX4_turns 38 = .ok (.iload 6, 2) := by decide +kernel
theorem dX4_turns_40 : decode cX4_turns 40 = .ok (.iload 4, 2) := by decide +kernel
theorem dX4_turns_42 : decode cX4_turns 42 = .ok (.iconst 2, 1) := by decide +kernel
theorem dX4_turns_43 : decode cX4_turns 43 = .ok (.if_icmp .ne 21, 3) := by decide +kernel
theorem dX4_turns_46 : decode cX4_turns 46 = .ok (.aload_n 0, 1) := by decide +kernel
theorem dX4_turns_47 : decode cX4_turns 47 = .ok (.iload_n 1, 1) := by decide +kernel
theorem dX4_turns_48 : decode cX4_turns 48 = .ok (.iload 6, 2) := by decide +kernel
theorem dX4_turns_50 : decode cX4_turns 50 = .ok (.invokevirtual 51, 3) := by decide +kernel
theorem dX4_turns_53 : decode cX4_turns 53 = .ok (.ifCond .ne 7, 3) := by decide +kernel
theorem dX4_turns_56 : decode cX4_turns 56 = .ok (.iconst 1, 1) := by decide +kernel
theorem dX4_turns_57 : decode cX4_turns 57 = .ok (.goto 18, 3) := by decide +kernel
theorem dX4_turns_60 : decode cX4_turns 60 = .ok (.iconst 0, 1) := by decide +kernel
theorem dX4_turns_61 : decode cX4_turns 61 = .ok (.goto 14, 3) := by decide +kernel
theorem dX4_turns_64 : decode cX4_turns 64 = .ok (.iload 4, 2) := by decide +kernel
theorem dX4_turns_66 : decode cX4_turns 66 = .ok (.iconst 1, 1) := by decide +kernel
theorem dX4_turns_67 : decode cX4_turns 67 = .ok (.if_icmp .ne 7, 3) := by decide +kernel
theorem dX4_turns_70 : decode cX4_turns 70 = .ok (.iconst 1, 1) := by decide +kernel
theorem dX4_turns_71 : decode cX4_turns 71 = .ok (.goto 4, 3) := by decide +kernel
theorem dX4_turns_74 : decode cX4_turns 74 = .ok (.iconst 0, 1) := by decide +kernel
theorem dX4_turns_75 : decode cX4_turns 75 = .ok (.invokevirtual 62, 3) := by decide +kernel
theorem dX4_turns_78 : decode cX4_turns 78 = .ok (.iinc 6 1, 3) := by decide +kernel
theorem dX4_turns_81 : decode cX4_turns 81 = .ok (.goto (-71), 3) := by decide +kernel
theorem dX4_turns_84 : decode cX4_turns 84 = .ok (.aload_n 0, 1) := by decide +kernel
theorem dX4_turns_85 : decode cX4_turns 85 = .ok (.iload_n 1, 1) := by decide +kernel
theorem dX4_turns_86 : decode cX4_turns 86 = .ok (.invokevirtual 66, 3) := by decide +kernel
theorem dX4_turns_89 : decode cX4_turns 89 = .ok (.iload 5, 2) := by decide +kernel
theorem dX4_turns_91 : decode cX4_turns 91 = .ok (.ireturn, 1) := by decide +kernel
set_option maxRecDepth 20000 in
theorem ggX4_add_X4_isRange : GoodIn wsX4_add wsX4_isRange := goodIn_r _ [4, 5, 6, 3, 7, 8, 9, 10] (by decide +kernel) (by decide +kernel)
set_option maxRecDepth 20000 in
theorem gX4_add_X4_isRange : GoodIn wsX4_add (va_wsS RX4 70 yX4_isRange wsX4_isRange) := goodIn_app (goodIn_of _ (by decide +kernel)) ggX4_add_X4_isRange
set_option maxRecDepth 20000 in
theorem ggX4_add_X4_turns : GoodIn wsX4_add wsX4_turns := goodIn_r _ [14, 15, 16, 17, 3, 18, 19, 20, 21, 22, 23, 24, 25, 26, 27, 28, 29, 30, 31, 32, 33, 34, 35, 36, 37, 38, 39, 40, 41, 42, 43, 44, 45, 46, 47, 48, 49, 50, 51, 52, 53, 54, 55, 56, 57] (by decide +kernel) (by decide +kernel)
set_option maxRecDepth 20000 in
theorem gX4_add_X4_turns : GoodIn wsX4_add (wsV RX4 73 RX4 yX4_turns wsX4_turns) := goodIn_app (goodIn_of _ (by decide +kernel)) ggX4_add_X4_turns
theorem dX4_add_0 : decode cX4_add 0 = .ok (.iload_n 1, 1) := by decide +kernel
theorem dX4_add_1 : decode cX4_add 1 = .ok (.iload_n 2, 1) := by decide +kernel
theorem dX4_add_2 : decode cX4_add 2 = .ok (.iload_n 3, 1) := by decide +kernel
theorem dX4_add_3 : decode cX4_add 3 = .ok (.invokestatic 70, 3) := by decide +kernel
theorem dX4_add_6 : decode cX4_add 6 = .ok (.ifCond .eq 20, 3) := by decide +kernel
theorem dX4_add_9 : decode cX4_add 9 = .ok (.iload_n 3, 1) := by decide +kernel
theorem dX4_add_10 : decode cX4_add 10 = .ok (.iload_n 2, 1) := by decide +kernel
theorem dX4_add_11 : decode cX4_add 11 = .ok (.isub, 1) := by decide +kernel
theorem dX4_add_12 : decode cX4_add 12 = .ok (.iconst 1, 1) := by decide +kernel
theorem dX4_add_13 : decode cX4_add 13 = .ok (.iadd, 1) := by decide +kernel
theorem dX4_add_14 : decode cX4_add 14 = .ok (.aload_n 0, 1) := by decide +kernel
theorem dX4_add_15 : decode cX4_add 15 = .ok (.iload_n 1, 1) := by decide +kernel
theorem dX4_add_16 : decode cX4_add 16 = .ok (.iload_n 2, 1) := by decide +kernel
theorem dX4_add_17 : decode cX4_add 17 = .ok (.iload_n 3, 1) := by decide +kernel
theorem dX4_add_18 : decode cX4_add 18 = .ok (.iconst 1, 1) := by decide +kernel
theorem dX4_add_19 : decode cX4_add 19 = .ok (.invokevirtual 73, 3) := by decide +kernel
theorem dX4_add_22 : decode cX4_add 22 = .ok (.isub, 1) := by decide +kernel
theorem dX4_add_23 : decode cX4_add 23 = .ok (.goto 4, 3) := by decide +kernel
theorem dX4_add_26 : decode cX4_add 26 = .ok (.iconst (-1), 1) := by decide +kernel
theorem dX4_add_27 : decode cX4_add 27 = .ok (.ireturn, 1) := by decide +kernel
set_option maxRecDepth 20000 in
theorem ggX4_remove_X4_isRange : GoodIn wsX4_remove wsX4_isRange := goodIn_r _ [4, 5, 6, 3, 7, 8, 9, 10] (by decide +kernel) (by decide +kernel)
set_option maxRecDepth 20000 in
theorem gX4_remove_X4_isRange : GoodIn wsX4_remove (va_wsS RX4 70 yX4_isRange wsX4_isRange) := goodIn_app (goodIn_of _ (by decide +kernel)) ggX4_remove_X4_isRange
set_option maxRecDepth 20000 in
theorem ggX4_remove_X4_turns : GoodIn wsX4_remove wsX4_turns := goodIn_r _ [14, 15, 16, 17, 3, 18, 19, 20, 21, 22, 23, 24, 25, 26, 27, 28, 29, 30, 31, 32, 33, 34, 35, 36, 37, 38, 39, 40, 41, 42, 43, 44, 45, 46, 47, 48, 49, 50, 51, 52, 53, 54, 55, 56, 57] (by decide +kernel) (by decide +kernel)
set_option maxRecDepth 20000 in
theorem gX4_remove_X4_turns : GoodIn wsX4_remove (wsV RX4 73 RX4 yX4_turns wsX4_turns) := goodIn_app (goodIn_of _ (by decide +kernel)) ggX4_remove_X4_turns
theorem dX4_remove_0 : decode cX4_remove 0 = .ok (.iload_n 1, 1) := by decide +kernel
theorem dX4_remove_1 : decode cX4_remove 1 = .ok (.iload_n 2, 1) := by decide +kernel
theorem dX4_remove_2 : decode cX4_remove 2 = .ok (.iload_n 3, 1) := by decide +kernel
theorem dX4_remove_3 : decode cX4_remove 3 = .ok (.invokestatic 70, 3) := by decide +kernel
theorem dX4_remove_6 : decode cX4_remove 6 = .ok (.ifCond .eq 14, 3) := by decide +kernel
theorem dX4_remove_9 : decode cX4_remove 9 = .ok (.aload_n 0, 1) := by decide +kernel
theorem dX4_remove_10 : decode cX4_remove 10 = .ok (.iload_n 1, 1) := by decide +kernel
theorem dX4_remove_11 : decode cX4_remove 11 = .ok (.iload_n 2, 1) := by decide +kernel
theorem dX4_remove_12 : decode cX4_remove 12 = .ok (.iload_n 3, 1) := by decide +kernel
theorem dX4_remove_13 : decode cX4_remove 13 = .ok (.iconst 0, 1) := by decide +kernel
theorem dX4_remove_14 : decode cX4_remove 14 = .ok (.invokevirtual 73, 3) := by decide +kernel
theorem dX4_remove_17 : decode cX4_remove 17 = .ok (.goto 4, 3) := by decide +kernel
theorem dX4_remove_20 : decode cX4_remove 20 = .ok (.iconst (-1), 1) := by decide +kernel
theorem dX4_remove_21 : decode cX4_remove 21 = .ok (.ireturn, 1) := by decide +kernel
set_option maxRecDepth 20000 in
theorem ggX4_flip_X4_isRange : GoodIn wsX4_flip wsX4_isRange := goodIn_r _ [4, 5, 6, 3, 7, 8, 9, 10] (by decide +kernel) (by decide +kernel)
set_option maxRecDepth 20000 in
theorem gX4_flip_X4_isRange : GoodIn wsX4_flip (va_wsS RX4 70 yX4_isRange wsX4_isRange) := goodIn_app (goodIn_of _ (by decide +kernel)) ggX4_flip_X4_isRange
set_option maxRecDepth 20000 in
theorem ggX4_flip_X4_turns : GoodIn wsX4_flip wsX4_turns := goodIn_r _ [14, 15, 16, 17, 3, 18, 19, 20, 21, 22, 23, 24, 25, 26, 27, 28, 29, 30, 31, 32, 33, 34, 35, 36, 37, 38, 39, 40, 41, 42, 43, 44, 45, 46, 47, 48, 49, 50, 51, 52, 53, 54, 55, 56, 57] (by decide +kernel) (by decide +kernel)
set_option maxRecDepth 20000 in
theorem gX4_flip_X4_turns : GoodIn wsX4_flip (wsV RX4 73 RX4 yX4_turns wsX4_turns) := goodIn_app (goodIn_of _ (by decide +kernel)) ggX4_flip_X4_turns
theorem dX4_flip_0 : decode cX4_flip 0 = .ok (.iload_n 1, 1) := by decide +kernel
theorem dX4_flip_1 : decode cX4_flip 1 = .ok (.iload_n 2, 1) := by decide +kernel
theorem dX4_flip_2 : decode cX4_flip 2 = .ok (.iload_n 3, 1) := by decide +kernel
theorem dX4_flip_3 : decode cX4_flip 3 = .ok (.invokestatic 70, 3) := by decide +kernel
theorem dX4_flip_6 : decode cX4_flip 6 = .ok (.ifCond .eq 20, 3) := by decide +kernel
theorem dX4_flip_9 : decode cX4_flip 9 = .ok (.iload_n 3, 1) := by decide +kernel
theorem dX4_flip_10 : decode cX4_flip 10 = .ok (.iload_n 2, 1) := by decide +kernel
theorem dX4_flip_11 : decode cX4_flip 11 = .ok (.isub, 1) := by decide +kernel
theorem dX4_flip_12 : decode cX4_flip 12 = .ok (.iconst 1, 1) := by decide +kernel
theorem dX4_flip_13 : decode cX4_flip 13 = .ok (.iadd, 1) := by decide +kernel
theorem dX4_flip_14 : decode cX4_flip 14 = .ok (.aload_n 0, 1) := by decide +kernel
theorem dX4_flip_15 : decode cX4_flip 15 = .ok (.iload_n 1, 1) := by decide +kernel
theorem dX4_flip_16 : decode cX4_flip 16 = .ok (.iload_n 2, 1) := by decide +kernel
theorem dX4_flip_17 : decode cX4_flip 17 = .ok (.iload_n 3, 1) := by decide +kernel
theorem dX4_flip_18 : decode cX4_flip 18 = .ok (.iconst 2, 1) := by decide +kernel
theorem dX4_flip_19 : decode cX4_flip 19 = .ok (.invokevirtual 73, 3) := by decide +kernel
theorem dX4_flip_22 : decode cX4_flip 22 = .ok (.isub, 1) := by decide +kernel
theorem dX4_flip_23 : decode cX4_flip 23 = .ok (.goto 4, 3) := by decide +kernel
theorem dX4_flip_26 : decode cX4_flip 26 = .ok (.iconst (-1), 1) := by decide +kernel
theorem dX4_flip_27 : decode cX4_flip 27 = .ok (.ireturn, 1) := by decide +kernel
set_option maxRecDepth 20000 in
theorem ggX4_scatter_X4_isSet : GoodIn wsX4_scatter wsX4_isSet := goodIn_r _ [5, 6, 7, 4, 8] (by decide +kernel) (by decide +kernel)
set_option maxRecDepth 20000 in
theorem gX4_scatter_X4_isSet : GoodIn wsX4_scatter (va_wsS RX4 55 yX4_isSet wsX4_isSet) := goodIn_app (goodIn_of _ (by decide +kernel)) ggX4_scatter_X4_isSet
set_option maxRecDepth 20000 in
theorem ggX4_scatter_X4_in : GoodIn wsX4_scatter wsX4_in := goodIn_r _ [8] (by decide +kernel) (by decide +kernel)
set_option maxRecDepth 20000 in
theorem gX4_scatter_X4_in : GoodIn wsX4_scatter (va_wsS RX4 25 yX4_in wsX4_in) := goodIn_app (goodIn_of _ (by decide +kernel)) ggX4_scatter_X4_in
set_option maxRecDepth 20000 in
theorem ggX4_scatter_X4_act : GoodIn wsX4_scatter wsX4_act := goodIn_r _ [12, 13, 14, 15, 16, 48, 49, 50, 51, 52, 53, 54, 55] (by decide +kernel) (by decide +kernel)
set_option maxRecDepth 20000 in
theorem gX4_scatter_X4_act : GoodIn wsX4_scatter (wsV RX4 59 RX4 yX4_act wsX4_act) := goodIn_app (goodIn_of _ (by decide +kernel)) ggX4_scatter_X4_act
set_option maxRecDepth 20000 in
theorem ggX4_scatter_X4_puts : GoodIn wsX4_scatter wsX4_puts := goodIn_r _ [20, 15, 48, 49, 50, 51, 52, 53, 54, 55] (by decide +kernel) (by decide +kernel)
set_option maxRecDepth 20000 in
theorem gX4_scatter_X4_puts : GoodIn wsX4_scatter (wsV RX4 62 RX4 yX4_puts wsX4_puts) := goodIn_app (goodIn_of _ (by decide +kernel)) ggX4_scatter_X4_puts
set_option maxRecDepth 20000 in
theorem ggX4_scatter_X4_converts : GoodIn wsX4_scatter wsX4_converts := goodIn_r _ [24, 16, 15, 25, 26, 4, 27, 28, 29, 30, 31, 32, 33, 34, 35, 36, 37, 38, 39, 48, 49, 50, 51, 52, 53, 54, 55] (by decide +kernel) (by decide +kernel)
set_option maxRecDepth 20000 in
theorem gX4_scatter_X4_converts : GoodIn wsX4_scatter (wsV RX4 66 RX4 yX4_converts wsX4_converts) := goodIn_app (goodIn_of _ (by decide +kernel)) ggX4_scatter_X4_converts
set_option maxRecDepth 20000 in
theorem ggX4_scatter_X4_sizeOf : GoodIn wsX4_scatter wsX4_sizeOf := goodIn_r _ [43, 44, 45, 46, 4, 47, 15, 31, 32, 33, 48, 49, 50, 51, 52, 53, 54, 55] (by decide +kernel) (by decide +kernel)
set_option maxRecDepth 20000 in
theorem gX4_scatter_X4_sizeOf : GoodIn wsX4_scatter (wsV RX4 78 RX4 yX4_sizeOf wsX4_sizeOf) := goodIn_app (goodIn_of _ (by decide +kernel)) ggX4_scatter_X4_sizeOf
theorem dX4_scatter_0 : decode cX4_scatter 0 = .ok (.iload_n 1, 1) := by decide +kernel
theorem dX4_scatter_1 : decode cX4_scatter 1 = .ok (.invokestatic 55, 3) := by decide +kernel
theorem dX4_scatter_4 : decode cX4_scatter 4 = .ok (.ifCond .eq 14, 3) := by decide +kernel
theorem dX4_scatter_7 : decode cX4_scatter 7 = .ok (.iload_n 3, 1) := by decide +kernel
theorem dX4_scatter_8 : decode cX4_scatter 8 = .ok (.iconst 1, 1) := by decide +kernel
theorem dX4_scatter_9 : decode cX4_scatter 9 = .ok (.sipush 300, 3) := by decide +kernel
theorem dX4_scatter_12 : decode cX4_scatter 12 = .ok (.invokestatic 25, 3) := by decide +kernel
theorem dX4_scatter_15 : decode cX4_scatter 15 = .ok (.ifCond .ne 5, 3) := by decide +kernel
theorem dX4_scatter_18 : decode cX4_scatter 18 = .ok (.iconst (-1), 1) := by decide +kernel
theorem dX4_scatter_19 : decode cX4_scatter 19 = .ok (.ireturn, 1) := by decide +kernel
theorem dX4_scatter_20 : decode cX4_scatter 20 = .ok (.aload_n 0, 1) := by decide +kernel
theorem dX4_scatter_21 : decode cX4_scatter 21 = .ok (.invokevirtual 59, 3) := by decide +kernel
theorem dX4_scatter_24 : decode cX4_scatter 24 = .ok (.iload_n 2, 1) := by decide +kernel
theorem dX4_scatter_25 : decode cX4_scatter 25 = .ok (.istore 4, 2) := by decide +kernel
theorem dX4_scatter_27 : decode cX4_scatter 27 = .ok (.iconst 0, 1) := by decide +kernel
theorem dX4_scatter_28 : decode cX4_scatter 28 = .ok (.istore 5, 2) := by decide +kernel
theorem dX4_scatter_30 : decode cX4_scatter 30 = .ok (.iload 5, 2) := by decide +kernel
theorem dX4_scatter_32 : decode cX4_scatter 32 = .ok (.iload_n 3, 1) := by decide +kernel
theorem dX4_scatter_33 : decode cX4_scatter 33 = .ok (.if_icmp .ge 35, 3) := by decide +kernel
theorem dX4_scatter_36 : decode cX4_scatter 36 = .ok (.ldc 77, 2) := by decide +kernel
theorem dX4_scatter_38 : decode cX4_scatter 38 = .ok (.iload 4, 2) := by decide +kernel
theorem dX4_scatter_40 : decode cX4_scatter 40 = .ok (.imul, 1) := by decide +kernel
theorem dX4_scatter_41 : decode cX4_scatter 41 = .ok (.sipush 12345, 3) := by decide +kernel
theorem dX4_scatter_44 : decode cX4_scatter 44 = .ok (.iadd, 1) := by decide +kernel
theorem dX4_scatter_45 : decode cX4_scatter 45 = .ok (.istore 4, 2) := by decide +kernel
theorem dX4_scatter_47 : decode cX4_scatter 47 = .ok (.aload_n 0, 1) := by decide +kernel
theorem dX4_scatter_48 : decode cX4_scatter 48 = .ok (.iload_n 1, 1) := by decide +kernel
theorem dX4_scatter_49 : decode cX4_scatter 49 = .ok (.iload 4, 2) := by decide +kernel
theorem dX4_scatter_51 : decode cX4_scatter 51 = .ok (.bipush 16, 2) := by decide +kernel
theorem dX4_scatter_53 : decode cX4_scatter 53 = .ok (.iushr, 1) := by decide +kernel
theorem dX4_scatter_54 : decode cX4_scatter 54 = .ok (.sipush 4096, 3) := by decide +kernel
theorem dX4_scatter_57 : decode cX4_scatter 57 = .ok (.irem, 1) := by decide +kernel
theorem dX4_scatter_58 : decode cX4_scatter 58 = .ok (.iconst 1, 1) := by decide +kernel
theorem dX4_scatter_59 : decode cX4_scatter 59 = .ok (.invokevirtual 62, 3) := by decide +kernel
theorem dX4_scatter_62 : decode cX4_scatter 62 = .ok (.iinc 5 1, 3) := by decide +kernel
theorem dX4_scatter_65 : decode cX4_scatter 65 = .ok (.goto (-35), 3) := by decide +kernel
theorem dX4_scatter_68 : decode cX4_scatter 68 = .ok (.aload_n 0, 1) := by decide +kernel
theorem dX4_scatter_69 : decode cX4_scatter 69 = .ok (.iload_n 1, 1) := by decide +kernel
theorem dX4_scatter_70 : decode cX4_scatter 70 = .ok (.invokevirtual 66, 3) := by decide +kernel
theorem dX4_scatter_73 : decode cX4_scatter 73 = .ok (.aload_n 0, 1) := by decide +kernel
theorem dX4_scatter_74 : decode cX4_scatter 74 = .ok (.iload_n 1, 1) := by decide +kernel
theorem dX4_scatter_75 : decode cX4_scatter 75 = .ok (.invokevirtual 78, 3) := by decide +kernel
theorem dX4_scatter_78 : decode cX4_scatter 78 = .ok (.ireturn, 1) := by decide +kernel
end
section
set_option maxRecDepth 20000 in
theorem ggX4_combine_X4_in : GoodIn wsX4_combine wsX4_in := goodIn_r _ [6] (by decide +kernel) (by decide +kernel)
set_option maxRecDepth 20000 in
theorem gX4_combine_X4_in : GoodIn wsX4_combine (va_wsS RX4 25 yX4_in wsX4_in) := goodIn_app (goodIn_of _ (by decide +kernel)) ggX4_combine_X4_in
set_option maxRecDepth 20000 in
theorem ggX4_combine_X4_isSet : GoodIn wsX4_combine wsX4_isSet := goodIn_r _ [9, 3, 4, 5, 6] (by decide +kernel) (by decide +kernel)
set_option maxRecDepth 20000 in
theorem gX4_combine_X4_isSet : GoodIn wsX4_combine (va_wsS RX4 55 yX4_isSet wsX4_isSet) := goodIn_app (goodIn_of _ (by decide +kernel)) ggX4_combine_X4_isSet
set_option maxRecDepth 20000 in
theorem ggX4_combine_X4_act : GoodIn wsX4_combine wsX4_act := goodIn_r _ [13, 14, 15, 2, 1, 43, 44, 45, 46, 47, 48, 49, 50] (by decide +kernel) (by decide +kernel)
set_option maxRecDepth 20000 in
theorem gX4_combine_X4_act : GoodIn wsX4_combine (wsV RX4 59 RX4 yX4_act wsX4_act) := goodIn_app (goodIn_of _ (by decide +kernel)) ggX4_combine_X4_act
set_option maxRecDepth 20000 in
theorem ggX4_combine_X4_kindIn : GoodIn wsX4_combine wsX4_kindIn := goodIn_r _ [18, 19, 20, 5, 21, 22, 23, 24, 25, 26, 27, 28, 29, 30] (by decide +kernel) (by decide +kernel)
set_option maxRecDepth 20000 in
theorem gX4_combine_X4_kindIn : GoodIn wsX4_combine (va_wsS RX4 48 yX4_kindIn wsX4_kindIn) := goodIn_app (goodIn_of _ (by decide +kernel)) ggX4_combine_X4_kindIn
set_option maxRecDepth 20000 in
theorem ggX4_combine_X4_converts : GoodIn wsX4_combine wsX4_converts := goodIn_r _ [34, 1, 2, 16, 17, 5, 18, 19, 20, 21, 22, 23, 24, 25, 26, 27, 28, 29, 30, 43, 44, 45, 46, 47, 48, 49, 50] (by decide +kernel) (by decide +kernel)
set_option maxRecDepth 20000 in
theorem gX4_combine_X4_converts : GoodIn wsX4_combine (wsV RX4 66 RX4 yX4_converts wsX4_converts) := goodIn_app (goodIn_of _ (by decide +kernel)) ggX4_combine_X4_converts
set_option maxRecDepth 20000 in
theorem ggX4_combine_X4_sizeOf : GoodIn wsX4_combine wsX4_sizeOf := goodIn_r _ [38, 39, 40, 41, 5, 42, 2, 22, 23, 24, 43, 44, 45, 46, 47, 48, 49, 50] (by decide +kernel) (by decide +kernel)
set_option maxRecDepth 20000 in
theorem gX4_combine_X4_sizeOf : GoodIn wsX4_combine (wsV RX4 78 RX4 yX4_sizeOf wsX4_sizeOf) := goodIn_app (goodIn_of _ (by decide +kernel)) ggX4_combine_X4_sizeOf
theorem dX4_combine_0 : decode cX4_combine 0 = .ok (.iload_n 1, 1) := by decide +kernel
theorem dX4_combine_1 : decode cX4_combine 1 = .ok (.iconst 0, 1) := by decide +kernel
theorem dX4_combine_2 : decode cX4_combine 2 = .ok (.iconst 3, 1) := by decide +kernel
theorem dX4_combine_3 : decode cX4_combine 3 = .ok (.invokestatic 25, 3) := by decide +kernel
theorem dX4_combine_6 : decode cX4_combine 6 = .ok (.ifCond .eq 25, 3) := by decide +kernel
theorem dX4_combine_9 : decode cX4_combine 9 = .ok (.iload_n 2, 1) := by decide +kernel
theorem dX4_combine_10 : decode cX4_combine 10 = .ok (.invokestatic 55, 3) := by decide +kernel
theorem dX4_combine_13 : decode cX4_combine 13 = .ok (.ifCond .eq 18, 3) := by decide +kernel
theorem dX4_combine_16 : decode cX4_combine 16 = .ok (.iload_n 3, 1) := by decide +kernel
theorem dX4_combine_17 : decode cX4_combine 17 = .ok (.invokestatic 55, 3) := by decide +kernel
theorem dX4_combine_20 : decode cX4_combine 20 = .ok (.ifCond .eq 11, 3) := by decide +kernel
theorem dX4_combine_23 : decode cX4_combine 23 = .ok (.iload 4, 2) := by decide +kernel
theorem dX4_combine_25 : decode cX4_combine 25 = .ok (.invokestatic 55, 3) := by decide +kernel
theorem dX4_combine_28 : decode cX4_combine 28 = .ok (.ifCond .ne 5, 3) := by decide +kernel
theorem dX4_combine_31 : decode cX4_combine 31 = .ok (.iconst (-1), 1) := by decide +kernel
theorem dX4_combine_32 : decode cX4_combine 32 = .ok (.ireturn, 1) := by decide +kernel
theorem dX4_combine_33 : decode cX4_combine 33 = .ok (.aload_n 0, 1) := by decide +kernel
theorem dX4_combine_34 : decode cX4_combine 34 = .ok (.invokevirtual 59, 3) := by decide +kernel
theorem dX4_combine_37 : decode cX4_combine 37 = .ok (.iconst 0, 1) := by decide +kernel
theorem dX4_combine_38 : decode cX4_combine 38 = .ok (.istore 5, 2) := by decide +kernel
theorem dX4_combine_40 : decode cX4_combine 40 = .ok (.iload 5, 2) := by decide +kernel
theorem dX4_combine_42 : decode cX4_combine 42 = .ok (.bipush 16, 2) := by decide +kernel
theorem dX4_combine_44 : decode cX4_combine 44 = .ok (.if_icmp .ge 63, 3) := by decide +kernel
theorem dX4_combine_47 : decode cX4_combine 47 = .ok (.aload_n 0, 1) := by decide +kernel
theorem dX4_combine_48 : decode cX4_combine 48 = .ok (.getfield 13, 3) := by decide +kernel
theorem dX4_combine_51 : decode cX4_combine 51 = .ok (.iload_n 2, 1) := by decide +kernel
theorem dX4_combine_52 : decode cX4_combine 52 = .ok (.iload 5, 2) := by decide +kernel
theorem dX4_combine_54 : decode cX4_combine 54 = .ok (.invokestatic 48, 3) := by decide +kernel
theorem dX4_combine_57 : decode cX4_combine 57 = .ok (.istore 6, 2) := by decide +kernel
theorem dX4_combine_59 : decode cX4_combine 59 = .ok (.aload_n 0, 1) := by decide +kernel
theorem dX4_combine_60 : decode cX4_combine 60 = .ok (.getfield 13, 3) := by decide +kernel
theorem dX4_combine_63 : decode cX4_combine 63 = .ok (.iload_n 3, 1) := by decide +kernel
theorem dX4_combine_64 : decode cX4_combine 64 = .ok (.iload 5, 2) := by decide +kernel
theorem dX4_combine_66 : decode cX4_combine 66 = .ok (.invokestatic 48, 3) := by decide +kernel
theorem dX4_combine_69 : decode cX4_combine 69 = .ok (.istore 7, 2) := by decide +kernel
theorem dX4_combine_71 : decode cX4_combine 71 = .ok (.iload 6, 2) := by decide +kernel
theorem dX4_combine_73 : decode cX4_combine 73 = .ok (.ifCond .lt 28, 3) := by decide +kernel
theorem dX4_combine_76 : decode cX4_combine 76 = .ok (.iload 7, 2) := by decide +kernel
theorem dX4_combine_78 : decode cX4_combine 78 = .ok (.ifCond .lt 23, 3) := by decide +kernel
theorem dX4_combine_81 : decode cX4_combine 81 = .ok (.aload_n 0, 1) := by decide +kernel
theorem dX4_combine_82 : decode cX4_combine 82 = .ok (.getfield 7, 3) := by decide +kernel
theorem dX4_combine_85 : decode cX4_combine 85 = .ok (.sipush 768, 3) := by decide +kernel
theorem dX4_combine_88 : decode cX4_combine 88 = .ok (.iconst 3, 1) := by decide +kernel
theorem dX4_combine_89 : decode cX4_combine 89 = .ok (.iload 6, 2) := by decide +kernel
theorem dX4_combine_91 : decode cX4_combine 91 = .ok (.imul, 1) := by decide +kernel
theorem dX4_combine_92 : decode cX4_combine 92 = .ok (.iadd, 1) := by decide +kernel
theorem dX4_combine_93 : decode cX4_combine 93 = .ok (.iload 7, 2) := by decide +kernel
theorem dX4_combine_95 : decode cX4_combine 95 = .ok (.iadd, 1) := by decide +kernel
theorem dX4_combine_96 : decode cX4_combine 96 = .ok (.dup2, 1) := by decide +kernel
theorem dX4_combine_97 : decode cX4_combine 97 = .ok (.iaload, 1) := by decide +kernel
theorem dX4_combine_98 : decode cX4_combine 98 = .ok (.iconst 1, 1) := by decide +kernel
theorem dX4_combine_99 : decode cX4_combine 99 = .ok (.iadd, 1) := by decide +kernel
theorem dX4_combine_100 : decode cX4_combine 100 = .ok (.iastore, 1) := by decide +kernel
theorem dX4_combine_101 : decode cX4_combine 101 = .ok (.iinc 5 1, 3) := by decide +kernel
theorem dX4_combine_104 : decode cX4_combine 104 = .ok (.goto (-64), 3) := by decide +kernel
theorem dX4_combine_107 : decode cX4_combine 107 = .ok (.iconst 0, 1) := by decide +kernel
theorem dX4_combine_108 : decode cX4_combine 108 = .ok (.istore 5, 2) := by decide +kernel
theorem dX4_combine_110 : decode cX4_combine 110 = .ok (.iload 5, 2) := by decide +kernel
theorem dX4_combine_112 : decode cX4_combine 112 = .ok (.sipush 128, 3) := by decide +kernel
theorem dX4_combine_115 : decode cX4_combine 115 = .ok (.if_icmp .ge 98, 3) := by decide +kernel
theorem dX4_combine_118 : decode cX4_combine 118 = .ok (.aload_n 0, 1) := by decide +kernel
theorem dX4_combine_119 : decode cX4_combine 119 = .ok (.getfield 13, 3) := by decide +kernel
theorem dX4_combine_122 : decode cX4_combine 122 = .ok (.sipush 128, 3) := by decide +kernel
theorem dX4_combine_125 : decode cX4_combine 125 = .ok (.iload_n 2, 1) := by decide +kernel
theorem dX4_combine_126 : decode cX4_combine 126 = .ok (.imul, 1) := by decide +kernel
theorem dX4_combine_127 : decode cX4_combine 127 = .ok (.iload 5, 2) := by decide +kernel
theorem dX4_combine_129 : decode cX4_combine 129 = .ok (.iadd, 1) := by decide +kernel
theorem dX4_combine_130 : decode cX4_combine 130 = .ok (.iaload, 1) := by decide +kernel
theorem dX4_combine_131 : decode cX4_combine 131 = .ok (.istore 6, 2) := by decide +kernel
theorem dX4_combine_133 : decode cX4_combine 133 = .ok (.aload_n 0, 1) := by decide +kernel
theorem dX4_combine_134 : decode cX4_combine 134 = .ok (.getfield 13, 3) := by decide +kernel
theorem dX4_combine_137 : decode cX4_combine 137 = .ok (.sipush 128, 3) := by decide +kernel
theorem dX4_combine_140 : decode cX4_combine 140 = .ok (.iload_n 3, 1) := by decide +kernel
theorem dX4_combine_141 : decode cX4_combine 141 = .ok (.imul, 1) := by decide +kernel
theorem dX4_combine_142 : decode cX4_combine 142 = .ok (.iload 5, 2) := by decide +kernel
theorem dX4_combine_144 : decode cX4_combine 144 = .ok (.iadd, 1) := by decide +kernel
theorem dX4_combine_145 : decode cX4_combine 145 = .ok (.iaload, 1) := by decide +kernel
theorem dX4_combine_146 : decode cX4_combine 146 = .ok (.istore 7, 2) := by decide +kernel
theorem dX4_combine_148 : decode cX4_combine 148 = .ok (.aload_n 0, 1) := by decide +kernel
theorem dX4_combine_149 : decode cX4_combine 149 = .ok (.getfield 7, 3) := by decide +kernel
theorem dX4_combine_152 : decode cX4_combine 152 = .ok (.sipush 128, 3) := by decide +kernel
theorem dX4_combine_155 : decode cX4_combine 155 = .ok (.iload 4, 2) := by decide +kernel
theorem dX4_combine_157 : decode cX4_combine 157 = .ok (.imul, 1) := by decide +kernel
theorem dX4_combine_158 : decode cX4_combine 158 = .ok (.iload 5, 2) := by decide +kernel
theorem dX4_combine_160 : decode cX4_combine 160 = .ok (.iadd, 1) := by decide +kernel
theorem dX4_combine_161 : decode cX4_combine 161 = .ok (.iload_n 1, 1) := by decide +kernel
theorem dX4_combine_162 : decode cX4_combine 162 = .ok (.ifCond .ne 11, 3) := by decide +kernel
theorem dX4_combine_165 : decode cX4_combine 165 = .ok (.iload 6, 2) := by decide +kernel
theorem dX4_combine_167 : decode cX4_combine 167 = .ok (.iload 7, 2) := by decide +kernel
theorem dX4_combine_169 : decode cX4_combine 169 = .ok (.iand, 1) := by decide +kernel
theorem dX4_combine_170 : decode cX4_combine 170 = .ok (.goto 36, 3) := by decide +kernel
theorem dX4_combine_173 : decode cX4_combine 173 = .ok (.iload_n 1, 1) := by decide +kernel
theorem dX4_combine_174 : decode cX4_combine 174 = .ok (.iconst 1, 1) := by decide +kernel
theorem dX4_combine_175 : decode cX4_combine 175 = .ok (.if_icmp .ne 11, 3) := by decide +kernel
theorem dX4_combine_178 : decode cX4_combine 178 = .ok (.iload 6, 2) := by decide +kernel
theorem dX4_combine_180 : decode cX4_combine 180 = .ok (.iload 7, 2) := by decide +kernel
theorem dX4_combine_182 : decode cX4_combine 182 = .ok (.ior, 1) := by decide +kernel
theorem dX4_combine_183 : decode cX4_combine 183 = .ok (.goto 23, 3) := by decide +kernel
theorem dX4_combine_186 : decode cX4_combine 186 = .ok (.iload_n 1, 1) := by decide +kernel
theorem dX4_combine_187 : decode cX4_combine 187 = .ok (.iconst 2, 1) := by decide +kernel
theorem dX4_combine_188 : decode cX4_combine 188 = .ok (.if_icmp .ne 11, 3) := by decide +kernel
theorem dX4_combine_191 : decode cX4_combine 191 = .ok (.iload 6, 2) := by decide +kernel
theorem dX4_combine_193 : decode cX4_combine 193 = .ok (.iload 7, 2) := by decide +kernel
theorem dX4_combine_195 : decode cX4_combine 195 = .ok (.ixor, 1) := by decide +kernel
theorem dX4_combine_196 : decode cX4_combine 196 = .ok (.goto 10, 3) := by decide +kernel
theorem dX4_combine_199 : decode cX4_combine 199 = .ok (.iload 6, 2) := by decide +kernel
theorem dX4_combine_201 : decode cX4_combine 201 = .ok (.iload 7, 2) := by decide +kernel
theorem dX4_combine_203 : decode cX4_combine 203 = .ok (.iconst (-1), 1) := by decide +kernel
theorem dX4_combine_204 : decode cX4_combine 204 = .ok (.ixor, 1) := by decide +kernel
theorem dX4_combine_205 : decode cX4_combine 205 = .ok (.iand, 1) := by decide +kernel
theorem dX4_combine_206 : decode cX4_combine 206 = .ok (.iastore, 1) := by decide +kernel
theorem dX4_combine_207 : decode cX4_combine 207 = .ok (.iinc 5 1, 3) := by decide +kernel
theorem dX4_combine_210 : decode cX4_combine 210 = .ok (.goto (-100), 3) := by decide +kernel
theorem dX4_combine_213 : decode cX4_combine 213 = .ok (.aload_n 0, 1) := by decide +kernel
theorem dX4_combine_214 : decode cX4_combine 214 = .ok (.iload 4, 2) := by decide +kernel
theorem dX4_combine_216 : decode cX4_combine 216 = .ok (.invokevirtual 66, 3) := by decide +kernel
theorem dX4_combine_219 : decode cX4_combine 219 = .ok (.aload_n 0, 1) := by decide +kernel
theorem dX4_combine_220 : decode cX4_combine 220 = .ok (.iload 4, 2) := by decide +kernel
theorem dX4_combine_222 : decode cX4_combine 222 = .ok (.invokevirtual 78, 3) := by decide +kernel
theorem dX4_combine_225 : decode cX4_combine 225 = .ok (.ireturn, 1) := by decide +kernel
set_option maxRecDepth 20000 in
theorem ggX4_shift_X4_isSet : GoodIn wsX4_shift wsX4_isSet := goodIn_r _ [6, 7, 8, 5, 9] (by decide +kernel) (by decide +kernel)
set_option maxRecDepth 20000 in
theorem gX4_shift_X4_isSet : GoodIn wsX4_shift (va_wsS RX4 55 yX4_isSet wsX4_isSet) := goodIn_app (goodIn_of _ (by decide +kernel)) ggX4_shift_X4_isSet
set_option maxRecDepth 20000 in
theorem ggX4_shift_X4_in : GoodIn wsX4_shift wsX4_in := goodIn_r _ [9] (by decide +kernel) (by decide +kernel)
set_option maxRecDepth 20000 in
theorem gX4_shift_X4_in : GoodIn wsX4_shift (va_wsS RX4 25 yX4_in wsX4_in) := goodIn_app (goodIn_of _ (by decide +kernel)) ggX4_shift_X4_in
set_option maxRecDepth 20000 in
theorem ggX4_shift_X4_act : GoodIn wsX4_shift wsX4_act := goodIn_r _ [13, 14, 15, 1, 2, 39, 40, 41, 42, 43, 44, 45, 46] (by decide +kernel) (by decide +kernel)
set_option maxRecDepth 20000 in
theorem gX4_shift_X4_act : GoodIn wsX4_shift (wsV RX4 59 RX4 yX4_act wsX4_act) := goodIn_app (goodIn_of _ (by decide +kernel)) ggX4_shift_X4_act
set_option maxRecDepth 20000 in
theorem ggX4_shift_X4_bit : GoodIn wsX4_shift wsX4_bit := goodIn_r _ [18] (by decide +kernel) (by decide +kernel)
set_option maxRecDepth 20000 in
theorem gX4_shift_X4_bit : GoodIn wsX4_shift (va_wsS RX4 29 yX4_bit wsX4_bit) := goodIn_app (goodIn_of _ (by decide +kernel)) ggX4_shift_X4_bit
set_option maxRecDepth 20000 in
theorem ggX4_shift_X4_puts : GoodIn wsX4_shift wsX4_puts := goodIn_r _ [22, 1, 39, 40, 41, 42, 43, 44, 45, 46] (by decide +kernel) (by decide +kernel)
set_option maxRecDepth 20000 in
theorem gX4_shift_X4_puts : GoodIn wsX4_shift (wsV RX4 62 RX4 yX4_puts wsX4_puts) := goodIn_app (goodIn_of _ (by decide +kernel)) ggX4_shift_X4_puts
set_option maxRecDepth 20000 in
theorem ggX4_shift_X4_converts : GoodIn wsX4_shift wsX4_converts := goodIn_r _ [26, 2, 1, 27, 28, 5, 29, 30, 31, 32, 16, 17, 18, 33, 34, 35, 36, 37, 38, 39, 40, 41, 42, 43, 44, 45, 46] (by decide +kernel) (by decide +kernel)
set_option maxRecDepth 20000 in
theorem gX4_shift_X4_converts : GoodIn wsX4_shift (wsV RX4 66 RX4 yX4_converts wsX4_converts) := goodIn_app (goodIn_of _ (by decide +kernel)) ggX4_shift_X4_converts
theorem dX4_shift_0 : decode cX4_shift 0 = .ok (.iload_n 1, 1) := by decide +kernel
theorem dX4_shift_1 : decode cX4_shift 1 = .ok (.invokestatic 55, 3) := by decide +kernel
theorem dX4_shift_4 : decode cX4_shift 4 = .ok (.ifCond .eq 16, 3) := by decide +kernel
theorem dX4_shift_7 : decode cX4_shift 7 = .ok (.iload_n 2, 1) := by decide +kernel
theorem dX4_shift_8 : decode cX4_shift 8 = .ok (.sipush (-4095), 3) := by decide +kernel
theorem dX4_shift_11 : decode cX4_shift 11 = .ok (.sipush 4095, 3) := by decide +kernel
theorem dX4_shift_14 : decode cX4_shift 14 = .ok (.invokestatic 25, 3) := by decide +kernel
theorem dX4_shift_17 : decode cX4_shift 17 = .ok (.ifCond .ne 5, 3) := by decide +kernel
theorem dX4_shift_20 : decode cX4_shift 20 = .ok (.iconst (-1), 1) := by decide +kernel
theorem dX4_shift_21 : decode cX4_shift 21 = .ok (.ireturn, 1) := by decide +kernel
theorem dX4_shift_22 : decode cX4_shift 22 = .ok (.aload_n 0, 1) := by decide +kernel
theorem dX4_shift_23 : decode cX4_shift 23 = .ok (.invokevirtual 59, 3) := by decide +kernel
theorem dX4_shift_26 : decode cX4_shift 26 = .ok (.iconst 0, 1) := by decide +kernel
theorem dX4_shift_27 : decode cX4_shift 27 = .ok (.istore_n 3, 1) := by decide +kernel
theorem dX4_shift_28 : decode cX4_shift 28 = .ok (.iconst 0, 1) := by decide +kernel
theorem dX4_shift_29 : decode cX4_shift 29 = .ok (.istore 4, 2) := by decide +kernel
theorem dX4_shift_31 : decode cX4_shift 31 = .ok (.iload 4, 2) := by decide +kernel
theorem dX4_shift_33 : decode cX4_shift 33 = .ok (.sipush 128, 3) := by decide +kernel
theorem dX4_shift_36 : decode cX4_shift 36 = .ok (.if_icmp .ge 23, 3) := by decide +kernel
theorem dX4_shift_39 : decode cX4_shift 39 = .ok (.aload_n 0, 1) := by decide +kernel
theorem dX4_shift_40 : decode cX4_shift 40 = .ok (.getfield 7, 3) := by decide +kernel
theorem dX4_shift_43 : decode cX4_shift 43 = .ok (.sipush 128, 3) := by decide +kernel
theorem dX4_shift_46 : decode cX4_shift 46 = .ok (.iload_n 1, 1) := by decide +kernel
theorem dX4_shift_47 : decode cX4_shift 47 = .ok (.imul, 1) := by decide +kernel
theorem dX4_shift_48 : decode cX4_shift 48 = .ok (.iload 4, 2) := by decide +kernel
theorem dX4_shift_50 : decode cX4_shift 50 = .ok (.iadd, 1) := by decide +kernel
theorem dX4_shift_51 : decode cX4_shift 51 = .ok (.iconst 0, 1) := by decide +kernel
theorem dX4_shift_52 : decode cX4_shift 52 = .ok (.iastore, 1) := by decide +kernel
theorem dX4_shift_53 : decode cX4_shift 53 = .ok (.iinc 4 1, 3) := by decide +kernel
theorem dX4_shift_56 : decode cX4_shift 56 = .ok (.goto (-25), 3) := by decide +kernel
theorem dX4_shift_59 : decode cX4_shift 59 = .ok (.iconst 0, 1) := by decide +kernel
theorem dX4_shift_60 : decode cX4_shift 60 = .ok (.istore 4, 2) := by decide +kernel
theorem dX4_shift_62 : decode cX4_shift 62 = .ok (.iload 4, 2) := by decide +kernel
theorem dX4_shift_64 : decode cX4_shift 64 = .ok (.sipush 4096, 3) := by decide +kernel
theorem dX4_shift_67 : decode cX4_shift 67 = .ok (.if_icmp .ge 52, 3) := by decide +kernel
theorem dX4_shift_70 : decode cX4_shift 70 = .ok (.aload_n 0, 1) := by decide +kernel
theorem dX4_shift_71 : decode cX4_shift 71 = .ok (.getfield 13, 3) := by decide +kernel
theorem dX4_shift_74 : decode cX4_shift 74 = .ok (.iload_n 1, 1) := by decide +kernel
theorem dX4_shift_75 : decode cX4_shift 75 = .ok (.iload 4, 2) := by decide +kernel
theorem dX4_shift_77 : decode cX4_shift 77 = .ok (.invokestatic 29, 3) := by decide +kernel
theorem dX4_shift_80 : decode cX4_shift 80 = .ok (.ifCond .eq 33, 3) := by decide +kernel
theorem dX4_shift_83 : decode cX4_shift 83 = .ok (.iload 4, 2) := by decide +kernel
theorem dX4_shift_85 : decode cX4_shift 85 = .ok (.iload_n 2, 1) := by decide +kernel
theorem dX4_shift_86 : decode cX4_shift 86 = .ok (.iadd, 1) := by decide +kernel
theorem dX4_shift_87 : decode cX4_shift 87 = .ok (.iconst 0, 1) := by decide +kernel
theorem dX4_shift_88 : decode cX4_shift 88 = .ok (.sipush 4095, 3) := by decide +kernel
theorem dX4_shift_91 : decode cX4_shift 91 = .ok (.invokestatic 25, 3) := by decide +kernel
theorem dX4_shift_94 : decode cX4_shift 94 = .ok (.ifCond .eq 16, 3) := by decide +kernel
theorem dX4_shift_97 : decode cX4_shift 97 = .ok (.aload_n 0, 1) := by decide +kernel
theorem dX4_shift_98 : decode cX4_shift 98 = .ok (.iload_n 1, 1) := by decide +kernel
theorem dX4_shift_99 : decode cX4_shift 99 = .ok (.iload 4, 2) := by decide +kernel
theorem dX4_shift_101 : decode cX4_shift 101 = .ok (.iload_n 2, 1) := by decide +kernel
theorem dX4_shift_102 : decode cX4_shift 102 = .ok (.iadd, 1) := by decide +kernel
theorem dX4_shift_103 : decode cX4_shift 103 = .ok (.iconst 1, 1) := by decide +kernel
theorem dX4_shift_104 : decode cX4_shift 104 = .ok (.invokevirtual 62, 3) := by decide +kernel
theorem dX4_shift_107 : decode cX4_shift 107 = .ok (.goto 6, 3) := by decide +kernel
theorem dX4_shift_110 : decode cX4_shift 110 = .ok (.iinc 3 1, 3) := by decide +kernel
theorem dX4_shift_113 : decode cX4_shift 113 = .ok (.iinc 4 1, 3) := by decide +kernel
theorem dX4_shift_116 : decode cX4_shift 116 = .ok (.goto (-54), 3) := by decide +kernel
theorem dX4_shift_119 : decode cX4_shift 119 = .ok (.aload_n 0, 1) := by decide +kernel
theorem dX4_shift_120 : decode cX4_shift 120 = .ok (.iload_n 1, 1) := by decide +kernel
theorem dX4_shift_121 : decode cX4_shift 121 = .ok (.invokevirtual 66, 3) := by decide +kernel
theorem dX4_shift_124 : decode cX4_shift 124 = .ok (.iload_n 3, 1) := by decide +kernel
theorem dX4_shift_125 : decode cX4_shift 125 = .ok (.ireturn, 1) := by decide +kernel
set_option maxRecDepth 20000 in
theorem ggX4_size_X4_isSet : GoodIn wsX4_size wsX4_isSet := goodIn_r _ [4, 5, 6, 3, 7] (by decide +kernel) (by decide +kernel)
set_option maxRecDepth 20000 in
theorem gX4_size_X4_isSet : GoodIn wsX4_size (va_wsS RX4 55 yX4_isSet wsX4_isSet) := goodIn_app (goodIn_of _ (by decide +kernel)) ggX4_size_X4_isSet
set_option maxRecDepth 20000 in
theorem ggX4_size_X4_sizeOf : GoodIn wsX4_size wsX4_sizeOf := goodIn_r _ [11, 12, 13, 14, 3, 15, 16, 17, 18, 19, 20, 21, 22, 23, 24, 25, 26, 27] (by decide +kernel) (by decide +kernel)
set_option maxRecDepth 20000 in
theorem gX4_size_X4_sizeOf : GoodIn wsX4_size (wsV RX4 78 RX4 yX4_sizeOf wsX4_sizeOf) := goodIn_app (goodIn_of _ (by decide +kernel)) ggX4_size_X4_sizeOf
theorem dX4_size_0 : decode cX4_size 0 = .ok (.iload_n 1, 1) := by decide +kernel
theorem dX4_size_1 : decode cX4_size 1 = .ok (.invokestatic 55, 3) := by decide +kernel
theorem dX4_size_4 : decode cX4_size 4 = .ok (.ifCond .eq 11, 3) := by decide +kernel
theorem dX4_size_7 : decode cX4_size 7 = .ok (.aload_n 0, 1) := by decide +kernel
theorem dX4_size_8 : decode cX4_size 8 = .ok (.iload_n 1, 1) := by decide +kernel
theorem dX4_size_9 : decode cX4_size 9 = .ok (.invokevirtual 78, 3) := by decide +kernel
theorem dX4_size_12 : decode cX4_size 12 = .ok (.goto 4, 3) := by decide +kernel
theorem dX4_size_15 : decode cX4_size 15 = .ok (.iconst (-1), 1) := by decide +kernel
theorem dX4_size_16 : decode cX4_size 16 = .ok (.ireturn, 1) := by decide +kernel
set_option maxRecDepth 20000 in
theorem ggX4_contains_X4_isSet : GoodIn wsX4_contains wsX4_isSet := goodIn_r _ [4, 5, 6, 3, 7] (by decide +kernel) (by decide +kernel)
set_option maxRecDepth 20000 in
theorem gX4_contains_X4_isSet : GoodIn wsX4_contains (va_wsS RX4 55 yX4_isSet wsX4_isSet) := goodIn_app (goodIn_of _ (by decide +kernel)) ggX4_contains_X4_isSet
set_option maxRecDepth 20000 in
theorem ggX4_contains_X4_in : GoodIn wsX4_contains wsX4_in := goodIn_r _ [7] (by decide +kernel) (by decide +kernel)
set_option maxRecDepth 20000 in
theorem gX4_contains_X4_in : GoodIn wsX4_contains (va_wsS RX4 25 yX4_in wsX4_in) := goodIn_app (goodIn_of _ (by decide +kernel)) ggX4_contains_X4_in
set_option maxRecDepth 20000 in
theorem ggX4_contains_X4_has : GoodIn wsX4_contains wsX4_has := goodIn_r _ [11, 12, 13, 14, 3, 15, 16, 17, 18, 19, 20, 21, 22, 23] (by decide +kernel) (by decide +kernel)
set_option maxRecDepth 20000 in
theorem gX4_contains_X4_has : GoodIn wsX4_contains (wsV RX4 51 RX4 yX4_has wsX4_has) := goodIn_app (goodIn_of _ (by decide +kernel)) ggX4_contains_X4_has
theorem dX4_contains_0 : decode cX4_contains 0 = .ok (.iload_n 1, 1) := by decide +kernel
theorem dX4_contains_1 : decode cX4_contains 1 = .ok (.invokestatic 55, 3) := by decide +kernel
theorem dX4_contains_4 : decode cX4_contains 4 = .ok (.ifCond .ne 7, 3) := by decide +kernel
theorem dX4_contains_7 : decode cX4_contains 7 = .ok (.iconst (-1), 1) := by decide +kernel
theorem dX4_contains_8 : decode cX4_contains 8 = .ok (.goto 28, 3) := by decide +kernel
theorem dX4_contains_11 : decode cX4_contains 11 = .ok (.iload_n 2, 1) := by decide +kernel
theorem dX4_contains_12 : decode cX4_contains 12 = .ok (.iconst 0, 1) := by decide +kernel
theorem dX4_contains_13 : decode cX4_contains 13 = .ok (.sipush 4095, 3) := by decide +kernel
theorem dX4_contains_16 : decode cX4_contains 16 = .ok (.invokestatic 25, 3) := by decide +kernel
theorem dX4_contains_19 : decode cX4_contains 19 = .ok (.ifCond .eq 16, 3) := by decide +kernel
theorem dX4_contains_22 : decode cX4_contains 22 = .ok (.aload_n 0, 1) := by decide +kernel
theorem dX4_contains_23 : decode cX4_contains 23 = .ok (.iload_n 1, 1) := by decide +kernel
theorem dX4_contains_24 : decode cX4_contains 24 = .ok (.iload_n 2, 1) := by decide +kernel
theorem dX4_contains_25 : decode cX4_contains 25 = .ok (.invokevirtual 51, 3) := by decide +kernel
theorem dX4_contains_28 : decode cX4_contains 28 = .ok (.ifCond .eq 7, 3) := by decide +kernel
theorem dX4_contains_31 : decode cX4_contains 31 = .ok (.iconst 1, 1) := by decide +kernel
theorem dX4_contains_32 : decode cX4_contains 32 = .ok (.goto 4, 3) := by decide +kernel
theorem dX4_contains_35 : decode cX4_contains 35 = .ok (.iconst 0, 1) := by decide +kernel
theorem dX4_contains_36 : decode cX4_contains 36 = .ok (.ireturn, 1) := by decide +kernel
set_option maxRecDepth 20000 in
theorem ggX4_rank_X4_isSet : GoodIn wsX4_rank wsX4_isSet := goodIn_r _ [4, 5, 6, 3, 7] (by decide +kernel) (by decide +kernel)
set_option maxRecDepth 20000 in
theorem gX4_rank_X4_isSet : GoodIn wsX4_rank (va_wsS RX4 55 yX4_isSet wsX4_isSet) := goodIn_app (goodIn_of _ (by decide +kernel)) ggX4_rank_X4_isSet
set_option maxRecDepth 20000 in
theorem ggX4_rank_X4_has : GoodIn wsX4_rank wsX4_has := goodIn_r _ [11, 12, 13, 14, 3, 15, 16, 17, 18, 19, 20, 21, 22, 23] (by decide +kernel) (by decide +kernel)
set_option maxRecDepth 20000 in
theorem gX4_rank_X4_has : GoodIn wsX4_rank (wsV RX4 51 RX4 yX4_has wsX4_has) := goodIn_app (goodIn_of _ (by decide +kernel)) ggX4_rank_X4_has
theorem dX4_rank_0 : decode cX4_rank 0 = .ok (.iload_n 1, 1) := by decide +kernel
theorem dX4_rank_1 : decode cX4_rank 1 = .ok (.invokestatic 55, 3) := by decide +kernel
theorem dX4_rank_4 : decode cX4_rank 4 = .ok (.ifCond .ne 5, 3) := by decide +kernel
theorem dX4_rank_7 : decode cX4_rank 7 = .ok (.iconst (-1), 1) := by decide +kernel
theorem dX4_rank_8 : decode cX4_rank 8 = .ok (.ireturn, 1) := by decide +kernel
theorem dX4_rank_9 : decode cX4_rank 9 = .ok (.iconst 0, 1) := by decide +kernel
theorem dX4_rank_10 : decode cX4_rank 10 = .ok (.istore_n 3, 1) := by decide +kernel
theorem dX4_rank_11 : decode cX4_rank 11 = .ok (.iconst 0, 1) := by decide +kernel
theorem dX4_rank_12 : decode cX4_rank 12 = .ok (.istore 4, 2) := by decide +kernel
theorem dX4_rank_14 : decode cX4_rank 14 = .ok (.iload 4, 2) := by decide +kernel
theorem dX4_rank_16 : decode cX4_rank 16 = .ok (.sipush 4096, 3) := by decide +kernel
theorem dX4_rank_19 : decode cX4_rank 19 = .ok (.if_icmp .ge 33, 3) := by decide +kernel
theorem dX4_rank_22 : decode cX4_rank 22 = .ok (.iload 4, 2) := by decide +kernel
theorem dX4_rank_24 : decode cX4_rank 24 = .ok (.iload_n 2, 1) := by decide +kernel
theorem dX4_rank_25 : decode cX4_rank 25 = .ok (.if_icmp .gt 27, 3) := by decide +kernel
theorem dX4_rank_28 : decode cX4_rank 28 = .ok (.iload_n 3, 1) := by decide +kernel
theorem dX4_rank_29 : decode cX4_rank 29 = .ok (.aload_n 0, 1) := by decide +kernel
theorem dX4_rank_30 : decode cX4_rank 30 = .ok (.iload_n 1, 1) := by decide +kernel
theorem dX4_rank_31 : decode cX4_rank 31 = .ok (.iload 4, 2) := by decide +kernel
theorem dX4_rank_33 : decode cX4_rank 33 = .ok (.invokevirtual 51, 3) := by decide +kernel
theorem dX4_rank_36 : decode cX4_rank 36 = .ok (.ifCond .eq 7, 3) := by decide +kernel
theorem dX4_rank_39 : decode cX4_rank 39 = .ok (.iconst 1, 1) := by decide +kernel
theorem dX4_rank_40 : decode cX4_rank 40 = .ok (.goto 4, 3) := by decide +kernel
theorem dX4_rank_43 : decode cX4_rank 43 = .ok (.iconst 0, 1) := by decide +kernel
theorem dX4_rank_44 : decode cX4_rank 44 = .ok (.iadd, 1) := by decide +kernel
theorem dX4_rank_45 : decode cX4_rank 45 = .ok (.istore_n 3, 1) := by decide +kernel
theorem dX4_rank_46 : decode cX4_rank 46 = .ok (.iinc 4 1, 3) := by decide +kernel
theorem dX4_rank_49 : decode cX4_rank 49 = .ok (.goto (-35), 3) := by decide +kernel
theorem dX4_rank_52 : decode cX4_rank 52 = .ok (.iload_n 3, 1) := by decide +kernel
theorem dX4_rank_53 : decode cX4_rank 53 = .ok (.ireturn, 1) := by decide +kernel
set_option maxRecDepth 20000 in
theorem ggX4_select_X4_isSet : GoodIn wsX4_select wsX4_isSet := goodIn_r _ [4, 5, 6, 3, 7] (by decide +kernel) (by decide +kernel)
set_option maxRecDepth 20000 in
theorem gX4_select_X4_isSet : GoodIn wsX4_select (va_wsS RX4 55 yX4_isSet wsX4_isSet) := goodIn_app (goodIn_of _ (by decide +kernel)) ggX4_select_X4_isSet
set_option maxRecDepth 20000 in
theorem ggX4_select_X4_has : GoodIn wsX4_select wsX4_has := goodIn_r _ [11, 12, 13, 14, 3, 15, 16, 17, 18, 19, 20, 21, 22, 23] (by decide +kernel) (by decide +kernel)
set_option maxRecDepth 20000 in
theorem gX4_select_X4_has : GoodIn wsX4_select (wsV RX4 51 RX4 yX4_has wsX4_has) := goodIn_app (goodIn_of _ (by decide +kernel)) ggX4_select_X4_has
theorem dX4_select_0 : decode cX4_select 0 = .ok (.iload_n 1, 1) := by decide +kernel
theorem dX4_select_1 : decode cX4_select 1 = .ok (.invokestatic 55, 3) := by decide +kernel
theorem dX4_select_4 : decode cX4_select 4 = .ok (.ifCond .eq 7, 3) := by decide +kernel
theorem dX4_select_7 : decode cX4_select 7 = .ok (.iload_n 2, 1) := by decide +kernel
theorem dX4_select_8 : decode cX4_select 8 = .ok (.ifCond .ge 5, 3) := by decide +kernel
theorem dX4_select_11 : decode cX4_select 11 = .ok (.iconst (-1), 1) := by decide +kernel
theorem dX4_select_12 : decode cX4_select 12 = .ok (.ireturn, 1) := by decide +kernel
theorem dX4_select_13 : decode cX4_select 13 = .ok (.iload_n 2, 1) := by decide +kernel
theorem dX4_select_14 : decode cX4_select 14 = .ok (.istore_n 3, 1) := by decide +kernel
theorem dX4_select_15 : decode cX4_select 15 = .ok (.iconst 0, 1) := by decide +kernel
theorem dX4_select_16 : decode cX4_select 16 = .ok (.istore 4, 2) := by decide +kernel
theorem dX4_select_18 : decode cX4_select 18 = .ok (.iload 4, 2) := by decide +kernel
theorem dX4_select_20 : decode cX4_select 20 = .ok (.sipush 4096, 3) := by decide +kernel
theorem dX4_select_23 : decode cX4_select 23 = .ok (.if_icmp .ge 29, 3) := by decide +kernel
theorem dX4_select_26 : decode cX4_select 26 = .ok (.aload_n 0, 1) := by decide +kernel
theorem dX4_select_27 : decode cX4_select 27 = .ok (.iload_n 1, 1) := by decide +kernel
theorem dX4_select_28 : decode cX4_select 28 = .ok (.iload 4, 2) := by decide +kernel
theorem dX4_select_30 : decode cX4_select 30 = .ok (.invokevirtual 51, 3) := by decide +kernel
theorem dX4_select_33 : decode cX4_select 33 = .ok (.ifCond .eq 13, 3) := by decide +kernel
theorem dX4_select_36 : decode cX4_select 36 = .ok (.iload_n 3, 1) := by decide +kernel
theorem dX4_select_37 : decode cX4_select 37 = .ok (.ifCond .ne 6, 3) := by decide +kernel
theorem dX4_select_40 : decode cX4_select 40 = .ok (.iload 4, 2) := by decide +kernel
theorem dX4_select_42 : decode cX4_select 42 = .ok (.ireturn, 1) := by decide +kernel
theorem dX4_select_43 : decode cX4_select 43 = .ok (.iinc 3 (-1), 3) := by decide +kernel
theorem dX4_select_46 : decode cX4_select 46 = .ok (.iinc 4 1, 3) := by decide +kernel
theorem dX4_select_49 : decode cX4_select 49 = .ok (.goto (-31), 3) := by decide +kernel
theorem dX4_select_52 : decode cX4_select 52 = .ok (.bipush (-9), 2) := by decide +kernel
theorem dX4_select_54 : decode cX4_select 54 = .ok (.ireturn, 1) := by decide +kernel
set_option maxRecDepth 20000 in
theorem ggX4_near_X4_isSet : GoodIn wsX4_near wsX4_isSet := goodIn_r _ [4, 5, 6, 3, 7] (by decide +kernel) (by decide +kernel)
set_option maxRecDepth 20000 in
theorem gX4_near_X4_isSet : GoodIn wsX4_near (va_wsS RX4 55 yX4_isSet wsX4_isSet) := goodIn_app (goodIn_of _ (by decide +kernel)) ggX4_near_X4_isSet
set_option maxRecDepth 20000 in
theorem ggX4_near_X4_has : GoodIn wsX4_near wsX4_has := goodIn_r _ [11, 12, 13, 14, 3, 15, 16, 17, 18, 19, 20, 21, 22, 23] (by decide +kernel) (by decide +kernel)
set_option maxRecDepth 20000 in
theorem gX4_near_X4_has : GoodIn wsX4_near (wsV RX4 51 RX4 yX4_has wsX4_has) := goodIn_app (goodIn_of _ (by decide +kernel)) ggX4_near_X4_has
theorem dX4_near_0 : decode cX4_near 0 = .ok (.iload_n 1, 1) := by decide +kernel
theorem dX4_near_1 : decode cX4_near 1 = .ok (.invokestatic 55, 3) := by decide +kernel
theorem dX4_near_4 : decode cX4_near 4 = .ok (.ifCond .ne 5, 3) := by decide +kernel
theorem dX4_near_7 : decode cX4_near 7 = .ok (.iconst (-1), 1) := by decide +kernel
theorem dX4_near_8 : decode cX4_near 8 = .ok (.ireturn, 1) := by decide +kernel
theorem dX4_near_9 : decode cX4_near 9 = .ok (.bipush (-9), 2) := by decide +kernel
theorem dX4_near_11 : decode cX4_near 11 = .ok (.istore 4, 2) := by decide +kernel
theorem dX4_near_13 : decode cX4_near 13 = .ok (.iconst 0, 1) := by decide +kernel
theorem dX4_near_14 : decode cX4_near 14 = .ok (.istore 5, 2) := by decide +kernel
theorem dX4_near_16 : decode cX4_near 16 = .ok (.iload 5, 2) := by decide +kernel
theorem dX4_near_18 : decode cX4_near 18 = .ok (.sipush 4096, 3) := by decide +kernel
theorem dX4_near_21 : decode cX4_near 21 = .ok (.if_icmp .ge 59, 3) := by decide +kernel
theorem dX4_near_24 : decode cX4_near 24 = .ok (.aload_n 0, 1) := by decide +kernel
theorem dX4_near_25 : decode cX4_near 25 = .ok (.iload_n 1, 1) := by decide +kernel
theorem dX4_near_26 : decode cX4_near 26 = .ok (.iload 5, 2) := by decide +kernel
theorem dX4_near_28 : decode cX4_near 28 = .ok (.invokevirtual 51, 3) := by decide +kernel
theorem dX4_near_31 : decode cX4_near 31 = .ok (.ifCond .eq 43, 3) := by decide +kernel
theorem dX4_near_34 : decode cX4_near 34 = .ok (.iload_n 3, 1) := by decide +kernel
theorem dX4_near_35 : decode cX4_near 35 = .ok (.ifCond .eq 24, 3) := by decide +kernel
theorem dX4_near_38 : decode cX4_near 38 = .ok (.iload 5, 2) := by decide +kernel
theorem dX4_near_40 : decode cX4_near 40 = .ok (.iload_n 2, 1) := by decide +kernel
theorem dX4_near_41 : decode cX4_near 41 = .ok (.if_icmp .lt 13, 3) := by decide +kernel
theorem dX4_near_44 : decode cX4_near 44 = .ok (.iload 4, 2) := by decide +kernel
theorem dX4_near_46 : decode cX4_near 46 = .ok (.ifCond .ge 8, 3) := by decide +kernel
theorem dX4_near_49 : decode cX4_near 49 = .ok (.iload 5, 2) := by decide +kernel
theorem dX4_near_51 : decode cX4_near 51 = .ok (.goto 21, 3) := by decide +kernel
theorem dX4_near_54 : decode cX4_near 54 = .ok (.iload 4, 2) := by decide +kernel
theorem dX4_near_56 : decode cX4_near 56 = .ok (.goto 16, 3) := by decide +kernel
theorem dX4_near_59 : decode cX4_near 59 = .ok (.iload 5, 2) := by decide +kernel
theorem dX4_near_61 : decode cX4_near 61 = .ok (.iload_n 2, 1) := by decide +kernel
theorem dX4_near_62 : decode cX4_near 62 = .ok (.if_icmp .gt 8, 3) := by decide +kernel
theorem dX4_near_65 : decode cX4_near 65 = .ok (.iload 5, 2) := by decide +kernel
theorem dX4_near_67 : decode cX4_near 67 = .ok (.goto 5, 3) := by decide +kernel
theorem dX4_near_70 : decode cX4_near 70 = .ok (.iload 4, 2) := by decide +kernel
theorem dX4_near_72 : decode cX4_near 72 = .ok (.istore 4, 2) := by decide +kernel
theorem dX4_near_74 : decode cX4_near 74 = .ok (.iinc 5 1, 3) := by decide +kernel
theorem dX4_near_77 : decode cX4_near 77 = .ok (.goto (-61), 3) := by decide +kernel
theorem dX4_near_80 : decode cX4_near 80 = .ok (.iload 4, 2) := by decide +kernel
theorem dX4_near_82 : decode cX4_near 82 = .ok (.ireturn, 1) := by decide +kernel
set_option maxRecDepth 20000 in
theorem ggX4_begins_X4_has : GoodIn wsX4_begins wsX4_has := goodIn_r _ [5, 6, 7, 8, 4, 9, 10, 11, 12, 13, 14, 15, 16, 17] (by decide +kernel) (by decide +kernel)
set_option maxRecDepth 20000 in
theorem gX4_begins_X4_has : GoodIn wsX4_begins (wsV RX4 51 RX4 yX4_has wsX4_has) := goodIn_app (goodIn_of _ (by decide +kernel)) ggX4_begins_X4_has
theorem dX4_begins_0 : decode cX4_begins 0 = .ok (.aload_n 0, 1) := by decide +kernel
theorem dX4_begins_1 : decode cX4_begins 1 = .ok (.iload_n 1, 1) := by decide +kernel
theorem dX4_begins_2 : decode cX4_begins 2 = .ok (.iload_n 2, 1) := by decide +kernel
theorem dX4_begins_3 : decode cX4_begins 3 = .ok (.invokevirtual 51, 3) := by decide +kernel
theorem dX4_begins_6 : decode cX4_begins 6 = .ok (.ifCond .eq 22, 3) := by decide +kernel
theorem dX4_begins_9 : decode cX4_begins 9 = .ok (.iload_n 2, 1) := by decide +kernel
theorem dX4_begins_10 : decode cX4_begins 10 = .ok (.ifCond .eq 14, 3) := by decide +kernel
theorem dX4_begins_13 : decode cX4_begins 13 = .ok (.aload_n 0, 1) := by decide +kernel
theorem dX4_begins_14 : decode cX4_begins 14 = .ok (.iload_n 1, 1) := by decide +kernel
theorem dX4_begins_15 : decode cX4_begins 15 = .ok (.iload_n 2, 1) := by decide +kernel
theorem dX4_begins_16 : decode cX4_begins 16 = .ok (.iconst 1, 1) := by decide +kernel
theorem dX4_begins_17 : decode cX4_begins 17 = .ok (.isub, 1) := by decide +kernel
theorem dX4_begins_18 : decode cX4_begins 18 = .ok (.invokevirtual 51, 3) := by decide +kernel
theorem dX4_begins_21 : decode cX4_begins 21 = .ok (.ifCond .ne 7, 3) := by decide +kernel
theorem dX4_begins_24 : decode cX4_begins 24 = .ok (.iconst 1, 1) := by decide +kernel
theorem dX4_begins_25 : decode cX4_begins 25 = .ok (.goto 4, 3) := by decide +kernel
theorem dX4_begins_28 : decode cX4_begins 28 = .ok (.iconst 0, 1) := by decide +kernel
theorem dX4_begins_29 : decode cX4_begins 29 = .ok (.ireturn, 1) := by decide +kernel
set_option maxRecDepth 20000 in
theorem ggX4_runs_X4_isSet : GoodIn wsX4_runs wsX4_isSet := goodIn_r _ [4, 5, 6, 3, 7] (by decide +kernel) (by decide +kernel)
set_option maxRecDepth 20000 in
theorem gX4_runs_X4_isSet : GoodIn wsX4_runs (va_wsS RX4 55 yX4_isSet wsX4_isSet) := goodIn_app (goodIn_of _ (by decide +kernel)) ggX4_runs_X4_isSet
set_option maxRecDepth 20000 in
theorem ggX4_runs_X4_begins : GoodIn wsX4_runs wsX4_begins := goodIn_r _ [11, 12, 13, 14, 3, 15, 16, 17, 18, 19, 20, 21, 22, 23, 24, 25, 26, 27] (by decide +kernel) (by decide +kernel)
set_option maxRecDepth 20000 in
theorem gX4_runs_X4_begins : GoodIn wsX4_runs (wsV RX4 82 RX4 yX4_begins wsX4_begins) := goodIn_app (goodIn_of _ (by decide +kernel)) ggX4_runs_X4_begins
theorem dX4_runs_0 : decode cX4_runs 0 = .ok (.iload_n 1, 1) := by decide +kernel
theorem dX4_runs_1 : decode cX4_runs 1 = .ok (.invokestatic 55, 3) := by decide +kernel
theorem dX4_runs_4 : decode cX4_runs 4 = .ok (.ifCond .ne 5, 3) := by decide +kernel
theorem dX4_runs_7 : decode cX4_runs 7 = .ok (.iconst (-1), 1) := by decide +kernel
theorem dX4_runs_8 : decode cX4_runs 8 = .ok (.ireturn, 1) := by decide +kernel
theorem dX4_runs_9 : decode cX4_runs 9 = .ok (.iconst 0, 1) := by decide +kernel
theorem dX4_runs_10 : decode cX4_runs 10 = .ok (.istore_n 2, 1) := by decide +kernel
theorem dX4_runs_11 : decode cX4_runs 11 = .ok (.iconst 0, 1) := by decide +kernel
theorem dX4_runs_12 : decode cX4_runs 12 = .ok (.istore_n 3, 1) := by decide +kernel
theorem dX4_runs_13 : decode cX4_runs 13 = .ok (.iload_n 3, 1) := by decide +kernel
theorem dX4_runs_14 : decode cX4_runs 14 = .ok (.sipush 4096, 3) := by decide +kernel
theorem dX4_runs_17 : decode cX4_runs 17 = .ok (.if_icmp .ge 26, 3) := by decide +kernel
theorem dX4_runs_20 : decode cX4_runs 20 = .ok (.iload_n 2, 1) := by decide +kernel
theorem dX4_runs_21 : decode cX4_runs 21 = .ok (.aload_n 0, 1) := by decide +kernel
theorem dX4_runs_22 : decode cX4_runs 22 = .ok (.iload_n 1, 1) := by decide +kernel
theorem dX4_runs_23 : decode cX4_runs 23 = .ok (.iload_n 3, 1) := by decide +kernel
theorem dX4_runs_24 : decode cX4_runs 24 = .ok (.invokevirtual 82, 3) := by decide +kernel
theorem dX4_runs_27 : decode cX4_runs 27 = .ok (.ifCond .eq 7, 3) := by decide +kernel
theorem dX4_runs_30 : decode cX4_runs 30 = .ok (.iconst 1, 1) := by decide +kernel
theorem dX4_runs_31 : decode cX4_runs 31 = .ok (.goto 4, 3) := by decide +kernel
theorem dX4_runs_34 : decode cX4_runs 34 = .ok (.iconst 0, 1) := by decide +kernel
theorem dX4_runs_35 : decode cX4_runs 35 = .ok (.iadd, 1) := by decide +kernel
theorem dX4_runs_36 : decode cX4_runs 36 = .ok (.istore_n 2, 1) := by decide +kernel
theorem dX4_runs_37 : decode cX4_runs 37 = .ok (.iinc 3 1, 3) := by decide +kernel
theorem dX4_runs_40 : decode cX4_runs 40 = .ok (.goto (-27), 3) := by decide +kernel
theorem dX4_runs_43 : decode cX4_runs 43 = .ok (.iload_n 2, 1) := by decide +kernel
theorem dX4_runs_44 : decode cX4_runs 44 = .ok (.ireturn, 1) := by decide +kernel
set_option maxRecDepth 20000 in
theorem ggX4_run_X4_isSet : GoodIn wsX4_run wsX4_isSet := goodIn_r _ [4, 5, 6, 3, 7] (by decide +kernel) (by decide +kernel)
set_option maxRecDepth 20000 in
theorem gX4_run_X4_isSet : GoodIn wsX4_run (va_wsS RX4 55 yX4_isSet wsX4_isSet) := goodIn_app (goodIn_of _ (by decide +kernel)) ggX4_run_X4_isSet
set_option maxRecDepth 20000 in
theorem ggX4_run_X4_begins : GoodIn wsX4_run wsX4_begins := goodIn_r _ [11, 12, 13, 14, 3, 15, 16, 17, 18, 19, 20, 21, 22, 23, 24, 25, 26, 27] (by decide +kernel) (by decide +kernel)
set_option maxRecDepth 20000 in
theorem gX4_run_X4_begins : GoodIn wsX4_run (wsV RX4 82 RX4 yX4_begins wsX4_begins) := goodIn_app (goodIn_of _ (by decide +kernel)) ggX4_run_X4_begins
set_option maxRecDepth 20000 in
theorem ggX4_run_X4_has : GoodIn wsX4_run wsX4_has := goodIn_r _ [15, 16, 17, 18, 3, 19, 20, 21, 22, 23, 24, 25, 26, 27] (by decide +kernel) (by decide +kernel)
set_option maxRecDepth 20000 in
theorem gX4_run_X4_has : GoodIn wsX4_run (wsV RX4 51 RX4 yX4_has wsX4_has) := goodIn_app (goodIn_of _ (by decide +kernel)) ggX4_run_X4_has
theorem dX4_run_0 : decode cX4_run 0 = .ok (.iload_n 1, 1) := by decide +kernel
theorem dX4_run_1 : decode cX4_run 1 = .ok (.invokestatic 55, 3) := by decide +kernel
theorem dX4_run_4 : decode cX4_run 4 = .ok (.ifCond .eq 7, 3) := by decide +kernel
theorem dX4_run_7 : decode cX4_run 7 = .ok (.iload_n 2, 1) := by decide +kernel
theorem dX4_run_8 : decode cX4_run 8 = .ok (.ifCond .ge 5, 3) := by decide +kernel
theorem dX4_run_11 : decode cX4_run 11 = .ok (.iconst (-1), 1) := by decide +kernel
theorem dX4_run_12 : decode cX4_run 12 = .ok (.ireturn, 1) := by decide +kernel
theorem dX4_run_13 : decode cX4_run 13 = .ok (.iload_n 2, 1) := by decide +kernel
theorem dX4_run_14 : decode cX4_run 14 = .ok (.istore_n 3, 1) := by decide +kernel
theorem dX4_run_15 : decode cX4_run 15 = .ok (.iconst 0, 1) := by decide +kernel
theorem dX4_run_16 : decode cX4_run 16 = .ok (.istore 4, 2) := by decide +kernel
theorem dX4_run_18 : decode cX4_run 18 = .ok (.iload 4, 2) := by decide +kernel
theorem dX4_run_20 : decode cX4_run 20 = .ok (.sipush 4096, 3) := by decide +kernel
theorem dX4_run_23 : decode cX4_run 23 = .ok (.if_icmp .ge 68, 3) := by decide +kernel
theorem dX4_run_26 : decode cX4_run 26 = .ok (.aload_n 0, 1) := by decide +kernel
theorem dX4_run_27 : decode cX4_run 27 = .ok (.iload_n 1, 1) := by decide +kernel
theorem dX4_run_28 : decode cX4_run 28 = .ok (.iload 4, 2) := by decide +kernel
theorem dX4_run_30 : decode cX4_run 30 = .ok (.invokevirtual 82, 3) := by decide +kernel
theorem dX4_run_33 : decode cX4_run 33 = .ok (.ifCond .eq 52, 3) := by decide +kernel
theorem dX4_run_36 : decode cX4_run 36 = .ok (.iload_n 3, 1) := by decide +kernel
theorem dX4_run_37 : decode cX4_run 37 = .ok (.ifCond .ne 45, 3) := by decide +kernel
theorem dX4_run_40 : decode cX4_run 40 = .ok (.iload 4, 2) := by decide +kernel
theorem dX4_run_42 : decode cX4_run 42 = .ok (.istore 5, 2) := by decide +kernel
theorem dX4_run_44 : decode cX4_run 44 = .ok (.iload 5, 2) := by decide +kernel
theorem dX4_run_46 : decode cX4_run 46 = .ok (.iconst 1, 1) := by decide +kernel
theorem dX4_run_47 : decode cX4_run 47 = .ok (.iadd, 1) := by decide +kernel
theorem dX4_run_48 : decode cX4_run 48 = .ok (.sipush 4096, 3) := by decide +kernel
theorem dX4_run_51 : decode cX4_run 51 = .ok (.if_icmp .ge 21, 3) := by decide +kernel
theorem dX4_run_54 : decode cX4_run 54 = .ok (.aload_n 0, 1) := by decide +kernel
theorem dX4_run_55 : decode cX4_run 55 = .ok (.iload_n 1, 1) := by decide +kernel
theorem dX4_run_56 : decode cX4_run 56 = .ok (.iload 5, 2) := by decide +kernel
theorem dX4_run_58 : decode cX4_run 58 = .ok (.iconst 1, 1) := by decide +kernel
theorem dX4_run_59 : decode cX4_run 59 = .ok (.iadd, 1) := by decide +kernel
theorem dX4_run_60 : decode cX4_run 60 = .ok (.invokevirtual 51, 3) := by decide +kernel
theorem dX4_run_63 : decode cX4_run 63 = .ok (.ifCond .eq 9, 3) := by decide +kernel
theorem dX4_run_66 : decode cX4_run 66 = .ok (.iinc 5 1, 3) := by decide +kernel
theorem dX4_run_69 : decode cX4_run 69 = .ok (.goto (-25), 3) := by decide +kernel
theorem dX4_run_72 : decode cX4_run 72 = .ok (.sipush 4096, 3) := by decide +kernel
theorem dX4_run_75 : decode cX4_run 75 = .ok (.iload 4, 2) := by decide +kernel
theorem dX4_run_77 : decode cX4_run 77 = .ok (.imul, 1) := by decide +kernel
theorem dX4_run_78 : decode cX4_run 78 = .ok (.iload 5, 2) := by decide +kernel
theorem dX4_run_80 : decode cX4_run 80 = .ok (.iadd, 1) := by decide +kernel
theorem dX4_run_81 : decode cX4_run 81 = .ok (.ireturn, 1) := by decide +kernel
theorem dX4_run_82 : decode cX4_run 82 = .ok (.iinc 3 (-1), 3) := by decide +kernel
theorem dX4_run_85 : decode cX4_run 85 = .ok (.iinc 4 1, 3) := by decide +kernel
theorem dX4_run_88 : decode cX4_run 88 = .ok (.goto (-70), 3) := by decide +kernel
theorem dX4_run_91 : decode cX4_run 91 = .ok (.bipush (-9), 2) := by decide +kernel
theorem dX4_run_93 : decode cX4_run 93 = .ok (.ireturn, 1) := by decide +kernel
set_option maxRecDepth 20000 in
theorem ggX4_told_X4_manyIn : GoodIn wsX4_told wsX4_manyIn := goodIn_r _ [5, 6, 7, 4, 8] (by decide +kernel) (by decide +kernel)
set_option maxRecDepth 20000 in
theorem gX4_told_X4_manyIn : GoodIn wsX4_told (va_wsS RX4 41 yX4_manyIn wsX4_manyIn) := goodIn_app (goodIn_of _ (by decide +kernel)) ggX4_told_X4_manyIn
set_option maxRecDepth 20000 in
theorem ggX4_told_X4_runsIn : GoodIn wsX4_told wsX4_runsIn := goodIn_r _ [11, 6, 7, 4, 8] (by decide +kernel) (by decide +kernel)
set_option maxRecDepth 20000 in
theorem gX4_told_X4_runsIn : GoodIn wsX4_told (va_wsS RX4 45 yX4_runsIn wsX4_runsIn) := goodIn_app (goodIn_of _ (by decide +kernel)) ggX4_told_X4_runsIn
set_option maxRecDepth 20000 in
theorem ggX4_told_X4_kindBy : GoodIn wsX4_told wsX4_kindBy := goodIn_r _ [14] (by decide +kernel) (by decide +kernel)
set_option maxRecDepth 20000 in
theorem gX4_told_X4_kindBy : GoodIn wsX4_told (va_wsS RX4 37 yX4_kindBy wsX4_kindBy) := goodIn_app (goodIn_of _ (by decide +kernel)) ggX4_told_X4_kindBy
set_option maxRecDepth 20000 in
theorem ggX4_told_X4_bytesBy : GoodIn wsX4_told wsX4_bytesBy := goodIn_r _ [17, 12, 13, 4, 14] (by decide +kernel) (by decide +kernel)
set_option maxRecDepth 20000 in
theorem gX4_told_X4_bytesBy : GoodIn wsX4_told (va_wsS RX4 85 yX4_bytesBy wsX4_bytesBy) := goodIn_app (goodIn_of _ (by decide +kernel)) ggX4_told_X4_bytesBy
theorem dX4_told_0 : decode cX4_told 0 = .ok (.aload_n 0, 1) := by decide +kernel
theorem dX4_told_1 : decode cX4_told 1 = .ok (.getfield 7, 3) := by decide +kernel
theorem dX4_told_4 : decode cX4_told 4 = .ok (.iload_n 1, 1) := by decide +kernel
theorem dX4_told_5 : decode cX4_told 5 = .ok (.iload_n 2, 1) := by decide +kernel
theorem dX4_told_6 : decode cX4_told 6 = .ok (.invokestatic 41, 3) := by decide +kernel
theorem dX4_told_9 : decode cX4_told 9 = .ok (.istore 4, 2) := by decide +kernel
theorem dX4_told_11 : decode cX4_told 11 = .ok (.aload_n 0, 1) := by decide +kernel
theorem dX4_told_12 : decode cX4_told 12 = .ok (.getfield 7, 3) := by decide +kernel
theorem dX4_told_15 : decode cX4_told 15 = .ok (.iload_n 1, 1) := by decide +kernel
theorem dX4_told_16 : decode cX4_told 16 = .ok (.iload_n 2, 1) := by decide +kernel
theorem dX4_told_17 : decode cX4_told 17 = .ok (.invokestatic 45, 3) := by decide +kernel
theorem dX4_told_20 : decode cX4_told 20 = .ok (.istore 5, 2) := by decide +kernel
theorem dX4_told_22 : decode cX4_told 22 = .ok (.iload_n 3, 1) := by decide +kernel
theorem dX4_told_23 : decode cX4_told 23 = .ok (.ifCond .ne 13, 3) := by decide +kernel
theorem dX4_told_26 : decode cX4_told 26 = .ok (.iload 4, 2) := by decide +kernel
theorem dX4_told_28 : decode cX4_told 28 = .ok (.iload 5, 2) := by decide +kernel
theorem dX4_told_30 : decode cX4_told 30 = .ok (.invokestatic 37, 3) := by decide +kernel
theorem dX4_told_33 : decode cX4_told 33 = .ok (.goto 30, 3) := by decide +kernel
theorem dX4_told_36 : decode cX4_told 36 = .ok (.iload_n 3, 1) := by decide +kernel
theorem dX4_told_37 : decode cX4_told 37 = .ok (.iconst 1, 1) := by decide +kernel
theorem dX4_told_38 : decode cX4_told 38 = .ok (.if_icmp .ne 8, 3) := by decide +kernel
theorem dX4_told_41 : decode cX4_told 41 = .ok (.iload 4, 2) := by decide +kernel
theorem dX4_told_43 : decode cX4_told 43 = .ok (.goto 20, 3) := by decide +kernel
theorem dX4_told_46 : decode cX4_told 46 = .ok (.iload_n 3, 1) := by decide +kernel
theorem dX4_told_47 : decode cX4_told 47 = .ok (.iconst 2, 1) := by decide +kernel
theorem dX4_told_48 : decode cX4_told 48 = .ok (.if_icmp .ne 8, 3) := by decide +kernel
theorem dX4_told_51 : decode cX4_told 51 = .ok (.iload 5, 2) := by decide +kernel
theorem dX4_told_53 : decode cX4_told 53 = .ok (.goto 10, 3) := by decide +kernel
theorem dX4_told_56 : decode cX4_told 56 = .ok (.iload 4, 2) := by decide +kernel
theorem dX4_told_58 : decode cX4_told 58 = .ok (.iload 5, 2) := by decide +kernel
theorem dX4_told_60 : decode cX4_told 60 = .ok (.invokestatic 85, 3) := by decide +kernel
theorem dX4_told_63 : decode cX4_told 63 = .ok (.ireturn, 1) := by decide +kernel
set_option maxRecDepth 20000 in
theorem ggX4_piece_X4_isSet : GoodIn wsX4_piece wsX4_isSet := goodIn_r _ [4, 5, 6, 3, 7] (by decide +kernel) (by decide +kernel)
set_option maxRecDepth 20000 in
theorem gX4_piece_X4_isSet : GoodIn wsX4_piece (va_wsS RX4 55 yX4_isSet wsX4_isSet) := goodIn_app (goodIn_of _ (by decide +kernel)) ggX4_piece_X4_isSet
set_option maxRecDepth 20000 in
theorem ggX4_piece_X4_in : GoodIn wsX4_piece wsX4_in := goodIn_r _ [7] (by decide +kernel) (by decide +kernel)
set_option maxRecDepth 20000 in
theorem gX4_piece_X4_in : GoodIn wsX4_piece (va_wsS RX4 25 yX4_in wsX4_in) := goodIn_app (goodIn_of _ (by decide +kernel)) ggX4_piece_X4_in
set_option maxRecDepth 20000 in
theorem ggX4_piece_X4_told : GoodIn wsX4_piece wsX4_told := goodIn_r _ [11, 12, 13, 14, 3, 15, 16, 17, 18, 19, 20, 21, 22, 23, 24, 25, 26, 27, 28, 29, 30, 31, 32, 33, 34, 35] (by decide +kernel) (by decide +kernel)
set_option maxRecDepth 20000 in
theorem gX4_piece_X4_told : GoodIn wsX4_piece (wsV RX4 88 RX4 yX4_told wsX4_told) := goodIn_app (goodIn_of _ (by decide +kernel)) ggX4_piece_X4_told
theorem dX4_piece_0 : decode cX4_piece 0 = .ok (.iload_n 1, 1) := by decide +kernel
theorem dX4_piece_1 : decode cX4_piece 1 = .ok (.invokestatic 55, 3) := by decide +kernel
theorem dX4_piece_4 : decode cX4_piece 4 = .ok (.ifCond .eq 32, 3) := by decide +kernel
theorem dX4_piece_7 : decode cX4_piece 7 = .ok (.iload_n 2, 1) := by decide +kernel
theorem dX4_piece_8 : decode cX4_piece 8 = .ok (.iconst 0, 1) := by decide +kernel
theorem dX4_piece_9 : decode cX4_piece 9 = .ok (.bipush 15, 2) := by decide +kernel
theorem dX4_piece_11 : decode cX4_piece 11 = .ok (.invokestatic 25, 3) := by decide +kernel
theorem dX4_piece_14 : decode cX4_piece 14 = .ok (.ifCond .eq 22, 3) := by decide +kernel
theorem dX4_piece_17 : decode cX4_piece 17 = .ok (.iload_n 3, 1) := by decide +kernel
theorem dX4_piece_18 : decode cX4_piece 18 = .ok (.iconst 0, 1) := by decide +kernel
theorem dX4_piece_19 : decode cX4_piece 19 = .ok (.iconst 3, 1) := by decide +kernel
theorem dX4_piece_20 : decode cX4_piece 20 = .ok (.invokestatic 25, 3) := by decide +kernel
theorem dX4_piece_23 : decode cX4_piece 23 = .ok (.ifCond .eq 13, 3) := by decide +kernel
theorem dX4_piece_26 : decode cX4_piece 26 = .ok (.aload_n 0, 1) := by decide +kernel
theorem dX4_piece_27 : decode cX4_piece 27 = .ok (.iload_n 1, 1) := by decide +kernel
theorem dX4_piece_28 : decode cX4_piece 28 = .ok (.iload_n 2, 1) := by decide +kernel
theorem dX4_piece_29 : decode cX4_piece 29 = .ok (.iload_n 3, 1) := by decide +kernel
theorem dX4_piece_30 : decode cX4_piece 30 = .ok (.invokevirtual 88, 3) := by decide +kernel
theorem dX4_piece_33 : decode cX4_piece 33 = .ok (.goto 4, 3) := by decide +kernel
theorem dX4_piece_36 : decode cX4_piece 36 = .ok (.iconst (-1), 1) := by decide +kernel
theorem dX4_piece_37 : decode cX4_piece 37 = .ok (.ireturn, 1) := by decide +kernel
set_option maxRecDepth 20000 in
theorem ggX4_bytes_X4_isSet : GoodIn wsX4_bytes wsX4_isSet := goodIn_r _ [4, 5, 6, 3, 7] (by decide +kernel) (by decide +kernel)
set_option maxRecDepth 20000 in
theorem gX4_bytes_X4_isSet : GoodIn wsX4_bytes (va_wsS RX4 55 yX4_isSet wsX4_isSet) := goodIn_app (goodIn_of _ (by decide +kernel)) ggX4_bytes_X4_isSet
set_option maxRecDepth 20000 in
theorem ggX4_bytes_X4_told : GoodIn wsX4_bytes wsX4_told := goodIn_r _ [11, 12, 13, 14, 3, 15, 16, 17, 18, 19, 20, 21, 22, 23, 24, 25, 26, 27, 28, 29, 30, 31, 32, 33, 34, 35] (by decide +kernel) (by decide +kernel)
set_option maxRecDepth 20000 in
theorem gX4_bytes_X4_told : GoodIn wsX4_bytes (wsV RX4 88 RX4 yX4_told wsX4_told) := goodIn_app (goodIn_of _ (by decide +kernel)) ggX4_bytes_X4_told
theorem dX4_bytes_0 : decode cX4_bytes 0 = .ok (.iload_n 1, 1) := by decide +kernel
theorem dX4_bytes_1 : decode cX4_bytes 1 = .ok (.invokestatic 55, 3) := by decide +kernel
theorem dX4_bytes_4 : decode cX4_bytes 4 = .ok (.ifCond .ne 5, 3) := by decide +kernel
theorem dX4_bytes_7 : decode cX4_bytes 7 = .ok (.iconst (-1), 1) := by decide +kernel
theorem dX4_bytes_8 : decode cX4_bytes 8 = .ok (.ireturn, 1) := by decide +kernel
theorem dX4_bytes_9 : decode cX4_bytes 9 = .ok (.iconst 0, 1) := by decide +kernel
theorem dX4_bytes_10 : decode cX4_bytes 10 = .ok (.istore_n 2, 1) := by decide +kernel
theorem dX4_bytes_11 : decode cX4_bytes 11 = .ok (.iconst 0, 1) := by decide +kernel
theorem dX4_bytes_12 : decode cX4_bytes 12 = .ok (.istore_n 3, 1) := by decide +kernel
theorem dX4_bytes_13 : decode cX4_bytes 13 = .ok (.iload_n 3, 1) := by decide +kernel
theorem dX4_bytes_14 : decode cX4_bytes 14 = .ok (.bipush 16, 2) := by decide +kernel
theorem dX4_bytes_16 : decode cX4_bytes 16 = .ok (.if_icmp .ge 19, 3) := by decide +kernel
theorem dX4_bytes_19 : decode cX4_bytes 19 = .ok (.iload_n 2, 1) := by decide +kernel
theorem dX4_bytes_20 : decode cX4_bytes 20 = .ok (.aload_n 0, 1) := by decide +kernel
theorem dX4_bytes_21 : decode cX4_bytes 21 = .ok (.iload_n 1, 1) := by decide +kernel
theorem dX4_bytes_22 : decode cX4_bytes 22 = .ok (.iload_n 3, 1) := by decide +kernel
theorem dX4_bytes_23 : decode cX4_bytes 23 = .ok (.iconst 3, 1) := by decide +kernel
theorem dX4_bytes_24 : decode cX4_bytes 24 = .ok (.invokevirtual 88, 3) := by decide +kernel
theorem dX4_bytes_27 : decode cX4_bytes 27 = .ok (.iadd, 1) := by decide +kernel
theorem dX4_bytes_28 : decode cX4_bytes 28 = .ok (.istore_n 2, 1) := by decide +kernel
theorem dX4_bytes_29 : decode cX4_bytes 29 = .ok (.iinc 3 1, 3) := by decide +kernel
theorem dX4_bytes_32 : decode cX4_bytes 32 = .ok (.goto (-19), 3) := by decide +kernel
theorem dX4_bytes_35 : decode cX4_bytes 35 = .ok (.iload_n 2, 1) := by decide +kernel
theorem dX4_bytes_36 : decode cX4_bytes 36 = .ok (.ireturn, 1) := by decide +kernel
set_option maxRecDepth 20000 in
theorem ggX4_byteOf_X4_told : GoodIn wsX4_byteOf wsX4_told := goodIn_r _ [5, 6, 7, 8, 4, 9, 10, 11, 12, 13, 14, 15, 16, 17, 18, 19, 20, 21, 26, 27, 28, 29, 30, 31, 32, 33] (by decide +kernel) (by decide +kernel)
set_option maxRecDepth 20000 in
theorem gX4_byteOf_X4_told : GoodIn wsX4_byteOf (wsV RX4 88 RX4 yX4_told wsX4_told) := goodIn_app (goodIn_of _ (by decide +kernel)) ggX4_byteOf_X4_told
set_option maxRecDepth 20000 in
theorem ggX4_byteOf_X4_has : GoodIn wsX4_byteOf wsX4_has := goodIn_r _ [25, 6, 10, 11, 4, 12, 26, 27, 28, 29, 30, 31, 32, 33] (by decide +kernel) (by decide +kernel)
set_option maxRecDepth 20000 in
theorem gX4_byteOf_X4_has : GoodIn wsX4_byteOf (wsV RX4 51 RX4 yX4_has wsX4_has) := goodIn_app (goodIn_of _ (by decide +kernel)) ggX4_byteOf_X4_has
theorem dX4_byteOf_0 : decode cX4_byteOf 0 = .ok (.aload_n 0, 1) := by decide +kernel
theorem dX4_byteOf_1 : decode cX4_byteOf 1 = .ok (.iload_n 1, 1) := by decide +kernel
theorem dX4_byteOf_2 : decode cX4_byteOf 2 = .ok (.iload_n 2, 1) := by decide +kernel
theorem dX4_byteOf_3 : decode cX4_byteOf 3 = .ok (.iconst 0, 1) := by decide +kernel
theorem dX4_byteOf_4 : decode cX4_byteOf 4 = .ok (.invokevirtual 88, 3) := by decide +kernel
theorem dX4_byteOf_7 : decode cX4_byteOf 7 = .ok (.istore 4, 2) := by decide +kernel
theorem dX4_byteOf_9 : decode cX4_byteOf 9 = .ok (.sipush 256, 3) := by decide +kernel
theorem dX4_byteOf_12 : decode cX4_byteOf 12 = .ok (.iload_n 2, 1) := by decide +kernel
theorem dX4_byteOf_13 : decode cX4_byteOf 13 = .ok (.imul, 1) := by decide +kernel
theorem dX4_byteOf_14 : decode cX4_byteOf 14 = .ok (.istore 5, 2) := by decide +kernel
theorem dX4_byteOf_16 : decode cX4_byteOf 16 = .ok (.iload_n 3, 1) := by decide +kernel
theorem dX4_byteOf_17 : decode cX4_byteOf 17 = .ok (.ifCond .ne 10, 3) := by decide +kernel
theorem dX4_byteOf_20 : decode cX4_byteOf 20 = .ok (.iconst 4, 1) := by decide +kernel
theorem dX4_byteOf_21 : decode cX4_byteOf 21 = .ok (.iload_n 2, 1) := by decide +kernel
theorem dX4_byteOf_22 : decode cX4_byteOf 22 = .ok (.imul, 1) := by decide +kernel
theorem dX4_byteOf_23 : decode cX4_byteOf 23 = .ok (.iload 4, 2) := by decide +kernel
theorem dX4_byteOf_25 : decode cX4_byteOf 25 = .ok (.iadd, 1) := by decide +kernel
theorem dX4_byteOf_26 : decode cX4_byteOf 26 = .ok (.ireturn, 1) := by decide +kernel
theorem dX4_byteOf_27 : decode cX4_byteOf 27 = .ok (.iload 4, 2) := by decide +kernel
theorem dX4_byteOf_29 : decode cX4_byteOf 29 = .ok (.iconst 2, 1) := by decide +kernel
theorem dX4_byteOf_30 : decode cX4_byteOf 30 = .ok (.if_icmp .ne 58, 3) := by decide +kernel
theorem dX4_byteOf_33 : decode cX4_byteOf 33 = .ok (.iconst 0, 1) := by decide +kernel
theorem dX4_byteOf_34 : decode cX4_byteOf 34 = .ok (.istore 6, 2) := by decide +kernel
theorem dX4_byteOf_36 : decode cX4_byteOf 36 = .ok (.iconst 0, 1) := by decide +kernel
theorem dX4_byteOf_37 : decode cX4_byteOf 37 = .ok (.istore 7, 2) := by decide +kernel
theorem dX4_byteOf_39 : decode cX4_byteOf 39 = .ok (.iload 7, 2) := by decide +kernel
theorem dX4_byteOf_41 : decode cX4_byteOf 41 = .ok (.bipush 8, 2) := by decide +kernel
theorem dX4_byteOf_43 : decode cX4_byteOf 43 = .ok (.if_icmp .ge 42, 3) := by decide +kernel
theorem dX4_byteOf_46 : decode cX4_byteOf 46 = .ok (.iload 6, 2) := by decide +kernel
theorem dX4_byteOf_48 : decode cX4_byteOf 48 = .ok (.aload_n 0, 1) := by decide +kernel
theorem dX4_byteOf_49 : decode cX4_byteOf 49 = .ok (.iload_n 1, 1) := by decide +kernel
theorem dX4_byteOf_50 : decode cX4_byteOf 50 = .ok (.iload 5, 2) := by decide +kernel
theorem dX4_byteOf_52 : decode cX4_byteOf 52 = .ok (.bipush 8, 2) := by decide +kernel
theorem dX4_byteOf_54 : decode cX4_byteOf 54 = .ok (.iload_n 3, 1) := by decide +kernel
theorem dX4_byteOf_55 : decode cX4_byteOf 55 = .ok (.iconst 1, 1) := by decide +kernel
theorem dX4_byteOf_56 : decode cX4_byteOf 56 = .ok (.isub, 1) := by decide +kernel
theorem dX4_byteOf_57 : decode cX4_byteOf 57 = .ok (.imul, 1) := by decide +kernel
theorem dX4_byteOf_58 : decode cX4_byteOf 58 = .ok (.iadd, 1) := by decide +kernel
theorem dX4_byteOf_59 : decode cX4_byteOf 59 = .ok (.iload 7, 2) := by decide +kernel
theorem dX4_byteOf_61 : decode cX4_byteOf 61 = .ok (.iadd, 1) := by decide +kernel
theorem dX4_byteOf_62 : decode cX4_byteOf 62 = .ok (.invokevirtual 51, 3) := by decide +kernel
theorem dX4_byteOf_65 : decode cX4_byteOf 65 = .ok (.ifCond .eq 10, 3) := by decide +kernel
theorem dX4_byteOf_68 : decode cX4_byteOf 68 = .ok (.iconst 1, 1) := by decide +kernel
theorem dX4_byteOf_69 : decode cX4_byteOf 69 = .ok (.iload 7, 2) := by decide +kernel
theorem dX4_byteOf_71 : decode cX4_byteOf 71 = .ok (.ishl, 1) := by decide +kernel
theorem dX4_byteOf_72 : decode cX4_byteOf 72 = .ok (.goto 4, 3) := by decide +kernel
theorem dX4_byteOf_75 : decode cX4_byteOf 75 = .ok (.iconst 0, 1) := by decide +kernel
theorem dX4_byteOf_76 : decode cX4_byteOf 76 = .ok (.ior, 1) := by decide +kernel
theorem dX4_byteOf_77 : decode cX4_byteOf 77 = .ok (.istore 6, 2) := by decide +kernel
theorem dX4_byteOf_79 : decode cX4_byteOf 79 = .ok (.iinc 7 1, 3) := by decide +kernel
theorem dX4_byteOf_82 : decode cX4_byteOf 82 = .ok (.goto (-43), 3) := by decide +kernel
theorem dX4_byteOf_85 : decode cX4_byteOf 85 = .ok (.iload 6, 2) := by decide +kernel
theorem dX4_byteOf_87 : decode cX4_byteOf 87 = .ok (.ireturn, 1) := by decide +kernel
theorem dX4_byteOf_88 : decode cX4_byteOf 88 = .ok (.iload_n 3, 1) := by decide +kernel
theorem dX4_byteOf_89 : decode cX4_byteOf 89 = .ok (.iconst 1, 1) := by decide +kernel
theorem dX4_byteOf_90 : decode cX4_byteOf 90 = .ok (.if_icmp .ne 20, 3) := by decide +kernel
theorem dX4_byteOf_93 : decode cX4_byteOf 93 = .ok (.aload_n 0, 1) := by decide +kernel
theorem dX4_byteOf_94 : decode cX4_byteOf 94 = .ok (.iload_n 1, 1) := by decide +kernel
theorem dX4_byteOf_95 : decode cX4_byteOf 95 = .ok (.iload_n 2, 1) := by decide +kernel
theorem dX4_byteOf_96 : decode cX4_byteOf 96 = .ok (.iload 4, 2) := by decide +kernel
theorem dX4_byteOf_98 : decode cX4_byteOf 98 = .ok (.ifCond .ne 7, 3) := by decide +kernel
theorem dX4_byteOf_101 : decode cX4_byteOf 101 = .ok (.iconst 1, 1) := by decide +kernel
theorem dX4_byteOf_102 : decode cX4_byteOf 102 = .ok (.goto 4, 3) := by decide +kernel
theorem dX4_byteOf_105 : decode cX4_byteOf 105 = .ok (.iconst 2, 1) := by decide +kernel
theorem dX4_byteOf_106 : decode cX4_byteOf 106 = .ok (.invokevirtual 88, 3) := by decide +kernel
theorem dX4_byteOf_109 : decode cX4_byteOf 109 = .ok (.ireturn, 1) := by decide +kernel
theorem dX4_byteOf_110 : decode cX4_byteOf 110 = .ok (.iload_n 3, 1) := by decide +kernel
theorem dX4_byteOf_111 : decode cX4_byteOf 111 = .ok (.iconst 2, 1) := by decide +kernel
theorem dX4_byteOf_112 : decode cX4_byteOf 112 = .ok (.isub, 1) := by decide +kernel
theorem dX4_byteOf_113 : decode cX4_byteOf 113 = .ok (.istore 6, 2) := by decide +kernel
theorem dX4_byteOf_115 : decode cX4_byteOf 115 = .ok (.iconst 0, 1) := by decide +kernel
theorem dX4_byteOf_116 : decode cX4_byteOf 116 = .ok (.istore 7, 2) := by decide +kernel
theorem dX4_byteOf_118 : decode cX4_byteOf 118 = .ok (.iload 7, 2) := by decide +kernel
theorem dX4_byteOf_120 : decode cX4_byteOf 120 = .ok (.sipush 256, 3) := by decide +kernel
theorem dX4_byteOf_123 : decode cX4_byteOf 123 = .ok (.if_icmp .ge 122, 3) := by decide +kernel
theorem dX4_byteOf_126 : decode cX4_byteOf 126 = .ok (.aload_n 0, 1) := by decide +kernel
theorem dX4_byteOf_127 : decode cX4_byteOf 127 = .ok (.iload_n 1, 1) := by decide +kernel
theorem dX4_byteOf_128 : decode cX4_byteOf 128 = .ok (.iload 5, 2) := by decide +kernel
theorem dX4_byteOf_130 : decode cX4_byteOf 130 = .ok (.iload 7, 2) := by decide +kernel
theorem dX4_byteOf_132 : decode cX4_byteOf 132 = .ok (.iadd, 1) := by decide +kernel
theorem dX4_byteOf_133 : decode cX4_byteOf 133 = .ok (.invokevirtual 51, 3) := by decide +kernel
theorem dX4_byteOf_136 : decode cX4_byteOf 136 = .ok (.ifCond .eq 103, 3) := by decide +kernel
theorem dX4_byteOf_139 : decode cX4_byteOf 139 = .ok (.iload 7, 2) := by decide +kernel
theorem dX4_byteOf_141 : decode cX4_byteOf 141 = .ok (.ifCond .eq 18, 3) := by decide +kernel
theorem dX4_byteOf_144 : decode cX4_byteOf 144 = .ok (.aload_n 0, 1) := by decide +kernel
theorem dX4_byteOf_145 : decode cX4_byteOf 145 = .ok (.iload_n 1, 1) := by decide +kernel
theorem dX4_byteOf_146 : decode cX4_byteOf 146 = .ok (.iload 5, 2) := by decide +kernel
theorem dX4_byteOf_148 : decode cX4_byteOf 148 = .ok (.iload 7, 2) := by decide +kernel
theorem dX4_byteOf_150 : decode cX4_byteOf 150 = .ok (.iadd, 1) := by decide +kernel
theorem dX4_byteOf_151 : decode cX4_byteOf 151 = .ok (.iconst 1, 1) := by decide +kernel
theorem dX4_byteOf_152 : decode cX4_byteOf 152 = .ok (.isub, 1) := by decide +kernel
theorem dX4_byteOf_153 : decode cX4_byteOf 153 = .ok (.invokevirtual 51, 3) := by decide +kernel
theorem dX4_byteOf_156 : decode cX4_byteOf 156 = .ok (.ifCond .ne 7, 3) := by decide +kernel
theorem dX4_byteOf_159 : decode cX4_byteOf 159 = .ok (.iconst 1, 1) := by decide +kernel
theorem dX4_byteOf_160 : decode cX4_byteOf 160 = .ok (.goto 4, 3) := by decide +kernel
theorem dX4_byteOf_163 : decode cX4_byteOf 163 = .ok (.iconst 0, 1) := by decide +kernel
theorem dX4_byteOf_164 : decode cX4_byteOf 164 = .ok (.istore 8, 2) := by decide +kernel
theorem dX4_byteOf_166 : decode cX4_byteOf 166 = .ok (.iload 7, 2) := by decide +kernel
theorem dX4_byteOf_168 : decode cX4_byteOf 168 = .ok (.sipush 255, 3) := by decide +kernel
theorem dX4_byteOf_171 : decode cX4_byteOf 171 = .ok (.if_icmp .eq 18, 3) := by decide +kernel
theorem dX4_byteOf_174 : decode cX4_byteOf 174 = .ok (.aload_n 0, 1) := by decide +kernel
theorem dX4_byteOf_175 : decode cX4_byteOf 175 = .ok (.iload_n 1, 1) := by decide +kernel
theorem dX4_byteOf_176 : decode cX4_byteOf 176 = .ok (.iload 5, 2) := by decide +kernel
theorem dX4_byteOf_178 : decode cX4_byteOf 178 = .ok (.iload 7, 2) := by decide +kernel
theorem dX4_byteOf_180 : decode cX4_byteOf 180 = .ok (.iadd, 1) := by decide +kernel
theorem dX4_byteOf_181 : decode cX4_byteOf 181 = .ok (.iconst 1, 1) := by decide +kernel
theorem dX4_byteOf_182 : decode cX4_byteOf 182 = .ok (.iadd, 1) := by decide +kernel
theorem dX4_byteOf_183 : decode cX4_byteOf 183 = .ok (.invokevirtual 51, 3) := by decide +kernel
theorem dX4_byteOf_186 : decode cX4_byteOf 186 = .ok (.ifCond .ne 7, 3) := by decide +kernel
theorem dX4_byteOf_189 : decode cX4_byteOf 189 = .ok (.iconst 1, 1) := by decide +kernel
theorem dX4_byteOf_190 : decode cX4_byteOf 190 = .ok (.goto 4, 3) := by decide +kernel
theorem dX4_byteOf_193 : decode cX4_byteOf 193 = .ok (.iconst 0, 1) := by decide +kernel
theorem dX4_byteOf_194 : decode cX4_byteOf 194 = .ok (.istore 9, 2) := by decide +kernel
theorem dX4_byteOf_196 : decode cX4_byteOf 196 = .ok (.iload 4, 2) := by decide +kernel
theorem dX4_byteOf_198 : decode cX4_byteOf 198 = .ok (.ifCond .eq 8, 3) := by decide +kernel
theorem dX4_byteOf_201 : decode cX4_byteOf 201 = .ok (.iload 8, 2) := by decide +kernel
theorem dX4_byteOf_203 : decode cX4_byteOf 203 = .ok (.ifCond .eq 14, 3) := by decide +kernel
theorem dX4_byteOf_206 : decode cX4_byteOf 206 = .ok (.iload 6, 2) := by decide +kernel
theorem dX4_byteOf_208 : decode cX4_byteOf 208 = .ok (.ifCond .ne 6, 3) := by decide +kernel
theorem dX4_byteOf_211 : decode cX4_byteOf 211 = .ok (.iload 7, 2) := by decide +kernel
theorem dX4_byteOf_213 : decode cX4_byteOf 213 = .ok (.ireturn, 1) := by decide +kernel
theorem dX4_byteOf_214 : decode cX4_byteOf 214 = .ok (.iinc 6 (-1), 3) := by decide +kernel
theorem dX4_byteOf_217 : decode cX4_byteOf 217 = .ok (.iload 4, 2) := by decide +kernel
theorem dX4_byteOf_219 : decode cX4_byteOf 219 = .ok (.iconst 1, 1) := by decide +kernel
theorem dX4_byteOf_220 : decode cX4_byteOf 220 = .ok (.if_icmp .ne 19, 3) := by decide +kernel
theorem dX4_byteOf_223 : decode cX4_byteOf 223 = .ok (.iload 9, 2) := by decide +kernel
theorem dX4_byteOf_225 : decode cX4_byteOf 225 = .ok (.ifCond .eq 14, 3) := by decide +kernel
theorem dX4_byteOf_228 : decode cX4_byteOf 228 = .ok (.iload 6, 2) := by decide +kernel
theorem dX4_byteOf_230 : decode cX4_byteOf 230 = .ok (.ifCond .ne 6, 3) := by decide +kernel
theorem dX4_byteOf_233 : decode cX4_byteOf 233 = .ok (.iload 7, 2) := by decide +kernel
theorem dX4_byteOf_235 : decode cX4_byteOf 235 = .ok (.ireturn, 1) := by decide +kernel
theorem dX4_byteOf_236 : decode cX4_byteOf 236 = .ok (.iinc 6 (-1), 3) := by decide +kernel
theorem dX4_byteOf_239 : decode cX4_byteOf 239 = .ok (.iinc 7 1, 3) := by decide +kernel
theorem dX4_byteOf_242 : decode cX4_byteOf 242 = .ok (.goto (-124), 3) := by decide +kernel
theorem dX4_byteOf_245 : decode cX4_byteOf 245 = .ok (.bipush (-9), 2) := by decide +kernel
theorem dX4_byteOf_247 : decode cX4_byteOf 247 = .ok (.ireturn, 1) := by decide +kernel
set_option maxRecDepth 20000 in
theorem ggX4_byteAt_X4_isSet : GoodIn wsX4_byteAt wsX4_isSet := goodIn_r _ [4, 5, 6, 3, 7] (by decide +kernel) (by decide +kernel)
set_option maxRecDepth 20000 in
theorem gX4_byteAt_X4_isSet : GoodIn wsX4_byteAt (va_wsS RX4 55 yX4_isSet wsX4_isSet) := goodIn_app (goodIn_of _ (by decide +kernel)) ggX4_byteAt_X4_isSet
set_option maxRecDepth 20000 in
theorem ggX4_byteAt_X4_told : GoodIn wsX4_byteAt wsX4_told := goodIn_r _ [11, 12, 13, 14, 3, 15, 16, 17, 18, 19, 20, 21, 22, 23, 24, 25, 26, 27, 36, 37, 38, 39, 40, 41, 42, 43] (by decide +kernel) (by decide +kernel)
set_option maxRecDepth 20000 in
theorem gX4_byteAt_X4_told : GoodIn wsX4_byteAt (wsV RX4 88 RX4 yX4_told wsX4_told) := goodIn_app (goodIn_of _ (by decide +kernel)) ggX4_byteAt_X4_told
set_option maxRecDepth 20000 in
theorem ggX4_byteAt_X4_byteOf : GoodIn wsX4_byteAt wsX4_byteOf := goodIn_r _ [31, 8, 9, 10, 3, 11, 12, 13, 14, 15, 16, 17, 18, 19, 20, 21, 22, 23, 24, 25, 26, 27, 32, 33, 34, 35, 36, 37, 38, 39, 40, 41, 42, 43] (by decide +kernel) (by decide +kernel)
set_option maxRecDepth 20000 in
theorem gX4_byteAt_X4_byteOf : GoodIn wsX4_byteAt (wsV RX4 92 RX4 yX4_byteOf wsX4_byteOf) := goodIn_app (goodIn_of _ (by decide +kernel)) ggX4_byteAt_X4_byteOf
theorem dX4_byteAt_0 : decode cX4_byteAt 0 = .ok (.iload_n 1, 1) := by decide +kernel
theorem dX4_byteAt_1 : decode cX4_byteAt 1 = .ok (.invokestatic 55, 3) := by decide +kernel
theorem dX4_byteAt_4 : decode cX4_byteAt 4 = .ok (.ifCond .eq 7, 3) := by decide +kernel
theorem dX4_byteAt_7 : decode cX4_byteAt 7 = .ok (.iload_n 2, 1) := by decide +kernel
theorem dX4_byteAt_8 : decode cX4_byteAt 8 = .ok (.ifCond .ge 5, 3) := by decide +kernel
theorem dX4_byteAt_11 : decode cX4_byteAt 11 = .ok (.iconst (-1), 1) := by decide +kernel
theorem dX4_byteAt_12 : decode cX4_byteAt 12 = .ok (.ireturn, 1) := by decide +kernel
theorem dX4_byteAt_13 : decode cX4_byteAt 13 = .ok (.iload_n 2, 1) := by decide +kernel
theorem dX4_byteAt_14 : decode cX4_byteAt 14 = .ok (.istore_n 3, 1) := by decide +kernel
theorem dX4_byteAt_15 : decode cX4_byteAt 15 = .ok (.iconst 0, 1) := by decide +kernel
theorem dX4_byteAt_16 : decode cX4_byteAt 16 = .ok (.istore 4, 2) := by decide +kernel
theorem dX4_byteAt_18 : decode cX4_byteAt 18 = .ok (.iload 4, 2) := by decide +kernel
theorem dX4_byteAt_20 : decode cX4_byteAt 20 = .ok (.bipush 16, 2) := by decide +kernel
theorem dX4_byteAt_22 : decode cX4_byteAt 22 = .ok (.if_icmp .ge 39, 3) := by decide +kernel
theorem dX4_byteAt_25 : decode cX4_byteAt 25 = .ok (.aload_n 0, 1) := by decide +kernel
theorem dX4_byteAt_26 : decode cX4_byteAt 26 = .ok (.iload_n 1, 1) := by decide +kernel
theorem dX4_byteAt_27 : decode cX4_byteAt 27 = .ok (.iload 4, 2) := by decide +kernel
theorem dX4_byteAt_29 : decode cX4_byteAt 29 = .ok (.iconst 3, 1) := by decide +kernel
theorem dX4_byteAt_30 : decode cX4_byteAt 30 = .ok (.invokevirtual 88, 3) := by decide +kernel
theorem dX4_byteAt_33 : decode cX4_byteAt 33 = .ok (.istore 5, 2) := by decide +kernel
theorem dX4_byteAt_35 : decode cX4_byteAt 35 = .ok (.iload_n 3, 1) := by decide +kernel
theorem dX4_byteAt_36 : decode cX4_byteAt 36 = .ok (.iload 5, 2) := by decide +kernel
theorem dX4_byteAt_38 : decode cX4_byteAt 38 = .ok (.if_icmp .ge 12, 3) := by decide +kernel
theorem dX4_byteAt_41 : decode cX4_byteAt 41 = .ok (.aload_n 0, 1) := by decide +kernel
theorem dX4_byteAt_42 : decode cX4_byteAt 42 = .ok (.iload_n 1, 1) := by decide +kernel
theorem dX4_byteAt_43 : decode cX4_byteAt 43 = .ok (.iload 4, 2) := by decide +kernel
theorem dX4_byteAt_45 : decode cX4_byteAt 45 = .ok (.iload_n 3, 1) := by decide +kernel
theorem dX4_byteAt_46 : decode cX4_byteAt 46 = .ok (.invokevirtual 92, 3) := by decide +kernel
theorem dX4_byteAt_49 : decode cX4_byteAt 49 = .ok (.ireturn, 1) := by decide +kernel
theorem dX4_byteAt_50 : decode cX4_byteAt 50 = .ok (.iload_n 3, 1) := by decide +kernel
theorem dX4_byteAt_51 : decode cX4_byteAt 51 = .ok (.iload 5, 2) := by decide +kernel
theorem dX4_byteAt_53 : decode cX4_byteAt 53 = .ok (.isub, 1) := by decide +kernel
theorem dX4_byteAt_54 : decode cX4_byteAt 54 = .ok (.istore_n 3, 1) := by decide +kernel
theorem dX4_byteAt_55 : decode cX4_byteAt 55 = .ok (.iinc 4 1, 3) := by decide +kernel
theorem dX4_byteAt_58 : decode cX4_byteAt 58 = .ok (.goto (-40), 3) := by decide +kernel
theorem dX4_byteAt_61 : decode cX4_byteAt 61 = .ok (.bipush (-9), 2) := by decide +kernel
theorem dX4_byteAt_63 : decode cX4_byteAt 63 = .ok (.ireturn, 1) := by decide +kernel
set_option maxRecDepth 20000 in
theorem ggX4_put_X4_in : GoodIn wsX4_put wsX4_in := goodIn_r _ [6] (by decide +kernel) (by decide +kernel)
set_option maxRecDepth 20000 in
theorem gX4_put_X4_in : GoodIn wsX4_put (va_wsS RX4 25 yX4_in wsX4_in) := goodIn_app (goodIn_of _ (by decide +kernel)) ggX4_put_X4_in
theorem dX4_put_0 : decode cX4_put 0 = .ok (.iload_n 1, 1) := by decide +kernel
theorem dX4_put_1 : decode cX4_put 1 = .ok (.iconst 0, 1) := by decide +kernel
theorem dX4_put_2 : decode cX4_put 2 = .ok (.sipush 255, 3) := by decide +kernel
theorem dX4_put_5 : decode cX4_put 5 = .ok (.invokestatic 25, 3) := by decide +kernel
theorem dX4_put_8 : decode cX4_put 8 = .ok (.ifCond .ne 5, 3) := by decide +kernel
theorem dX4_put_11 : decode cX4_put 11 = .ok (.iconst (-1), 1) := by decide +kernel
theorem dX4_put_12 : decode cX4_put 12 = .ok (.ireturn, 1) := by decide +kernel
theorem dX4_put_13 : decode cX4_put 13 = .ok (.aload_n 0, 1) := by decide +kernel
theorem dX4_put_14 : decode cX4_put 14 = .ok (.getfield 95, 3) := by decide +kernel
theorem dX4_put_17 : decode cX4_put 17 = .ok (.sipush 200, 3) := by decide +kernel
theorem dX4_put_20 : decode cX4_put 20 = .ok (.if_icmp .ne 6, 3) := by decide +kernel
theorem dX4_put_23 : decode cX4_put 23 = .ok (.bipush (-3), 2) := by decide +kernel
theorem dX4_put_25 : decode cX4_put 25 = .ok (.ireturn, 1) := by decide +kernel
theorem dX4_put_26 : decode cX4_put 26 = .ok (.aload_n 0, 1) := by decide +kernel
theorem dX4_put_27 : decode cX4_put 27 = .ok (.getfield 19, 3) := by decide +kernel
theorem dX4_put_30 : decode cX4_put 30 = .ok (.aload_n 0, 1) := by decide +kernel
theorem dX4_put_31 : decode cX4_put 31 = .ok (.getfield 95, 3) := by decide +kernel
theorem dX4_put_34 : decode cX4_put 34 = .ok (.iload_n 1, 1) := by decide +kernel
theorem dX4_put_35 : decode cX4_put 35 = .ok (.iastore, 1) := by decide +kernel
theorem dX4_put_36 : decode cX4_put 36 = .ok (.aload_n 0, 1) := by decide +kernel
theorem dX4_put_37 : decode cX4_put 37 = .ok (.dup, 1) := by decide +kernel
theorem dX4_put_38 : decode cX4_put 38 = .ok (.getfield 95, 3) := by decide +kernel
theorem dX4_put_41 : decode cX4_put 41 = .ok (.iconst 1, 1) := by decide +kernel
theorem dX4_put_42 : decode cX4_put 42 = .ok (.iadd, 1) := by decide +kernel
theorem dX4_put_43 : decode cX4_put 43 = .ok (.putfield 95, 3) := by decide +kernel
theorem dX4_put_46 : decode cX4_put 46 = .ok (.aload_n 0, 1) := by decide +kernel
theorem dX4_put_47 : decode cX4_put 47 = .ok (.getfield 95, 3) := by decide +kernel
theorem dX4_put_50 : decode cX4_put 50 = .ok (.ireturn, 1) := by decide +kernel
end
section
theorem dX4_clear_0 : decode cX4_clear 0 = .ok (.aload_n 0, 1) := by decide +kernel
theorem dX4_clear_1 : decode cX4_clear 1 = .ok (.getfield 95, 3) := by decide +kernel
theorem dX4_clear_4 : decode cX4_clear 4 = .ok (.istore_n 1, 1) := by decide +kernel
theorem dX4_clear_5 : decode cX4_clear 5 = .ok (.aload_n 0, 1) := by decide +kernel
theorem dX4_clear_6 : decode cX4_clear 6 = .ok (.iconst 0, 1) := by decide +kernel
theorem dX4_clear_7 : decode cX4_clear 7 = .ok (.putfield 95, 3) := by decide +kernel
theorem dX4_clear_10 : decode cX4_clear 10 = .ok (.iload_n 1, 1) := by decide +kernel
theorem dX4_clear_11 : decode cX4_clear 11 = .ok (.ireturn, 1) := by decide +kernel
theorem dX4_takes_0 : decode cX4_takes 0 = .ok (.aload_n 0, 1) := by decide +kernel
theorem dX4_takes_1 : decode cX4_takes 1 = .ok (.getfield 22, 3) := by decide +kernel
theorem dX4_takes_4 : decode cX4_takes 4 = .ok (.iload_n 1, 1) := by decide +kernel
theorem dX4_takes_5 : decode cX4_takes 5 = .ok (.bipush 32, 2) := by decide +kernel
theorem dX4_takes_7 : decode cX4_takes 7 = .ok (.idiv, 1) := by decide +kernel
theorem dX4_takes_8 : decode cX4_takes 8 = .ok (.dup2, 1) := by decide +kernel
theorem dX4_takes_9 : decode cX4_takes 9 = .ok (.iaload, 1) := by decide +kernel
theorem dX4_takes_10 : decode cX4_takes 10 = .ok (.iconst 1, 1) := by decide +kernel
theorem dX4_takes_11 : decode cX4_takes 11 = .ok (.iload_n 1, 1) := by decide +kernel
theorem dX4_takes_12 : decode cX4_takes 12 = .ok (.bipush 32, 2) := by decide +kernel
theorem dX4_takes_14 : decode cX4_takes 14 = .ok (.irem, 1) := by decide +kernel
theorem dX4_takes_15 : decode cX4_takes 15 = .ok (.ishl, 1) := by decide +kernel
theorem dX4_takes_16 : decode cX4_takes 16 = .ok (.ior, 1) := by decide +kernel
theorem dX4_takes_17 : decode cX4_takes 17 = .ok (.iastore, 1) := by decide +kernel
theorem dX4_takes_18 : decode cX4_takes 18 = .ok (.return_, 1) := by decide +kernel
theorem dX4_next_0 : decode cX4_next 0 = .ok (.aload_n 0, 1) := by decide +kernel
theorem dX4_next_1 : decode cX4_next 1 = .ok (.getfield 98, 3) := by decide +kernel
theorem dX4_next_4 : decode cX4_next 4 = .ok (.aload_n 0, 1) := by decide +kernel
theorem dX4_next_5 : decode cX4_next 5 = .ok (.getfield 95, 3) := by decide +kernel
theorem dX4_next_8 : decode cX4_next 8 = .ok (.if_icmp .ge 15, 3) := by decide +kernel
theorem dX4_next_11 : decode cX4_next 11 = .ok (.aload_n 0, 1) := by decide +kernel
theorem dX4_next_12 : decode cX4_next 12 = .ok (.getfield 19, 3) := by decide +kernel
theorem dX4_next_15 : decode cX4_next 15 = .ok (.aload_n 0, 1) := by decide +kernel
theorem dX4_next_16 : decode cX4_next 16 = .ok (.getfield 98, 3) := by decide +kernel
theorem dX4_next_19 : decode cX4_next 19 = .ok (.iaload, 1) := by decide +kernel
theorem dX4_next_20 : decode cX4_next 20 = .ok (.goto 5, 3) := by decide +kernel
theorem dX4_next_23 : decode cX4_next 23 = .ok (.bipush (-9), 2) := by decide +kernel
theorem dX4_next_25 : decode cX4_next 25 = .ok (.ireturn, 1) := by decide +kernel
set_option maxRecDepth 20000 in
theorem ggX4_readsPlaces_X4_next : GoodIn wsX4_readsPlaces wsX4_next := goodIn_r _ [6, 1, 7, 8, 14, 15, 16, 17, 18, 19, 20, 21] (by decide +kernel) (by decide +kernel)
set_option maxRecDepth 20000 in
theorem gX4_readsPlaces_X4_next : GoodIn wsX4_readsPlaces (wsV RX4 101 RX4 yX4_next wsX4_next) := goodIn_app (goodIn_of _ (by decide +kernel)) ggX4_readsPlaces_X4_next
set_option maxRecDepth 20000 in
theorem ggX4_readsPlaces_X4_takes : GoodIn wsX4_readsPlaces wsX4_takes := goodIn_r _ [12, 13, 14, 15, 16, 17, 18, 19, 20, 21] (by decide +kernel) (by decide +kernel)
set_option maxRecDepth 20000 in
theorem gX4_readsPlaces_X4_takes : GoodIn wsX4_readsPlaces (wsV RX4 105 RX4 yX4_takes wsX4_takes) := goodIn_app (goodIn_of _ (by decide +kernel)) ggX4_readsPlaces_X4_takes
theorem dX4_readsPlaces_0 : decode cX4_readsPlaces 0 = .ok (.aload_n 0, 1) := by decide +kernel
theorem dX4_readsPlaces_1 : decode cX4_readsPlaces 1 = .ok (.invokevirtual 101, 3) := by decide +kernel
theorem dX4_readsPlaces_4 : decode cX4_readsPlaces 4 = .ok (.istore_n 3, 1) := by decide +kernel
theorem dX4_readsPlaces_5 : decode cX4_readsPlaces 5 = .ok (.iload_n 3, 1) := by decide +kernel
theorem dX4_readsPlaces_6 : decode cX4_readsPlaces 6 = .ok (.iconst 1, 1) := by decide +kernel
theorem dX4_readsPlaces_7 : decode cX4_readsPlaces 7 = .ok (.if_icmp .ge 5, 3) := by decide +kernel
theorem dX4_readsPlaces_10 : decode cX4_readsPlaces 10 = .ok (.iconst 0, 1) := by decide +kernel
theorem dX4_readsPlaces_11 : decode cX4_readsPlaces 11 = .ok (.ireturn, 1) := by decide +kernel
theorem dX4_readsPlaces_12 : decode cX4_readsPlaces 12 = .ok (.aload_n 0, 1) := by decide +kernel
theorem dX4_readsPlaces_13 : decode cX4_readsPlaces 13 = .ok (.dup, 1) := by decide +kernel
theorem dX4_readsPlaces_14 : decode cX4_readsPlaces 14 = .ok (.getfield 98, 3) := by decide +kernel
theorem dX4_readsPlaces_17 : decode cX4_readsPlaces 17 = .ok (.iconst 1, 1) := by decide +kernel
theorem dX4_readsPlaces_18 : decode cX4_readsPlaces 18 = .ok (.iadd, 1) := by decide +kernel
theorem dX4_readsPlaces_19 : decode cX4_readsPlaces 19 = .ok (.putfield 98, 3) := by decide +kernel
theorem dX4_readsPlaces_22 : decode cX4_readsPlaces 22 = .ok (.iload_n 2, 1) := by decide +kernel
theorem dX4_readsPlaces_23 : decode cX4_readsPlaces 23 = .ok (.ifCond .eq 8, 3) := by decide +kernel
theorem dX4_readsPlaces_26 : decode cX4_readsPlaces 26 = .ok (.bipush (-2), 2) := by decide +kernel
theorem dX4_readsPlaces_28 : decode cX4_readsPlaces 28 = .ok (.goto 4, 3) := by decide +kernel
theorem dX4_readsPlaces_31 : decode cX4_readsPlaces 31 = .ok (.iconst (-1), 1) := by decide +kernel
theorem dX4_readsPlaces_32 : decode cX4_readsPlaces 32 = .ok (.istore 4, 2) := by decide +kernel
theorem dX4_readsPlaces_34 : decode cX4_readsPlaces 34 = .ok (.iconst 0, 1) := by decide +kernel
theorem dX4_readsPlaces_35 : decode cX4_readsPlaces 35 = .ok (.istore 5, 2) := by decide +kernel
theorem dX4_readsPlaces_37 : decode cX4_readsPlaces 37 = .ok (.iload 5, 2) := by decide +kernel
theorem dX4_readsPlaces_39 : decode cX4_readsPlaces 39 = .ok (.iload_n 3, 1) := by decide +kernel
theorem dX4_readsPlaces_40 : decode cX4_readsPlaces 40 = .ok (.if_icmp .ge 113, 3) := by decide +kernel
theorem dX4_readsPlaces_43 : decode cX4_readsPlaces 43 = .ok (.aload_n 0, 1) := by decide +kernel
theorem dX4_readsPlaces_44 : decode cX4_readsPlaces 44 = .ok (.invokevirtual 101, 3) := by decide +kernel
theorem dX4_readsPlaces_47 : decode cX4_readsPlaces 47 = .ok (.iload 4, 2) := by decide +kernel
theorem dX4_readsPlaces_49 : decode cX4_readsPlaces 49 = .ok (.iload_n 2, 1) := by decide +kernel
theorem dX4_readsPlaces_50 : decode cX4_readsPlaces 50 = .ok (.ifCond .eq 7, 3) := by decide +kernel
theorem dX4_readsPlaces_53 : decode cX4_readsPlaces 53 = .ok (.iconst 2, 1) := by decide +kernel
theorem dX4_readsPlaces_54 : decode cX4_readsPlaces 54 = .ok (.goto 4, 3) := by decide +kernel
theorem dX4_readsPlaces_57 : decode cX4_readsPlaces 57 = .ok (.iconst 1, 1) := by decide +kernel
theorem dX4_readsPlaces_58 : decode cX4_readsPlaces 58 = .ok (.iadd, 1) := by decide +kernel
theorem dX4_readsPlaces_59 : decode cX4_readsPlaces 59 = .ok (.if_icmp .lt 10, 3) := by decide +kernel
theorem dX4_readsPlaces_62 : decode cX4_readsPlaces 62 = .ok (.aload_n 0, 1) := by decide +kernel
theorem dX4_readsPlaces_63 : decode cX4_readsPlaces 63 = .ok (.invokevirtual 101, 3) := by decide +kernel
theorem dX4_readsPlaces_66 : decode cX4_readsPlaces 66 = .ok (.ifCond .ge 5, 3) := by decide +kernel
theorem dX4_readsPlaces_69 : decode cX4_readsPlaces 69 = .ok (.iconst 0, 1) := by decide +kernel
theorem dX4_readsPlaces_70 : decode cX4_readsPlaces 70 = .ok (.ireturn, 1) := by decide +kernel
theorem dX4_readsPlaces_71 : decode cX4_readsPlaces 71 = .ok (.aload_n 0, 1) := by decide +kernel
theorem dX4_readsPlaces_72 : decode cX4_readsPlaces 72 = .ok (.invokevirtual 101, 3) := by decide +kernel
theorem dX4_readsPlaces_75 : decode cX4_readsPlaces 75 = .ok (.istore 6, 2) := by decide +kernel
theorem dX4_readsPlaces_77 : decode cX4_readsPlaces 77 = .ok (.iload 6, 2) := by decide +kernel
theorem dX4_readsPlaces_79 : decode cX4_readsPlaces 79 = .ok (.istore 4, 2) := by decide +kernel
theorem dX4_readsPlaces_81 : decode cX4_readsPlaces 81 = .ok (.aload_n 0, 1) := by decide +kernel
theorem dX4_readsPlaces_82 : decode cX4_readsPlaces 82 = .ok (.dup, 1) := by decide +kernel
theorem dX4_readsPlaces_83 : decode cX4_readsPlaces 83 = .ok (.getfield 98, 3) := by decide +kernel
theorem dX4_readsPlaces_86 : decode cX4_readsPlaces 86 = .ok (.iconst 1, 1) := by decide +kernel
theorem dX4_readsPlaces_87 : decode cX4_readsPlaces 87 = .ok (.iadd, 1) := by decide +kernel
theorem dX4_readsPlaces_88 : decode cX4_readsPlaces 88 = .ok (.putfield 98, 3) := by decide +kernel
theorem dX4_readsPlaces_91 : decode cX4_readsPlaces 91 = .ok (.iload_n 2, 1) := by decide +kernel
theorem dX4_readsPlaces_92 : decode cX4_readsPlaces 92 = .ok (.ifCond .eq 30, 3) := by decide +kernel
theorem dX4_readsPlaces_95 : decode cX4_readsPlaces 95 = .ok (.aload_n 0, 1) := by decide +kernel
theorem dX4_readsPlaces_96 : decode cX4_readsPlaces 96 = .ok (.invokevirtual 101, 3) := by decide +kernel
theorem dX4_readsPlaces_99 : decode cX4_readsPlaces 99 = .ok (.iload 6, 2) := by decide +kernel
theorem dX4_readsPlaces_101 : decode cX4_readsPlaces 101 = .ok (.if_icmp .ge 5, 3) := by decide +kernel
theorem dX4_readsPlaces_104 : decode cX4_readsPlaces 104 = .ok (.iconst 0, 1) := by decide +kernel
theorem dX4_readsPlaces_105 : decode cX4_readsPlaces 105 = .ok (.ireturn, 1) := by decide +kernel
theorem dX4_readsPlaces_106 : decode cX4_readsPlaces 106 = .ok (.aload_n 0, 1) := by decide +kernel
theorem dX4_readsPlaces_107 : decode cX4_readsPlaces 107 = .ok (.invokevirtual 101, 3) := by decide +kernel
theorem dX4_readsPlaces_110 : decode cX4_readsPlaces 110 = .ok (.istore 4, 2) := by decide +kernel
theorem dX4_readsPlaces_112 : decode cX4_readsPlaces 112 = .ok (.aload_n 0, 1) := by decide +kernel
theorem dX4_readsPlaces_113 : decode cX4_readsPlaces 113 = .ok (.dup, 1) := by decide +kernel
theorem dX4_readsPlaces_114 : decode cX4_readsPlaces 114 = .ok (.getfield 98, 3) := by decide +kernel
theorem dX4_readsPlaces_117 : decode cX4_readsPlaces 117 = .ok (.iconst 1, 1) := by decide +kernel
theorem dX4_readsPlaces_118 : decode cX4_readsPlaces 118 = .ok (.iadd, 1) := by decide +kernel
theorem dX4_readsPlaces_119 : decode cX4_readsPlaces 119 = .ok (.putfield 98, 3) := by decide +kernel
theorem dX4_readsPlaces_122 : decode cX4_readsPlaces 122 = .ok (.iload 6, 2) := by decide +kernel
theorem dX4_readsPlaces_124 : decode cX4_readsPlaces 124 = .ok (.istore 7, 2) := by decide +kernel
theorem dX4_readsPlaces_126 : decode cX4_readsPlaces 126 = .ok (.iload 7, 2) := by decide +kernel
theorem dX4_readsPlaces_128 : decode cX4_readsPlaces 128 = .ok (.iload 4, 2) := by decide +kernel
theorem dX4_readsPlaces_130 : decode cX4_readsPlaces 130 = .ok (.if_icmp .gt 17, 3) := by decide +kernel
theorem dX4_readsPlaces_133 : decode cX4_readsPlaces 133 = .ok (.aload_n 0, 1) := by decide +kernel
theorem dX4_readsPlaces_134 : decode cX4_readsPlaces 134 = .ok (.iload_n 1, 1) := by decide +kernel
theorem dX4_readsPlaces_135 : decode cX4_readsPlaces 135 = .ok (.iload 7, 2) := by decide +kernel
theorem dX4_readsPlaces_137 : decode cX4_readsPlaces 137 = .ok (.iadd, 1) := by decide +kernel
theorem dX4_readsPlaces_138 : decode cX4_readsPlaces 138 = .ok (.invokevirtual 105, 3) := by decide +kernel
theorem dX4_readsPlaces_141 : decode cX4_readsPlaces 141 = .ok (.iinc 7 1, 3) := by decide +kernel
theorem dX4_readsPlaces_144 : decode cX4_readsPlaces 144 = .ok (.goto (-18), 3) := by decide +kernel
theorem dX4_readsPlaces_147 : decode cX4_readsPlaces 147 = .ok (.iinc 5 1, 3) := by decide +kernel
theorem dX4_readsPlaces_150 : decode cX4_readsPlaces 150 = .ok (.goto (-113), 3) := by decide +kernel
theorem dX4_readsPlaces_153 : decode cX4_readsPlaces 153 = .ok (.iconst 1, 1) := by decide +kernel
theorem dX4_readsPlaces_154 : decode cX4_readsPlaces 154 = .ok (.ireturn, 1) := by decide +kernel
set_option maxRecDepth 20000 in
theorem ggX4_readsBitmap_X4_next : GoodIn wsX4_readsBitmap wsX4_next := goodIn_r _ [6, 1, 7, 8, 14, 15, 16, 17, 18, 19, 20, 21] (by decide +kernel) (by decide +kernel)
set_option maxRecDepth 20000 in
theorem gX4_readsBitmap_X4_next : GoodIn wsX4_readsBitmap (wsV RX4 101 RX4 yX4_next wsX4_next) := goodIn_app (goodIn_of _ (by decide +kernel)) ggX4_readsBitmap_X4_next
set_option maxRecDepth 20000 in
theorem ggX4_readsBitmap_X4_takes : GoodIn wsX4_readsBitmap wsX4_takes := goodIn_r _ [12, 13, 14, 15, 16, 17, 18, 19, 20, 21] (by decide +kernel) (by decide +kernel)
set_option maxRecDepth 20000 in
theorem gX4_readsBitmap_X4_takes : GoodIn wsX4_readsBitmap (wsV RX4 105 RX4 yX4_takes wsX4_takes) := goodIn_app (goodIn_of _ (by decide +kernel)) ggX4_readsBitmap_X4_takes
theorem dX4_readsBitmap_0 : decode cX4_readsBitmap 0 = .ok (.iconst 0, 1) := by decide +kernel
theorem dX4_readsBitmap_1 : decode cX4_readsBitmap 1 = .ok (.istore_n 2, 1) := by decide +kernel
theorem dX4_readsBitmap_2 : decode cX4_readsBitmap 2 = .ok (.iload_n 2, 1) := by decide +kernel
theorem dX4_readsBitmap_3 : decode cX4_readsBitmap 3 = .ok (.bipush 32, 2) := by decide +kernel
theorem dX4_readsBitmap_5 : decode cX4_readsBitmap 5 = .ok (.if_icmp .ge 66, 3) := by decide +kernel
theorem dX4_readsBitmap_8 : decode cX4_readsBitmap 8 = .ok (.aload_n 0, 1) := by decide +kernel
theorem dX4_readsBitmap_9 : decode cX4_readsBitmap 9 = .ok (.invokevirtual 101, 3) := by decide +kernel
theorem dX4_readsBitmap_12 : decode cX4_readsBitmap 12 = .ok (.ifCond .ge 5, 3) := by decide +kernel
theorem dX4_readsBitmap_15 : decode cX4_readsBitmap 15 = .ok (.iconst 0, 1) := by decide +kernel
theorem dX4_readsBitmap_16 : decode cX4_readsBitmap 16 = .ok (.ireturn, 1) := by decide +kernel
theorem dX4_readsBitmap_17 : decode cX4_readsBitmap 17 = .ok (.iconst 0, 1) := by decide +kernel
theorem dX4_readsBitmap_18 : decode cX4_readsBitmap 18 = .ok (.istore_n 3, 1) := by decide +kernel
theorem dX4_readsBitmap_19 : decode cX4_readsBitmap 19 = .ok (.iload_n 3, 1) := by decide +kernel
theorem dX4_readsBitmap_20 : decode cX4_readsBitmap 20 = .ok (.bipush 8, 2) := by decide +kernel
theorem dX4_readsBitmap_22 : decode cX4_readsBitmap 22 = .ok (.if_icmp .ge 33, 3) := by decide +kernel
theorem dX4_readsBitmap_25 : decode cX4_readsBitmap 25 = .ok (.aload_n 0, 1) := by decide +kernel
theorem dX4_readsBitmap_26 : decode cX4_readsBitmap 26 = .ok (.invokevirtual 101, 3) := by decide +kernel
theorem dX4_readsBitmap_29 : decode cX4_readsBitmap 29 = .ok (.iload_n 3, 1) := by decide +kernel
theorem dX4_readsBitmap_30 : decode cX4_readsBitmap 30 = .ok (.ishr, 1) := by decide +kernel
theorem dX4_readsBitmap_31 : decode cX4_readsBitmap 31 = .ok (.iconst 1, 1) := by decide +kernel
theorem dX4_readsBitmap_32 : decode cX4_readsBitmap 32 = .ok (.iand, 1) := by decide +kernel
theorem dX4_readsBitmap_33 : decode cX4_readsBitmap 33 = .ok (.iconst 1, 1) := by decide +kernel
theorem dX4_readsBitmap_34 : decode cX4_readsBitmap 34 = .ok (.if_icmp .ne 15, 3) := by decide +kernel
theorem dX4_readsBitmap_37 : decode cX4_readsBitmap 37 = .ok (.aload_n 0, 1) := by decide +kernel
theorem dX4_readsBitmap_38 : decode cX4_readsBitmap 38 = .ok (.iload_n 1, 1) := by decide +kernel
theorem dX4_readsBitmap_39 : decode cX4_readsBitmap 39 = .ok (.bipush 8, 2) := by decide +kernel
theorem dX4_readsBitmap_41 : decode cX4_readsBitmap 41 = .ok (.iload_n 2, 1) := by decide +kernel
theorem dX4_readsBitmap_42 : decode cX4_readsBitmap 42 = .ok (.imul, 1) := by decide +kernel
theorem dX4_readsBitmap_43 : decode cX4_readsBitmap 43 = .ok (.iadd, 1) := by decide +kernel
theorem dX4_readsBitmap_44 : decode cX4_readsBitmap 44 = .ok (.iload_n 3, 1) := by decide +kernel
theorem dX4_readsBitmap_45 : decode cX4_readsBitmap 45 = .ok (.iadd, 1) := by decide +kernel
theorem dX4_readsBitmap_46 : decode cX4_readsBitmap 46 = .ok (.invokevirtual 105, 3) := by decide +kernel
theorem dX4_readsBitmap_49 : decode cX4_readsBitmap 49 = .ok (.iinc 3 1, 3) := by decide +kernel
theorem dX4_readsBitmap_52 : decode cX4_readsBitmap 52 = .ok (.goto (-33), 3) := by decide +kernel
theorem dX4_readsBitmap_55 : decode cX4_readsBitmap 55 = .ok (.aload_n 0, 1) := by decide +kernel
theorem dX4_readsBitmap_56 : decode cX4_readsBitmap 56 = .ok (.dup, 1) := by decide +kernel
theorem dX4_readsBitmap_57 : decode cX4_readsBitmap 57 = .ok (.getfield 98, 3) := by decide +kernel
theorem dX4_readsBitmap_60 : decode cX4_readsBitmap 60 = .ok (.iconst 1, 1) := by decide +kernel
theorem dX4_readsBitmap_61 : decode cX4_readsBitmap 61 = .ok (.iadd, 1) := by decide +kernel
theorem dX4_readsBitmap_62 : decode cX4_readsBitmap 62 = .ok (.putfield 98, 3) := by decide +kernel
theorem dX4_readsBitmap_65 : decode cX4_readsBitmap 65 = .ok (.iinc 2 1, 3) := by decide +kernel
theorem dX4_readsBitmap_68 : decode cX4_readsBitmap 68 = .ok (.goto (-66), 3) := by decide +kernel
theorem dX4_readsBitmap_71 : decode cX4_readsBitmap 71 = .ok (.iconst 1, 1) := by decide +kernel
theorem dX4_readsBitmap_72 : decode cX4_readsBitmap 72 = .ok (.ireturn, 1) := by decide +kernel
set_option maxRecDepth 20000 in
theorem ggX4_isKind_X4_kindBy : GoodIn wsX4_isKind wsX4_kindBy := goodIn_r _ [5] (by decide +kernel) (by decide +kernel)
set_option maxRecDepth 20000 in
theorem gX4_isKind_X4_kindBy : GoodIn wsX4_isKind (va_wsS RX4 37 yX4_kindBy wsX4_kindBy) := goodIn_app (goodIn_of _ (by decide +kernel)) ggX4_isKind_X4_kindBy
theorem dX4_isKind_0 : decode cX4_isKind 0 = .ok (.iconst 0, 1) := by decide +kernel
theorem dX4_isKind_1 : decode cX4_isKind 1 = .ok (.istore_n 3, 1) := by decide +kernel
theorem dX4_isKind_2 : decode cX4_isKind 2 = .ok (.iconst 0, 1) := by decide +kernel
theorem dX4_isKind_3 : decode cX4_isKind 3 = .ok (.istore 4, 2) := by decide +kernel
theorem dX4_isKind_5 : decode cX4_isKind 5 = .ok (.iconst 0, 1) := by decide +kernel
theorem dX4_isKind_6 : decode cX4_isKind 6 = .ok (.istore 5, 2) := by decide +kernel
theorem dX4_isKind_8 : decode cX4_isKind 8 = .ok (.sipush 256, 3) := by decide +kernel
theorem dX4_isKind_11 : decode cX4_isKind 11 = .ok (.iload_n 1, 1) := by decide +kernel
theorem dX4_isKind_12 : decode cX4_isKind 12 = .ok (.imul, 1) := by decide +kernel
theorem dX4_isKind_13 : decode cX4_isKind 13 = .ok (.istore 6, 2) := by decide +kernel
theorem dX4_isKind_15 : decode cX4_isKind 15 = .ok (.iload 6, 2) := by decide +kernel
theorem dX4_isKind_17 : decode cX4_isKind 17 = .ok (.sipush 256, 3) := by decide +kernel
theorem dX4_isKind_20 : decode cX4_isKind 20 = .ok (.iload_n 1, 1) := by decide +kernel
theorem dX4_isKind_21 : decode cX4_isKind 21 = .ok (.imul, 1) := by decide +kernel
theorem dX4_isKind_22 : decode cX4_isKind 22 = .ok (.sipush 256, 3) := by decide +kernel
theorem dX4_isKind_25 : decode cX4_isKind 25 = .ok (.iadd, 1) := by decide +kernel
theorem dX4_isKind_26 : decode cX4_isKind 26 = .ok (.if_icmp .ge 75, 3) := by decide +kernel
theorem dX4_isKind_29 : decode cX4_isKind 29 = .ok (.aload_n 0, 1) := by decide +kernel
theorem dX4_isKind_30 : decode cX4_isKind 30 = .ok (.getfield 22, 3) := by decide +kernel
theorem dX4_isKind_33 : decode cX4_isKind 33 = .ok (.iload 6, 2) := by decide +kernel
theorem dX4_isKind_35 : decode cX4_isKind 35 = .ok (.bipush 32, 2) := by decide +kernel
theorem dX4_isKind_37 : decode cX4_isKind 37 = .ok (.idiv, 1) := by decide +kernel
theorem dX4_isKind_38 : decode cX4_isKind 38 = .ok (.iaload, 1) := by decide +kernel
theorem dX4_isKind_39 : decode cX4_isKind 39 = .ok (.iload 6, 2) := by decide +kernel
theorem dX4_isKind_41 : decode cX4_isKind 41 = .ok (.bipush 32, 2) := by decide +kernel
theorem dX4_isKind_43 : decode cX4_isKind 43 = .ok (.irem, 1) := by decide +kernel
theorem dX4_isKind_44 : decode cX4_isKind 44 = .ok (.ishr, 1) := by decide +kernel
theorem dX4_isKind_45 : decode cX4_isKind 45 = .ok (.iconst 1, 1) := by decide +kernel
theorem dX4_isKind_46 : decode cX4_isKind 46 = .ok (.iand, 1) := by decide +kernel
theorem dX4_isKind_47 : decode cX4_isKind 47 = .ok (.iconst 1, 1) := by decide +kernel
theorem dX4_isKind_48 : decode cX4_isKind 48 = .ok (.if_icmp .ne 7, 3) := by decide +kernel
theorem dX4_isKind_51 : decode cX4_isKind 51 = .ok (.iconst 1, 1) := by decide +kernel
theorem dX4_isKind_52 : decode cX4_isKind 52 = .ok (.goto 4, 3) := by decide +kernel
theorem dX4_isKind_55 : decode cX4_isKind 55 = .ok (.iconst 0, 1) := by decide +kernel
theorem dX4_isKind_56 : decode cX4_isKind 56 = .ok (.istore 7, 2) := by decide +kernel
theorem dX4_isKind_58 : decode cX4_isKind 58 = .ok (.iload_n 3, 1) := by decide +kernel
theorem dX4_isKind_59 : decode cX4_isKind 59 = .ok (.iload 7, 2) := by decide +kernel
theorem dX4_isKind_61 : decode cX4_isKind 61 = .ok (.ifCond .eq 7, 3) := by decide +kernel
theorem dX4_isKind_64 : decode cX4_isKind 64 = .ok (.iconst 1, 1) := by decide +kernel
theorem dX4_isKind_65 : decode cX4_isKind 65 = .ok (.goto 4, 3) := by decide +kernel
theorem dX4_isKind_68 : decode cX4_isKind 68 = .ok (.iconst 0, 1) := by decide +kernel
theorem dX4_isKind_69 : decode cX4_isKind 69 = .ok (.iadd, 1) := by decide +kernel
theorem dX4_isKind_70 : decode cX4_isKind 70 = .ok (.istore_n 3, 1) := by decide +kernel
theorem dX4_isKind_71 : decode cX4_isKind 71 = .ok (.iload 4, 2) := by decide +kernel
theorem dX4_isKind_73 : decode cX4_isKind 73 = .ok (.iload 7, 2) := by decide +kernel
theorem dX4_isKind_75 : decode cX4_isKind 75 = .ok (.ifCond .eq 12, 3) := by decide +kernel
theorem dX4_isKind_78 : decode cX4_isKind 78 = .ok (.iload 5, 2) := by decide +kernel
theorem dX4_isKind_80 : decode cX4_isKind 80 = .ok (.ifCond .ne 7, 3) := by decide +kernel
theorem dX4_isKind_83 : decode cX4_isKind 83 = .ok (.iconst 1, 1) := by decide +kernel
theorem dX4_isKind_84 : decode cX4_isKind 84 = .ok (.goto 4, 3) := by decide +kernel
theorem dX4_isKind_87 : decode cX4_isKind 87 = .ok (.iconst 0, 1) := by decide +kernel
theorem dX4_isKind_88 : decode cX4_isKind 88 = .ok (.iadd, 1) := by decide +kernel
theorem dX4_isKind_89 : decode cX4_isKind 89 = .ok (.istore 4, 2) := by decide +kernel
theorem dX4_isKind_91 : decode cX4_isKind 91 = .ok (.iload 7, 2) := by decide +kernel
theorem dX4_isKind_93 : decode cX4_isKind 93 = .ok (.istore 5, 2) := by decide +kernel
theorem dX4_isKind_95 : decode cX4_isKind 95 = .ok (.iinc 6 1, 3) := by decide +kernel
theorem dX4_isKind_98 : decode cX4_isKind 98 = .ok (.goto (-83), 3) := by decide +kernel
theorem dX4_isKind_101 : decode cX4_isKind 101 = .ok (.iload_n 3, 1) := by decide +kernel
theorem dX4_isKind_102 : decode cX4_isKind 102 = .ok (.iload 4, 2) := by decide +kernel
theorem dX4_isKind_104 : decode cX4_isKind 104 = .ok (.invokestatic 37, 3) := by decide +kernel
theorem dX4_isKind_107 : decode cX4_isKind 107 = .ok (.iload_n 2, 1) := by decide +kernel
theorem dX4_isKind_108 : decode cX4_isKind 108 = .ok (.if_icmp .ne 7, 3) := by decide +kernel
theorem dX4_isKind_111 : decode cX4_isKind 111 = .ok (.iconst 1, 1) := by decide +kernel
theorem dX4_isKind_112 : decode cX4_isKind 112 = .ok (.goto 4, 3) := by decide +kernel
theorem dX4_isKind_115 : decode cX4_isKind 115 = .ok (.iconst 0, 1) := by decide +kernel
theorem dX4_isKind_116 : decode cX4_isKind 116 = .ok (.ireturn, 1) := by decide +kernel
set_option maxRecDepth 20000 in
theorem ggX4_wrongAt_X4_readsBitmap : GoodIn wsX4_wrongAt wsX4_readsBitmap := goodIn_r _ [9, 2, 10, 11, 12, 8, 13, 3, 4, 14, 15, 16, 17, 1, 29, 30, 31, 32, 33, 34, 35, 36] (by decide +kernel) (by decide +kernel)
set_option maxRecDepth 20000 in
theorem gX4_wrongAt_X4_readsBitmap : GoodIn wsX4_wrongAt (wsV RX4 108 RX4 yX4_readsBitmap wsX4_readsBitmap) := goodIn_app (goodIn_of _ (by decide +kernel)) ggX4_wrongAt_X4_readsBitmap
set_option maxRecDepth 20000 in
theorem ggX4_wrongAt_X4_readsPlaces : GoodIn wsX4_wrongAt wsX4_readsPlaces := goodIn_r _ [21, 2, 10, 11, 12, 8, 13, 3, 4, 14, 15, 16, 17, 1, 29, 30, 31, 32, 33, 34, 35, 36] (by decide +kernel) (by decide +kernel)
set_option maxRecDepth 20000 in
theorem gX4_wrongAt_X4_readsPlaces : GoodIn wsX4_wrongAt (wsV RX4 111 RX4 yX4_readsPlaces wsX4_readsPlaces) := goodIn_app (goodIn_of _ (by decide +kernel)) ggX4_wrongAt_X4_readsPlaces
set_option maxRecDepth 20000 in
theorem ggX4_wrongAt_X4_isKind : GoodIn wsX4_wrongAt wsX4_isKind := goodIn_r _ [25, 1, 26, 27, 8, 28, 29, 30, 31, 32, 33, 34, 35, 36] (by decide +kernel) (by decide +kernel)
set_option maxRecDepth 20000 in
theorem gX4_wrongAt_X4_isKind : GoodIn wsX4_wrongAt (wsV RX4 115 RX4 yX4_isKind wsX4_isKind) := goodIn_app (goodIn_of _ (by decide +kernel)) ggX4_wrongAt_X4_isKind
theorem dX4_wrongAt_0 : decode cX4_wrongAt 0 = .ok (.iconst 0, 1) := by decide +kernel
theorem dX4_wrongAt_1 : decode cX4_wrongAt 1 = .ok (.istore_n 1, 1) := by decide +kernel
theorem dX4_wrongAt_2 : decode cX4_wrongAt 2 = .ok (.iload_n 1, 1) := by decide +kernel
theorem dX4_wrongAt_3 : decode cX4_wrongAt 3 = .ok (.sipush 128, 3) := by decide +kernel
theorem dX4_wrongAt_6 : decode cX4_wrongAt 6 = .ok (.if_icmp .ge 16, 3) := by decide +kernel
theorem dX4_wrongAt_9 : decode cX4_wrongAt 9 = .ok (.aload_n 0, 1) := by decide +kernel
theorem dX4_wrongAt_10 : decode cX4_wrongAt 10 = .ok (.getfield 22, 3) := by decide +kernel
theorem dX4_wrongAt_13 : decode cX4_wrongAt 13 = .ok (.iload_n 1, 1) := by decide +kernel
theorem dX4_wrongAt_14 : decode cX4_wrongAt 14 = .ok (.iconst 0, 1) := by decide +kernel
theorem dX4_wrongAt_15 : decode cX4_wrongAt 15 = .ok (.iastore, 1) := by decide +kernel
theorem dX4_wrongAt_16 : decode cX4_wrongAt 16 = .ok (.iinc 1 1, 3) := by decide +kernel
theorem dX4_wrongAt_19 : decode cX4_wrongAt 19 = .ok (.goto (-17), 3) := by decide +kernel
theorem dX4_wrongAt_22 : decode cX4_wrongAt 22 = .ok (.aload_n 0, 1) := by decide +kernel
theorem dX4_wrongAt_23 : decode cX4_wrongAt 23 = .ok (.iconst 0, 1) := by decide +kernel
theorem dX4_wrongAt_24 : decode cX4_wrongAt 24 = .ok (.putfield 98, 3) := by decide +kernel
theorem dX4_wrongAt_27 : decode cX4_wrongAt 27 = .ok (.iconst (-1), 1) := by decide +kernel
theorem dX4_wrongAt_28 : decode cX4_wrongAt 28 = .ok (.istore_n 1, 1) := by decide +kernel
theorem dX4_wrongAt_29 : decode cX4_wrongAt 29 = .ok (.aload_n 0, 1) := by decide +kernel
theorem dX4_wrongAt_30 : decode cX4_wrongAt 30 = .ok (.getfield 98, 3) := by decide +kernel
theorem dX4_wrongAt_33 : decode cX4_wrongAt 33 = .ok (.aload_n 0, 1) := by decide +kernel
theorem dX4_wrongAt_34 : decode cX4_wrongAt 34 = .ok (.getfield 95, 3) := by decide +kernel
theorem dX4_wrongAt_37 : decode cX4_wrongAt 37 = .ok (.if_icmp .ge 140, 3) := by decide +kernel
theorem dX4_wrongAt_40 : decode cX4_wrongAt 40 = .ok (.aload_n 0, 1) := by decide +kernel
theorem dX4_wrongAt_41 : decode cX4_wrongAt 41 = .ok (.getfield 98, 3) := by decide +kernel
theorem dX4_wrongAt_44 : decode cX4_wrongAt 44 = .ok (.istore_n 2, 1) := by decide +kernel
theorem dX4_wrongAt_45 : decode cX4_wrongAt 45 = .ok (.aload_n 0, 1) := by decide +kernel
theorem dX4_wrongAt_46 : decode cX4_wrongAt 46 = .ok (.getfield 19, 3) := by decide +kernel
theorem dX4_wrongAt_49 : decode cX4_wrongAt 49 = .ok (.aload_n 0, 1) := by decide +kernel
theorem dX4_wrongAt_50 : decode cX4_wrongAt 50 = .ok (.getfield 98, 3) := by decide +kernel
theorem dX4_wrongAt_53 : decode cX4_wrongAt 53 = .ok (.iaload, 1) := by decide +kernel
theorem dX4_wrongAt_54 : decode cX4_wrongAt 54 = .ok (.iconst 4, 1) := by decide +kernel
theorem dX4_wrongAt_55 : decode cX4_wrongAt 55 = .ok (.idiv, 1) := by decide +kernel
theorem dX4_wrongAt_56 : decode cX4_wrongAt 56 = .ok (.istore_n 3, 1) := by decide +kernel
theorem dX4_wrongAt_57 : decode cX4_wrongAt 57 = .ok (.aload_n 0, 1) := by decide +kernel
theorem dX4_wrongAt_58 : decode cX4_wrongAt 58 = .ok (.getfield 19, 3) := by decide +kernel
theorem dX4_wrongAt_61 : decode cX4_wrongAt 61 = .ok (.aload_n 0, 1) := by decide +kernel
theorem dX4_wrongAt_62 : decode cX4_wrongAt 62 = .ok (.getfield 98, 3) := by decide +kernel
theorem dX4_wrongAt_65 : decode cX4_wrongAt 65 = .ok (.iaload, 1) := by decide +kernel
theorem dX4_wrongAt_66 : decode cX4_wrongAt 66 = .ok (.iconst 4, 1) := by decide +kernel
theorem dX4_wrongAt_67 : decode cX4_wrongAt 67 = .ok (.irem, 1) := by decide +kernel
theorem dX4_wrongAt_68 : decode cX4_wrongAt 68 = .ok (.istore 4, 2) := by decide +kernel
theorem dX4_wrongAt_70 : decode cX4_wrongAt 70 = .ok (.aload_n 0, 1) := by decide +kernel
theorem dX4_wrongAt_71 : decode cX4_wrongAt 71 = .ok (.getfield 19, 3) := by decide +kernel
theorem dX4_wrongAt_74 : decode cX4_wrongAt 74 = .ok (.aload_n 0, 1) := by decide +kernel
theorem dX4_wrongAt_75 : decode cX4_wrongAt 75 = .ok (.getfield 98, 3) := by decide +kernel
theorem dX4_wrongAt_78 : decode cX4_wrongAt 78 = .ok (.iaload, 1) := by decide +kernel
theorem dX4_wrongAt_79 : decode cX4_wrongAt 79 = .ok (.bipush 63, 2) := by decide +kernel
theorem dX4_wrongAt_81 : decode cX4_wrongAt 81 = .ok (.if_icmp .gt 14, 3) := by decide +kernel
theorem dX4_wrongAt_84 : decode cX4_wrongAt 84 = .ok (.iload 4, 2) := by decide +kernel
theorem dX4_wrongAt_86 : decode cX4_wrongAt 86 = .ok (.iconst 3, 1) := by decide +kernel
theorem dX4_wrongAt_87 : decode cX4_wrongAt 87 = .ok (.if_icmp .eq 8, 3) := by decide +kernel
theorem dX4_wrongAt_90 : decode cX4_wrongAt 90 = .ok (.iload_n 3, 1) := by decide +kernel
theorem dX4_wrongAt_91 : decode cX4_wrongAt 91 = .ok (.iload_n 1, 1) := by decide +kernel
theorem dX4_wrongAt_92 : decode cX4_wrongAt 92 = .ok (.if_icmp .gt 8, 3) := by decide +kernel
theorem dX4_wrongAt_95 : decode cX4_wrongAt 95 = .ok (.aload_n 0, 1) := by decide +kernel
theorem dX4_wrongAt_96 : decode cX4_wrongAt 96 = .ok (.getfield 98, 3) := by decide +kernel
theorem dX4_wrongAt_99 : decode cX4_wrongAt 99 = .ok (.ireturn, 1) := by decide +kernel
theorem dX4_wrongAt_100 : decode cX4_wrongAt 100 = .ok (.aload_n 0, 1) := by decide +kernel
theorem dX4_wrongAt_101 : decode cX4_wrongAt 101 = .ok (.dup, 1) := by decide +kernel
theorem dX4_wrongAt_102 : decode cX4_wrongAt 102 = .ok (.getfield 98, 3) := by decide +kernel
theorem dX4_wrongAt_105 : decode cX4_wrongAt 105 = .ok (.iconst 1, 1) := by decide +kernel
theorem dX4_wrongAt_106 : decode cX4_wrongAt 106 = .ok (.iadd, 1) := by decide +kernel
theorem dX4_wrongAt_107 : decode cX4_wrongAt 107 = .ok (.putfield 98, 3) := by decide +kernel
theorem dX4_wrongAt_110 : decode cX4_wrongAt 110 = .ok (.iload 4, 2) := by decide +kernel
theorem dX4_wrongAt_112 : decode cX4_wrongAt 112 = .ok (.iconst 2, 1) := by decide +kernel
theorem dX4_wrongAt_113 : decode cX4_wrongAt 113 = .ok (.if_icmp .ne 15, 3) := by decide +kernel
theorem dX4_wrongAt_116 : decode cX4_wrongAt 116 = .ok (.aload_n 0, 1) := by decide +kernel
theorem dX4_wrongAt_117 : decode cX4_wrongAt 117 = .ok (.sipush 256, 3) := by decide +kernel
theorem dX4_wrongAt_120 : decode cX4_wrongAt 120 = .ok (.iload_n 3, 1) := by decide +kernel
theorem dX4_wrongAt_121 : decode cX4_wrongAt 121 = .ok (.imul, 1) := by decide +kernel
theorem dX4_wrongAt_122 : decode cX4_wrongAt 122 = .ok (.invokevirtual 108, 3) := by decide +kernel
theorem dX4_wrongAt_125 : decode cX4_wrongAt 125 = .ok (.goto 23, 3) := by decide +kernel
theorem dX4_wrongAt_128 : decode cX4_wrongAt 128 = .ok (.aload_n 0, 1) := by decide +kernel
theorem dX4_wrongAt_129 : decode cX4_wrongAt 129 = .ok (.sipush 256, 3) := by decide +kernel
theorem dX4_wrongAt_132 : decode cX4_wrongAt 132 = .ok (.iload_n 3, 1) := by decide +kernel
theorem dX4_wrongAt_133 : decode cX4_wrongAt 133 = .ok (.imul, 1) := by decide +kernel
theorem dX4_wrongAt_134 : decode cX4_wrongAt 134 = .ok (.iload 4, 2) := by decide +kernel
theorem dX4_wrongAt_136 : decode cX4_wrongAt 136 = .ok (.iconst 1, 1) := by decide +kernel
theorem dX4_wrongAt_137 : decode cX4_wrongAt 137 = .ok (.if_icmp .ne 7, 3) := by decide +kernel
theorem dX4_wrongAt_140 : decode cX4_wrongAt 140 = .ok (.iconst 1, 1) := by decide +kernel
theorem dX4_wrongAt_141 : decode cX4_wrongAt 141 = .ok (.goto 4, 3) := by decide +kernel
theorem dX4_wrongAt_144 : decode cX4_wrongAt 144 = .ok (.iconst 0, 1) := by decide +kernel
theorem dX4_wrongAt_145 : decode cX4_wrongAt 145 = .ok (.invokevirtual 111, 3) := by decide +kernel
theorem dX4_wrongAt_148 : decode cX4_wrongAt 148 = .ok (.istore 5, 2) := by decide +kernel
theorem dX4_wrongAt_150 : decode cX4_wrongAt 150 = .ok (.iload 5, 2) := by decide +kernel
theorem dX4_wrongAt_152 : decode cX4_wrongAt 152 = .ok (.ifCond .ne 8, 3) := by decide +kernel
theorem dX4_wrongAt_155 : decode cX4_wrongAt 155 = .ok (.aload_n 0, 1) := by decide +kernel
theorem dX4_wrongAt_156 : decode cX4_wrongAt 156 = .ok (.getfield 98, 3) := by decide +kernel
theorem dX4_wrongAt_159 : decode cX4_wrongAt 159 = .ok (.ireturn, 1) := by decide +kernel
theorem dX4_wrongAt_160 : decode cX4_wrongAt 160 = .ok (.aload_n 0, 1) := by decide +kernel
theorem dX4_wrongAt_161 : decode cX4_wrongAt 161 = .ok (.iload_n 3, 1) := by decide +kernel
theorem dX4_wrongAt_162 : decode cX4_wrongAt 162 = .ok (.iload 4, 2) := by decide +kernel
theorem dX4_wrongAt_164 : decode cX4_wrongAt 164 = .ok (.invokevirtual 115, 3) := by decide +kernel
theorem dX4_wrongAt_167 : decode cX4_wrongAt 167 = .ok (.ifCond .ne 5, 3) := by decide +kernel
theorem dX4_wrongAt_170 : decode cX4_wrongAt 170 = .ok (.iload_n 2, 1) := by decide +kernel
theorem dX4_wrongAt_171 : decode cX4_wrongAt 171 = .ok (.ireturn, 1) := by decide +kernel
theorem dX4_wrongAt_172 : decode cX4_wrongAt 172 = .ok (.iload_n 3, 1) := by decide +kernel
theorem dX4_wrongAt_173 : decode cX4_wrongAt 173 = .ok (.istore_n 1, 1) := by decide +kernel
theorem dX4_wrongAt_174 : decode cX4_wrongAt 174 = .ok (.goto (-145), 3) := by decide +kernel
theorem dX4_wrongAt_177 : decode cX4_wrongAt 177 = .ok (.iconst (-1), 1) := by decide +kernel
theorem dX4_wrongAt_178 : decode cX4_wrongAt 178 = .ok (.ireturn, 1) := by decide +kernel
set_option maxRecDepth 20000 in
theorem ggX4_read_X4_isSet : GoodIn wsX4_read wsX4_isSet := goodIn_r _ [7, 8, 9, 6, 10] (by decide +kernel) (by decide +kernel)
set_option maxRecDepth 20000 in
theorem gX4_read_X4_isSet : GoodIn wsX4_read (va_wsS RX4 55 yX4_isSet wsX4_isSet) := goodIn_app (goodIn_of _ (by decide +kernel)) ggX4_read_X4_isSet
set_option maxRecDepth 20000 in
theorem ggX4_read_X4_wrongAt : GoodIn wsX4_read wsX4_wrongAt := goodIn_r _ [14, 2, 15, 3, 16, 17, 18, 19, 6, 20, 21, 22, 23, 24, 25, 26, 27, 28, 29, 30, 31, 32, 33, 34, 35, 36, 37, 38, 39, 71, 72, 73, 74, 75, 76, 77, 78] (by decide +kernel) (by decide +kernel)
set_option maxRecDepth 20000 in
theorem gX4_read_X4_wrongAt : GoodIn wsX4_read (wsV RX4 118 RX4 yX4_wrongAt wsX4_wrongAt) := goodIn_app (goodIn_of _ (by decide +kernel)) ggX4_read_X4_wrongAt
set_option maxRecDepth 20000 in
theorem ggX4_read_X4_act : GoodIn wsX4_read wsX4_act := goodIn_r _ [43, 44, 45, 1, 46, 71, 72, 73, 74, 75, 76, 77, 78] (by decide +kernel) (by decide +kernel)
set_option maxRecDepth 20000 in
theorem gX4_read_X4_act : GoodIn wsX4_read (wsV RX4 59 RX4 yX4_act wsX4_act) := goodIn_app (goodIn_of _ (by decide +kernel)) ggX4_read_X4_act
set_option maxRecDepth 20000 in
theorem ggX4_read_X4_converts : GoodIn wsX4_read wsX4_converts := goodIn_r _ [50, 46, 1, 51, 52, 6, 53, 54, 55, 56, 57, 58, 59, 60, 61, 62, 37, 38, 39, 71, 72, 73, 74, 75, 76, 77, 78] (by decide +kernel) (by decide +kernel)
set_option maxRecDepth 20000 in
theorem gX4_read_X4_converts : GoodIn wsX4_read (wsV RX4 66 RX4 yX4_converts wsX4_converts) := goodIn_app (goodIn_of _ (by decide +kernel)) ggX4_read_X4_converts
set_option maxRecDepth 20000 in
theorem ggX4_read_X4_sizeOf : GoodIn wsX4_read wsX4_sizeOf := goodIn_r _ [66, 67, 68, 69, 6, 70, 1, 57, 58, 59, 71, 72, 73, 74, 75, 76, 77, 78] (by decide +kernel) (by decide +kernel)
set_option maxRecDepth 20000 in
theorem gX4_read_X4_sizeOf : GoodIn wsX4_read (wsV RX4 78 RX4 yX4_sizeOf wsX4_sizeOf) := goodIn_app (goodIn_of _ (by decide +kernel)) ggX4_read_X4_sizeOf
theorem dX4_read_0 : decode cX4_read 0 = .ok (.iload_n 1, 1) := by decide +kernel
theorem dX4_read_1 : decode cX4_read 1 = .ok (.invokestatic 55, 3) := by decide +kernel
theorem dX4_read_4 : decode cX4_read 4 = .ok (.ifCond .ne 5, 3) := by decide +kernel
theorem dX4_read_7 : decode cX4_read 7 = .ok (.iconst (-1), 1) := by decide +kernel
theorem dX4_read_8 : decode cX4_read 8 = .ok (.ireturn, 1) := by decide +kernel
theorem dX4_read_9 : decode cX4_read 9 = .ok (.aload_n 0, 1) := by decide +kernel
theorem dX4_read_10 : decode cX4_read 10 = .ok (.invokevirtual 118, 3) := by decide +kernel
theorem dX4_read_13 : decode cX4_read 13 = .ok (.istore_n 2, 1) := by decide +kernel
theorem dX4_read_14 : decode cX4_read 14 = .ok (.iload_n 2, 1) := by decide +kernel
theorem dX4_read_15 : decode cX4_read 15 = .ok (.ifCond .lt 8, 3) := by decide +kernel
theorem dX4_read_18 : decode cX4_read 18 = .ok (.bipush (-100), 2) := by decide +kernel
theorem dX4_read_20 : decode cX4_read 20 = .ok (.iload_n 2, 1) := by decide +kernel
theorem dX4_read_21 : decode cX4_read 21 = .ok (.isub, 1) := by decide +kernel
theorem dX4_read_22 : decode cX4_read 22 = .ok (.ireturn, 1) := by decide +kernel
theorem dX4_read_23 : decode cX4_read 23 = .ok (.aload_n 0, 1) := by decide +kernel
theorem dX4_read_24 : decode cX4_read 24 = .ok (.invokevirtual 59, 3) := by decide +kernel
theorem dX4_read_27 : decode cX4_read 27 = .ok (.iconst 0, 1) := by decide +kernel
theorem dX4_read_28 : decode cX4_read 28 = .ok (.istore_n 3, 1) := by decide +kernel
theorem dX4_read_29 : decode cX4_read 29 = .ok (.iload_n 3, 1) := by decide +kernel
theorem dX4_read_30 : decode cX4_read 30 = .ok (.sipush 128, 3) := by decide +kernel
theorem dX4_read_33 : decode cX4_read 33 = .ok (.if_icmp .ge 27, 3) := by decide +kernel
theorem dX4_read_36 : decode cX4_read 36 = .ok (.aload_n 0, 1) := by decide +kernel
theorem dX4_read_37 : decode cX4_read 37 = .ok (.getfield 7, 3) := by decide +kernel
theorem dX4_read_40 : decode cX4_read 40 = .ok (.sipush 128, 3) := by decide +kernel
theorem dX4_read_43 : decode cX4_read 43 = .ok (.iload_n 1, 1) := by decide +kernel
theorem dX4_read_44 : decode cX4_read 44 = .ok (.imul, 1) := by decide +kernel
theorem dX4_read_45 : decode cX4_read 45 = .ok (.iload_n 3, 1) := by decide +kernel
theorem dX4_read_46 : decode cX4_read 46 = .ok (.iadd, 1) := by decide +kernel
theorem dX4_read_47 : decode cX4_read 47 = .ok (.aload_n 0, 1) := by decide +kernel
theorem dX4_read_48 : decode cX4_read 48 = .ok (.getfield 22, 3) := by decide +kernel
theorem dX4_read_51 : decode cX4_read 51 = .ok (.iload_n 3, 1) := by decide +kernel
theorem dX4_read_52 : decode cX4_read 52 = .ok (.iaload, 1) := by decide +kernel
theorem dX4_read_53 : decode cX4_read 53 = .ok (.iastore, 1) := by decide +kernel
theorem dX4_read_54 : decode cX4_read 54 = .ok (.iinc 3 1, 3) := by decide +kernel
theorem dX4_read_57 : decode cX4_read 57 = .ok (.goto (-28), 3) := by decide +kernel
theorem dX4_read_60 : decode cX4_read 60 = .ok (.aload_n 0, 1) := by decide +kernel
theorem dX4_read_61 : decode cX4_read 61 = .ok (.iconst 0, 1) := by decide +kernel
theorem dX4_read_62 : decode cX4_read 62 = .ok (.putfield 95, 3) := by decide +kernel
theorem dX4_read_65 : decode cX4_read 65 = .ok (.aload_n 0, 1) := by decide +kernel
theorem dX4_read_66 : decode cX4_read 66 = .ok (.iload_n 1, 1) := by decide +kernel
theorem dX4_read_67 : decode cX4_read 67 = .ok (.invokevirtual 66, 3) := by decide +kernel
theorem dX4_read_70 : decode cX4_read 70 = .ok (.aload_n 0, 1) := by decide +kernel
theorem dX4_read_71 : decode cX4_read 71 = .ok (.iload_n 1, 1) := by decide +kernel
theorem dX4_read_72 : decode cX4_read 72 = .ok (.invokevirtual 78, 3) := by decide +kernel
theorem dX4_read_75 : decode cX4_read 75 = .ok (.ireturn, 1) := by decide +kernel
set_option maxRecDepth 20000 in
theorem ggX4_comparison_X4_has : GoodIn wsX4_comparison wsX4_has := goodIn_r _ [5, 6, 7, 8, 4, 9, 10, 11, 12, 13, 14, 15, 16, 17] (by decide +kernel) (by decide +kernel)
set_option maxRecDepth 20000 in
theorem gX4_comparison_X4_has : GoodIn wsX4_comparison (wsV RX4 51 RX4 yX4_has wsX4_has) := goodIn_app (goodIn_of _ (by decide +kernel)) ggX4_comparison_X4_has
theorem dX4_comparison_0 : decode cX4_comparison 0 = .ok (.iconst 0, 1) := by decide +kernel
theorem dX4_comparison_1 : decode cX4_comparison 1 = .ok (.istore 4, 2) := by decide +kernel
theorem dX4_comparison_3 : decode cX4_comparison 3 = .ok (.iconst 0, 1) := by decide +kernel
theorem dX4_comparison_4 : decode cX4_comparison 4 = .ok (.istore 5, 2) := by decide +kernel
theorem dX4_comparison_6 : decode cX4_comparison 6 = .ok (.iconst 0, 1) := by decide +kernel
theorem dX4_comparison_7 : decode cX4_comparison 7 = .ok (.istore 6, 2) := by decide +kernel
theorem dX4_comparison_9 : decode cX4_comparison 9 = .ok (.bipush (-9), 2) := by decide +kernel
theorem dX4_comparison_11 : decode cX4_comparison 11 = .ok (.istore 7, 2) := by decide +kernel
theorem dX4_comparison_13 : decode cX4_comparison 13 = .ok (.iconst 0, 1) := by decide +kernel
theorem dX4_comparison_14 : decode cX4_comparison 14 = .ok (.istore 8, 2) := by decide +kernel
theorem dX4_comparison_16 : decode cX4_comparison 16 = .ok (.iconst 0, 1) := by decide +kernel
theorem dX4_comparison_17 : decode cX4_comparison 17 = .ok (.istore 9, 2) := by decide +kernel
theorem dX4_comparison_19 : decode cX4_comparison 19 = .ok (.iload 9, 2) := by decide +kernel
theorem dX4_comparison_21 : decode cX4_comparison 21 = .ok (.bipush 16, 2) := by decide +kernel
theorem dX4_comparison_23 : decode cX4_comparison 23 = .ok (.if_icmp .ge 155, 3) := by decide +kernel
theorem dX4_comparison_26 : decode cX4_comparison 26 = .ok (.iload 5, 2) := by decide +kernel
theorem dX4_comparison_28 : decode cX4_comparison 28 = .ok (.istore 10, 2) := by decide +kernel
theorem dX4_comparison_30 : decode cX4_comparison 30 = .ok (.sipush 256, 3) := by decide +kernel
theorem dX4_comparison_33 : decode cX4_comparison 33 = .ok (.iload 9, 2) := by decide +kernel
theorem dX4_comparison_35 : decode cX4_comparison 35 = .ok (.imul, 1) := by decide +kernel
theorem dX4_comparison_36 : decode cX4_comparison 36 = .ok (.istore 11, 2) := by decide +kernel
theorem dX4_comparison_38 : decode cX4_comparison 38 = .ok (.iload 11, 2) := by decide +kernel
theorem dX4_comparison_40 : decode cX4_comparison 40 = .ok (.sipush 256, 3) := by decide +kernel
theorem dX4_comparison_43 : decode cX4_comparison 43 = .ok (.iload 9, 2) := by decide +kernel
theorem dX4_comparison_45 : decode cX4_comparison 45 = .ok (.imul, 1) := by decide +kernel
theorem dX4_comparison_46 : decode cX4_comparison 46 = .ok (.sipush 256, 3) := by decide +kernel
theorem dX4_comparison_49 : decode cX4_comparison 49 = .ok (.iadd, 1) := by decide +kernel
theorem dX4_comparison_50 : decode cX4_comparison 50 = .ok (.if_icmp .ge 105, 3) := by decide +kernel
theorem dX4_comparison_53 : decode cX4_comparison 53 = .ok (.aload_n 0, 1) := by decide +kernel
theorem dX4_comparison_54 : decode cX4_comparison 54 = .ok (.iload_n 1, 1) := by decide +kernel
theorem dX4_comparison_55 : decode cX4_comparison 55 = .ok (.iload 11, 2) := by decide +kernel
theorem dX4_comparison_57 : decode cX4_comparison 57 = .ok (.invokevirtual 51, 3) := by decide +kernel
theorem dX4_comparison_60 : decode cX4_comparison 60 = .ok (.istore 12, 2) := by decide +kernel
theorem dX4_comparison_62 : decode cX4_comparison 62 = .ok (.aload_n 0, 1) := by decide +kernel
theorem dX4_comparison_63 : decode cX4_comparison 63 = .ok (.iload_n 2, 1) := by decide +kernel
theorem dX4_comparison_64 : decode cX4_comparison 64 = .ok (.iload 11, 2) := by decide +kernel
theorem dX4_comparison_66 : decode cX4_comparison 66 = .ok (.invokevirtual 51, 3) := by decide +kernel
theorem dX4_comparison_69 : decode cX4_comparison 69 = .ok (.istore 13, 2) := by decide +kernel
theorem dX4_comparison_71 : decode cX4_comparison 71 = .ok (.iload 4, 2) := by decide +kernel
theorem dX4_comparison_73 : decode cX4_comparison 73 = .ok (.iload 12, 2) := by decide +kernel
theorem dX4_comparison_75 : decode cX4_comparison 75 = .ok (.ifCond .eq 12, 3) := by decide +kernel
theorem dX4_comparison_78 : decode cX4_comparison 78 = .ok (.iload 13, 2) := by decide +kernel
theorem dX4_comparison_80 : decode cX4_comparison 80 = .ok (.ifCond .eq 7, 3) := by decide +kernel
theorem dX4_comparison_83 : decode cX4_comparison 83 = .ok (.iconst 1, 1) := by decide +kernel
theorem dX4_comparison_84 : decode cX4_comparison 84 = .ok (.goto 4, 3) := by decide +kernel
theorem dX4_comparison_87 : decode cX4_comparison 87 = .ok (.iconst 0, 1) := by decide +kernel
theorem dX4_comparison_88 : decode cX4_comparison 88 = .ok (.iadd, 1) := by decide +kernel
theorem dX4_comparison_89 : decode cX4_comparison 89 = .ok (.istore 4, 2) := by decide +kernel
theorem dX4_comparison_91 : decode cX4_comparison 91 = .ok (.iload 12, 2) := by decide +kernel
theorem dX4_comparison_93 : decode cX4_comparison 93 = .ok (.iload 13, 2) := by decide +kernel
theorem dX4_comparison_95 : decode cX4_comparison 95 = .ok (.if_icmp .eq 13, 3) := by decide +kernel
theorem dX4_comparison_98 : decode cX4_comparison 98 = .ok (.iload 5, 2) := by decide +kernel
theorem dX4_comparison_100 : decode cX4_comparison 100 = .ok (.ifCond .ne 8, 3) := by decide +kernel
theorem dX4_comparison_103 : decode cX4_comparison 103 = .ok (.iload 11, 2) := by decide +kernel
theorem dX4_comparison_105 : decode cX4_comparison 105 = .ok (.goto 5, 3) := by decide +kernel
theorem dX4_comparison_108 : decode cX4_comparison 108 = .ok (.iload 7, 2) := by decide +kernel
theorem dX4_comparison_110 : decode cX4_comparison 110 = .ok (.istore 7, 2) := by decide +kernel
theorem dX4_comparison_112 : decode cX4_comparison 112 = .ok (.iload 5, 2) := by decide +kernel
theorem dX4_comparison_114 : decode cX4_comparison 114 = .ok (.iload 12, 2) := by decide +kernel
theorem dX4_comparison_116 : decode cX4_comparison 116 = .ok (.iload 13, 2) := by decide +kernel
theorem dX4_comparison_118 : decode cX4_comparison 118 = .ok (.if_icmp .eq 7, 3) := by decide +kernel
theorem dX4_comparison_121 : decode cX4_comparison 121 = .ok (.iconst 1, 1) := by decide +kernel
theorem dX4_comparison_122 : decode cX4_comparison 122 = .ok (.goto 4, 3) := by decide +kernel
theorem dX4_comparison_125 : decode cX4_comparison 125 = .ok (.iconst 0, 1) := by decide +kernel
theorem dX4_comparison_126 : decode cX4_comparison 126 = .ok (.iadd, 1) := by decide +kernel
theorem dX4_comparison_127 : decode cX4_comparison 127 = .ok (.istore 5, 2) := by decide +kernel
theorem dX4_comparison_129 : decode cX4_comparison 129 = .ok (.iload 6, 2) := by decide +kernel
theorem dX4_comparison_131 : decode cX4_comparison 131 = .ok (.iload 12, 2) := by decide +kernel
theorem dX4_comparison_133 : decode cX4_comparison 133 = .ok (.ifCond .eq 12, 3) := by decide +kernel
theorem dX4_comparison_136 : decode cX4_comparison 136 = .ok (.iload 13, 2) := by decide +kernel
theorem dX4_comparison_138 : decode cX4_comparison 138 = .ok (.ifCond .ne 7, 3) := by decide +kernel
theorem dX4_comparison_141 : decode cX4_comparison 141 = .ok (.iconst 1, 1) := by decide +kernel
theorem dX4_comparison_142 : decode cX4_comparison 142 = .ok (.goto 4, 3) := by decide +kernel
theorem dX4_comparison_145 : decode cX4_comparison 145 = .ok (.iconst 0, 1) := by decide +kernel
theorem dX4_comparison_146 : decode cX4_comparison 146 = .ok (.iadd, 1) := by decide +kernel
theorem dX4_comparison_147 : decode cX4_comparison 147 = .ok (.istore 6, 2) := by decide +kernel
theorem dX4_comparison_149 : decode cX4_comparison 149 = .ok (.iinc 11 1, 3) := by decide +kernel
theorem dX4_comparison_152 : decode cX4_comparison 152 = .ok (.goto (-114), 3) := by decide +kernel
theorem dX4_comparison_155 : decode cX4_comparison 155 = .ok (.iload 8, 2) := by decide +kernel
theorem dX4_comparison_157 : decode cX4_comparison 157 = .ok (.iload 5, 2) := by decide +kernel
theorem dX4_comparison_159 : decode cX4_comparison 159 = .ok (.iload 10, 2) := by decide +kernel
theorem dX4_comparison_161 : decode cX4_comparison 161 = .ok (.if_icmp .ne 7, 3) := by decide +kernel
theorem dX4_comparison_164 : decode cX4_comparison 164 = .ok (.iconst 1, 1) := by decide +kernel
theorem dX4_comparison_165 : decode cX4_comparison 165 = .ok (.goto 4, 3) := by decide +kernel
theorem dX4_comparison_168 : decode cX4_comparison 168 = .ok (.iconst 0, 1) := by decide +kernel
theorem dX4_comparison_169 : decode cX4_comparison 169 = .ok (.iadd, 1) := by decide +kernel
theorem dX4_comparison_170 : decode cX4_comparison 170 = .ok (.istore 8, 2) := by decide +kernel
theorem dX4_comparison_172 : decode cX4_comparison 172 = .ok (.iinc 9 1, 3) := by decide +kernel
theorem dX4_comparison_175 : decode cX4_comparison 175 = .ok (.goto (-156), 3) := by decide +kernel
theorem dX4_comparison_178 : decode cX4_comparison 178 = .ok (.iload_n 3, 1) := by decide +kernel
theorem dX4_comparison_179 : decode cX4_comparison 179 = .ok (.ifCond .ne 8, 3) := by decide +kernel
theorem dX4_comparison_182 : decode cX4_comparison 182 = .ok (.iload 4, 2) := by decide +kernel
theorem dX4_comparison_184 : decode cX4_comparison 184 = .ok (.goto 43, 3) := by decide +kernel
theorem dX4_comparison_187 : decode cX4_comparison 187 = .ok (.iload_n 3, 1) := by decide +kernel
theorem dX4_comparison_188 : decode cX4_comparison 188 = .ok (.iconst 1, 1) := by decide +kernel
theorem dX4_comparison_189 : decode cX4_comparison 189 = .ok (.if_icmp .ne 8, 3) := by decide +kernel
theorem dX4_comparison_192 : decode cX4_comparison 192 = .ok (.iload 5, 2) := by decide +kernel
theorem dX4_comparison_194 : decode cX4_comparison 194 = .ok (.goto 33, 3) := by decide +kernel
theorem dX4_comparison_197 : decode cX4_comparison 197 = .ok (.iload_n 3, 1) := by decide +kernel
theorem dX4_comparison_198 : decode cX4_comparison 198 = .ok (.iconst 2, 1) := by decide +kernel
theorem dX4_comparison_199 : decode cX4_comparison 199 = .ok (.if_icmp .ne 16, 3) := by decide +kernel
theorem dX4_comparison_202 : decode cX4_comparison 202 = .ok (.iload 6, 2) := by decide +kernel
theorem dX4_comparison_204 : decode cX4_comparison 204 = .ok (.ifCond .ne 7, 3) := by decide +kernel
theorem dX4_comparison_207 : decode cX4_comparison 207 = .ok (.iconst 1, 1) := by decide +kernel
theorem dX4_comparison_208 : decode cX4_comparison 208 = .ok (.goto 19, 3) := by decide +kernel
theorem dX4_comparison_211 : decode cX4_comparison 211 = .ok (.iconst 0, 1) := by decide +kernel
theorem dX4_comparison_212 : decode cX4_comparison 212 = .ok (.goto 15, 3) := by decide +kernel
theorem dX4_comparison_215 : decode cX4_comparison 215 = .ok (.iload_n 3, 1) := by decide +kernel
theorem dX4_comparison_216 : decode cX4_comparison 216 = .ok (.iconst 3, 1) := by decide +kernel
theorem dX4_comparison_217 : decode cX4_comparison 217 = .ok (.if_icmp .ne 8, 3) := by decide +kernel
theorem dX4_comparison_220 : decode cX4_comparison 220 = .ok (.iload 8, 2) := by decide +kernel
theorem dX4_comparison_222 : decode cX4_comparison 222 = .ok (.goto 5, 3) := by decide +kernel
theorem dX4_comparison_225 : decode cX4_comparison 225 = .ok (.iload 7, 2) := by decide +kernel
theorem dX4_comparison_227 : decode cX4_comparison 227 = .ok (.ireturn, 1) := by decide +kernel
set_option maxRecDepth 20000 in
theorem ggX4_compare_X4_isSet : GoodIn wsX4_compare wsX4_isSet := goodIn_r _ [4, 5, 6, 3, 7] (by decide +kernel) (by decide +kernel)
set_option maxRecDepth 20000 in
theorem gX4_compare_X4_isSet : GoodIn wsX4_compare (va_wsS RX4 55 yX4_isSet wsX4_isSet) := goodIn_app (goodIn_of _ (by decide +kernel)) ggX4_compare_X4_isSet
set_option maxRecDepth 20000 in
theorem ggX4_compare_X4_in : GoodIn wsX4_compare wsX4_in := goodIn_r _ [7] (by decide +kernel) (by decide +kernel)
set_option maxRecDepth 20000 in
theorem gX4_compare_X4_in : GoodIn wsX4_compare (va_wsS RX4 25 yX4_in wsX4_in) := goodIn_app (goodIn_of _ (by decide +kernel)) ggX4_compare_X4_in
set_option maxRecDepth 20000 in
theorem ggX4_compare_X4_comparison : GoodIn wsX4_compare wsX4_comparison := goodIn_r _ [11, 12, 13, 14, 3, 15, 16, 17, 18, 19, 20, 21, 22, 23, 24, 25, 26, 27] (by decide +kernel) (by decide +kernel)
set_option maxRecDepth 20000 in
theorem gX4_compare_X4_comparison : GoodIn wsX4_compare (wsV RX4 121 RX4 yX4_comparison wsX4_comparison) := goodIn_app (goodIn_of _ (by decide +kernel)) ggX4_compare_X4_comparison
theorem dX4_compare_0 : decode cX4_compare 0 = .ok (.iload_n 1, 1) := by decide +kernel
theorem dX4_compare_1 : decode cX4_compare 1 = .ok (.invokestatic 55, 3) := by decide +kernel
theorem dX4_compare_4 : decode cX4_compare 4 = .ok (.ifCond .eq 29, 3) := by decide +kernel
theorem dX4_compare_7 : decode cX4_compare 7 = .ok (.iload_n 2, 1) := by decide +kernel
theorem dX4_compare_8 : decode cX4_compare 8 = .ok (.invokestatic 55, 3) := by decide +kernel
theorem dX4_compare_11 : decode cX4_compare 11 = .ok (.ifCond .eq 22, 3) := by decide +kernel
theorem dX4_compare_14 : decode cX4_compare 14 = .ok (.iload_n 3, 1) := by decide +kernel
theorem dX4_compare_15 : decode cX4_compare 15 = .ok (.iconst 0, 1) := by decide +kernel
theorem dX4_compare_16 : decode cX4_compare 16 = .ok (.iconst 4, 1) := by decide +kernel
theorem dX4_compare_17 : decode cX4_compare 17 = .ok (.invokestatic 25, 3) := by decide +kernel
theorem dX4_compare_20 : decode cX4_compare 20 = .ok (.ifCond .eq 13, 3) := by decide +kernel
theorem dX4_compare_23 : decode cX4_compare 23 = .ok (.aload_n 0, 1) := by decide +kernel
theorem dX4_compare_24 : decode cX4_compare 24 = .ok (.iload_n 1, 1) := by decide +kernel
theorem dX4_compare_25 : decode cX4_compare 25 = .ok (.iload_n 2, 1) := by decide +kernel
theorem dX4_compare_26 : decode cX4_compare 26 = .ok (.iload_n 3, 1) := by decide +kernel
theorem dX4_compare_27 : decode cX4_compare 27 = .ok (.invokevirtual 121, 3) := by decide +kernel
theorem dX4_compare_30 : decode cX4_compare 30 = .ok (.goto 4, 3) := by decide +kernel
theorem dX4_compare_33 : decode cX4_compare 33 = .ok (.iconst (-1), 1) := by decide +kernel
theorem dX4_compare_34 : decode cX4_compare 34 = .ok (.ireturn, 1) := by decide +kernel
set_option maxRecDepth 20000 in
theorem ggX4_alike_X4_isSet : GoodIn wsX4_alike wsX4_isSet := goodIn_r _ [4, 5, 6, 3, 7] (by decide +kernel) (by decide +kernel)
set_option maxRecDepth 20000 in
theorem gX4_alike_X4_isSet : GoodIn wsX4_alike (va_wsS RX4 55 yX4_isSet wsX4_isSet) := goodIn_app (goodIn_of _ (by decide +kernel)) ggX4_alike_X4_isSet
set_option maxRecDepth 20000 in
theorem ggX4_alike_X4_comparison : GoodIn wsX4_alike wsX4_comparison := goodIn_r _ [11, 12, 13, 14, 3, 15, 16, 17, 18, 19, 20, 21, 22, 23, 24, 25, 26, 27] (by decide +kernel) (by decide +kernel)
set_option maxRecDepth 20000 in
theorem gX4_alike_X4_comparison : GoodIn wsX4_alike (wsV RX4 121 RX4 yX4_comparison wsX4_comparison) := goodIn_app (goodIn_of _ (by decide +kernel)) ggX4_alike_X4_comparison
theorem dX4_alike_0 : decode cX4_alike 0 = .ok (.iload_n 1, 1) := by decide +kernel
theorem dX4_alike_1 : decode cX4_alike 1 = .ok (.invokestatic 55, 3) := by decide +kernel
theorem dX4_alike_4 : decode cX4_alike 4 = .ok (.ifCond .eq 10, 3) := by decide +kernel
theorem dX4_alike_7 : decode cX4_alike 7 = .ok (.iload_n 2, 1) := by decide +kernel
theorem dX4_alike_8 : decode cX4_alike 8 = .ok (.invokestatic 55, 3) := by decide +kernel
theorem dX4_alike_11 : decode cX4_alike 11 = .ok (.ifCond .ne 5, 3) := by decide +kernel
theorem dX4_alike_14 : decode cX4_alike 14 = .ok (.iconst (-1), 1) := by decide +kernel
theorem dX4_alike_15 : decode cX4_alike 15 = .ok (.ireturn, 1) := by decide +kernel
theorem dX4_alike_16 : decode cX4_alike 16 = .ok (.aload_n 0, 1) := by decide +kernel
theorem dX4_alike_17 : decode cX4_alike 17 = .ok (.iload_n 1, 1) := by decide +kernel
theorem dX4_alike_18 : decode cX4_alike 18 = .ok (.iload_n 2, 1) := by decide +kernel
theorem dX4_alike_19 : decode cX4_alike 19 = .ok (.iconst 0, 1) := by decide +kernel
theorem dX4_alike_20 : decode cX4_alike 20 = .ok (.invokevirtual 121, 3) := by decide +kernel
theorem dX4_alike_23 : decode cX4_alike 23 = .ok (.istore 4, 2) := by decide +kernel
theorem dX4_alike_25 : decode cX4_alike 25 = .ok (.iload 4, 2) := by decide +kernel
theorem dX4_alike_27 : decode cX4_alike 27 = .ok (.aload_n 0, 1) := by decide +kernel
theorem dX4_alike_28 : decode cX4_alike 28 = .ok (.iload_n 1, 1) := by decide +kernel
theorem dX4_alike_29 : decode cX4_alike 29 = .ok (.iload_n 2, 1) := by decide +kernel
theorem dX4_alike_30 : decode cX4_alike 30 = .ok (.iconst 1, 1) := by decide +kernel
theorem dX4_alike_31 : decode cX4_alike 31 = .ok (.invokevirtual 121, 3) := by decide +kernel
theorem dX4_alike_34 : decode cX4_alike 34 = .ok (.iadd, 1) := by decide +kernel
theorem dX4_alike_35 : decode cX4_alike 35 = .ok (.istore 5, 2) := by decide +kernel
theorem dX4_alike_37 : decode cX4_alike 37 = .ok (.iload 5, 2) := by decide +kernel
theorem dX4_alike_39 : decode cX4_alike 39 = .ok (.ifCond .ne 5, 3) := by decide +kernel
theorem dX4_alike_42 : decode cX4_alike 42 = .ok (.iconst 1, 1) := by decide +kernel
theorem dX4_alike_43 : decode cX4_alike 43 = .ok (.ireturn, 1) := by decide +kernel
theorem dX4_alike_44 : decode cX4_alike 44 = .ok (.iload 4, 2) := by decide +kernel
theorem dX4_alike_46 : decode cX4_alike 46 = .ok (.istore 6, 2) := by decide +kernel
theorem dX4_alike_48 : decode cX4_alike 48 = .ok (.iload 5, 2) := by decide +kernel
theorem dX4_alike_50 : decode cX4_alike 50 = .ok (.istore 7, 2) := by decide +kernel
theorem dX4_alike_52 : decode cX4_alike 52 = .ok (.iload 6, 2) := by decide +kernel
theorem dX4_alike_54 : decode cX4_alike 54 = .ok (.ifCond .eq 21, 3) := by decide +kernel
theorem dX4_alike_57 : decode cX4_alike 57 = .ok (.iload 7, 2) := by decide +kernel
theorem dX4_alike_59 : decode cX4_alike 59 = .ok (.iload 6, 2) := by decide +kernel
theorem dX4_alike_61 : decode cX4_alike 61 = .ok (.irem, 1) := by decide +kernel
theorem dX4_alike_62 : decode cX4_alike 62 = .ok (.istore 8, 2) := by decide +kernel
theorem dX4_alike_64 : decode cX4_alike 64 = .ok (.iload 6, 2) := by decide +kernel
theorem dX4_alike_66 : decode cX4_alike 66 = .ok (.istore 7, 2) := by decide +kernel
theorem dX4_alike_68 : decode cX4_alike 68 = .ok (.iload 8, 2) := by decide +kernel
theorem dX4_alike_70 : decode cX4_alike 70 = .ok (.istore 6, 2) := by decide +kernel
theorem dX4_alike_72 : decode cX4_alike 72 = .ok (.goto (-20), 3) := by decide +kernel
theorem dX4_alike_75 : decode cX4_alike 75 = .ok (.iload_n 3, 1) := by decide +kernel
theorem dX4_alike_76 : decode cX4_alike 76 = .ok (.ifCond .eq 11, 3) := by decide +kernel
theorem dX4_alike_79 : decode cX4_alike 79 = .ok (.iload 5, 2) := by decide +kernel
theorem dX4_alike_81 : decode cX4_alike 81 = .ok (.iload 7, 2) := by decide +kernel
theorem dX4_alike_83 : decode cX4_alike 83 = .ok (.idiv, 1) := by decide +kernel
theorem dX4_alike_84 : decode cX4_alike 84 = .ok (.goto 8, 3) := by decide +kernel
theorem dX4_alike_87 : decode cX4_alike 87 = .ok (.iload 4, 2) := by decide +kernel
theorem dX4_alike_89 : decode cX4_alike 89 = .ok (.iload 7, 2) := by decide +kernel
theorem dX4_alike_91 : decode cX4_alike 91 = .ok (.idiv, 1) := by decide +kernel
theorem dX4_alike_92 : decode cX4_alike 92 = .ok (.ireturn, 1) := by decide +kernel
set_option maxRecDepth 20000 in
theorem ggX4_isKindNumber_X4_in : GoodIn wsX4_isKindNumber wsX4_in := goodIn_r _ [4] (by decide +kernel) (by decide +kernel)
set_option maxRecDepth 20000 in
theorem gX4_isKindNumber_X4_in : GoodIn wsX4_isKindNumber (va_wsS RX4 25 yX4_in wsX4_in) := goodIn_app (goodIn_of _ (by decide +kernel)) ggX4_isKindNumber_X4_in
theorem dX4_isKindNumber_0 : decode cX4_isKindNumber 0 = .ok (.iload_n 0, 1) := by decide +kernel
theorem dX4_isKindNumber_1 : decode cX4_isKindNumber 1 = .ok (.iconst 0, 1) := by decide +kernel
theorem dX4_isKindNumber_2 : decode cX4_isKindNumber 2 = .ok (.iconst 2, 1) := by decide +kernel
theorem dX4_isKindNumber_3 : decode cX4_isKindNumber 3 = .ok (.invokestatic 25, 3) := by decide +kernel
theorem dX4_isKindNumber_6 : decode cX4_isKindNumber 6 = .ok (.ireturn, 1) := by decide +kernel
set_option maxRecDepth 20000 in
theorem ggX4_met_X4_isKindNumber : GoodIn wsX4_met wsX4_isKindNumber := goodIn_r _ [5, 6, 7, 4, 8] (by decide +kernel) (by decide +kernel)
set_option maxRecDepth 20000 in
theorem gX4_met_X4_isKindNumber : GoodIn wsX4_met (va_wsS RX4 124 yX4_isKindNumber wsX4_isKindNumber) := goodIn_app (goodIn_of _ (by decide +kernel)) ggX4_met_X4_isKindNumber
theorem dX4_met_0 : decode cX4_met 0 = .ok (.iload_n 1, 1) := by decide +kernel
theorem dX4_met_1 : decode cX4_met 1 = .ok (.invokestatic 124, 3) := by decide +kernel
theorem dX4_met_4 : decode cX4_met 4 = .ok (.ifCond .eq 27, 3) := by decide +kernel
theorem dX4_met_7 : decode cX4_met 7 = .ok (.iload_n 2, 1) := by decide +kernel
theorem dX4_met_8 : decode cX4_met 8 = .ok (.invokestatic 124, 3) := by decide +kernel
theorem dX4_met_11 : decode cX4_met 11 = .ok (.ifCond .eq 20, 3) := by decide +kernel
theorem dX4_met_14 : decode cX4_met 14 = .ok (.aload_n 0, 1) := by decide +kernel
theorem dX4_met_15 : decode cX4_met 15 = .ok (.getfield 7, 3) := by decide +kernel
theorem dX4_met_18 : decode cX4_met 18 = .ok (.sipush 768, 3) := by decide +kernel
theorem dX4_met_21 : decode cX4_met 21 = .ok (.iconst 3, 1) := by decide +kernel
theorem dX4_met_22 : decode cX4_met 22 = .ok (.iload_n 1, 1) := by decide +kernel
theorem dX4_met_23 : decode cX4_met 23 = .ok (.imul, 1) := by decide +kernel
theorem dX4_met_24 : decode cX4_met 24 = .ok (.iadd, 1) := by decide +kernel
theorem dX4_met_25 : decode cX4_met 25 = .ok (.iload_n 2, 1) := by decide +kernel
theorem dX4_met_26 : decode cX4_met 26 = .ok (.iadd, 1) := by decide +kernel
theorem dX4_met_27 : decode cX4_met 27 = .ok (.iaload, 1) := by decide +kernel
theorem dX4_met_28 : decode cX4_met 28 = .ok (.goto 4, 3) := by decide +kernel
theorem dX4_met_31 : decode cX4_met 31 = .ok (.iconst (-1), 1) := by decide +kernel
theorem dX4_met_32 : decode cX4_met 32 = .ok (.ireturn, 1) := by decide +kernel
set_option maxRecDepth 20000 in
theorem ggX4_converted_X4_isKindNumber : GoodIn wsX4_converted wsX4_isKindNumber := goodIn_r _ [5, 6, 7, 4, 8] (by decide +kernel) (by decide +kernel)
set_option maxRecDepth 20000 in
theorem gX4_converted_X4_isKindNumber : GoodIn wsX4_converted (va_wsS RX4 124 yX4_isKindNumber wsX4_isKindNumber) := goodIn_app (goodIn_of _ (by decide +kernel)) ggX4_converted_X4_isKindNumber
theorem dX4_converted_0 : decode cX4_converted 0 = .ok (.iload_n 1, 1) := by decide +kernel
theorem dX4_converted_1 : decode cX4_converted 1 = .ok (.invokestatic 124, 3) := by decide +kernel
theorem dX4_converted_4 : decode cX4_converted 4 = .ok (.ifCond .eq 32, 3) := by decide +kernel
theorem dX4_converted_7 : decode cX4_converted 7 = .ok (.iload_n 2, 1) := by decide +kernel
theorem dX4_converted_8 : decode cX4_converted 8 = .ok (.invokestatic 124, 3) := by decide +kernel
theorem dX4_converted_11 : decode cX4_converted 11 = .ok (.ifCond .eq 25, 3) := by decide +kernel
theorem dX4_converted_14 : decode cX4_converted 14 = .ok (.iload_n 1, 1) := by decide +kernel
theorem dX4_converted_15 : decode cX4_converted 15 = .ok (.iload_n 2, 1) := by decide +kernel
theorem dX4_converted_16 : decode cX4_converted 16 = .ok (.if_icmp .eq 20, 3) := by decide +kernel
theorem dX4_converted_19 : decode cX4_converted 19 = .ok (.aload_n 0, 1) := by decide +kernel
theorem dX4_converted_20 : decode cX4_converted 20 = .ok (.getfield 7, 3) := by decide +kernel
theorem dX4_converted_23 : decode cX4_converted 23 = .ok (.sipush 777, 3) := by decide +kernel
theorem dX4_converted_26 : decode cX4_converted 26 = .ok (.iconst 3, 1) := by decide +kernel
theorem dX4_converted_27 : decode cX4_converted 27 = .ok (.iload_n 1, 1) := by decide +kernel
theorem dX4_converted_28 : decode cX4_converted 28 = .ok (.imul, 1) := by decide +kernel
theorem dX4_converted_29 : decode cX4_converted 29 = .ok (.iadd, 1) := by decide +kernel
theorem dX4_converted_30 : decode cX4_converted 30 = .ok (.iload_n 2, 1) := by decide +kernel
theorem dX4_converted_31 : decode cX4_converted 31 = .ok (.iadd, 1) := by decide +kernel
theorem dX4_converted_32 : decode cX4_converted 32 = .ok (.iaload, 1) := by decide +kernel
theorem dX4_converted_33 : decode cX4_converted 33 = .ok (.goto 4, 3) := by decide +kernel
theorem dX4_converted_36 : decode cX4_converted 36 = .ok (.iconst (-1), 1) := by decide +kernel
theorem dX4_converted_37 : decode cX4_converted 37 = .ok (.ireturn, 1) := by decide +kernel
theorem dX4_undo_0 : decode cX4_undo 0 = .ok (.aload_n 0, 1) := by decide +kernel
theorem dX4_undo_1 : decode cX4_undo 1 = .ok (.getfield 33, 3) := by decide +kernel
theorem dX4_undo_4 : decode cX4_undo 4 = .ok (.ifCond .ne 6, 3) := by decide +kernel
theorem dX4_undo_7 : decode cX4_undo 7 = .ok (.bipush (-9), 2) := by decide +kernel
theorem dX4_undo_9 : decode cX4_undo 9 = .ok (.ireturn, 1) := by decide +kernel
theorem dX4_undo_10 : decode cX4_undo 10 = .ok (.aload_n 0, 1) := by decide +kernel
theorem dX4_undo_11 : decode cX4_undo 11 = .ok (.dup, 1) := by decide +kernel
theorem dX4_undo_12 : decode cX4_undo 12 = .ok (.getfield 33, 3) := by decide +kernel
theorem dX4_undo_15 : decode cX4_undo 15 = .ok (.iconst 1, 1) := by decide +kernel
theorem dX4_undo_16 : decode cX4_undo 16 = .ok (.isub, 1) := by decide +kernel
theorem dX4_undo_17 : decode cX4_undo 17 = .ok (.putfield 33, 3) := by decide +kernel
theorem dX4_undo_20 : decode cX4_undo 20 = .ok (.iconst 0, 1) := by decide +kernel
theorem dX4_undo_21 : decode cX4_undo 21 = .ok (.istore_n 1, 1) := by decide +kernel
theorem dX4_undo_22 : decode cX4_undo 22 = .ok (.iload_n 1, 1) := by decide +kernel
theorem dX4_undo_23 : decode cX4_undo 23 = .ok (.sipush 790, 3) := by decide +kernel
theorem dX4_undo_26 : decode cX4_undo 26 = .ok (.if_icmp .ge 30, 3) := by decide +kernel
theorem dX4_undo_29 : decode cX4_undo 29 = .ok (.aload_n 0, 1) := by decide +kernel
theorem dX4_undo_30 : decode cX4_undo 30 = .ok (.getfield 7, 3) := by decide +kernel
theorem dX4_undo_33 : decode cX4_undo 33 = .ok (.iload_n 1, 1) := by decide +kernel
theorem dX4_undo_34 : decode cX4_undo 34 = .ok (.aload_n 0, 1) := by decide +kernel
theorem dX4_undo_35 : decode cX4_undo 35 = .ok (.getfield 16, 3) := by decide +kernel
theorem dX4_undo_38 : decode cX4_undo 38 = .ok (.sipush 790, 3) := by decide +kernel
theorem dX4_undo_41 : decode cX4_undo 41 = .ok (.aload_n 0, 1) := by decide +kernel
theorem dX4_undo_42 : decode cX4_undo 42 = .ok (.getfield 33, 3) := by decide +kernel
theorem dX4_undo_45 : decode cX4_undo 45 = .ok (.imul, 1) := by decide +kernel
theorem dX4_undo_46 : decode cX4_undo 46 = .ok (.iload_n 1, 1) := by decide +kernel
theorem dX4_undo_47 : decode cX4_undo 47 = .ok (.iadd, 1) := by decide +kernel
theorem dX4_undo_48 : decode cX4_undo 48 = .ok (.iaload, 1) := by decide +kernel
theorem dX4_undo_49 : decode cX4_undo 49 = .ok (.iastore, 1) := by decide +kernel
theorem dX4_undo_50 : decode cX4_undo 50 = .ok (.iinc 1 1, 3) := by decide +kernel
theorem dX4_undo_53 : decode cX4_undo 53 = .ok (.goto (-31), 3) := by decide +kernel
theorem dX4_undo_56 : decode cX4_undo 56 = .ok (.aload_n 0, 1) := by decide +kernel
theorem dX4_undo_57 : decode cX4_undo 57 = .ok (.getfield 33, 3) := by decide +kernel
theorem dX4_undo_60 : decode cX4_undo 60 = .ok (.ireturn, 1) := by decide +kernel
set_option maxRecDepth 20000 in
theorem ggX4_fingerprint_X4_sizeOf : GoodIn wsX4_fingerprint wsX4_sizeOf := goodIn_r _ [8, 9, 10, 11, 7, 12, 3, 13, 14, 15, 32, 33, 34, 35, 36, 37, 38, 39] (by decide +kernel) (by decide +kernel)
set_option maxRecDepth 20000 in
theorem gX4_fingerprint_X4_sizeOf : GoodIn wsX4_fingerprint (wsV RX4 78 RX4 yX4_sizeOf wsX4_sizeOf) := goodIn_app (goodIn_of _ (by decide +kernel)) ggX4_fingerprint_X4_sizeOf
set_option maxRecDepth 20000 in
theorem ggX4_fingerprint_X4_manyIn : GoodIn wsX4_fingerprint wsX4_manyIn := goodIn_r _ [18, 13, 14, 7, 15] (by decide +kernel) (by decide +kernel)
set_option maxRecDepth 20000 in
theorem gX4_fingerprint_X4_manyIn : GoodIn wsX4_fingerprint (va_wsS RX4 41 yX4_manyIn wsX4_manyIn) := goodIn_app (goodIn_of _ (by decide +kernel)) ggX4_fingerprint_X4_manyIn
set_option maxRecDepth 20000 in
theorem ggX4_fingerprint_X4_told : GoodIn wsX4_fingerprint wsX4_told := goodIn_r _ [22, 3, 16, 17, 7, 18, 13, 14, 15, 23, 24, 25, 26, 27, 28, 29, 30, 31, 32, 33, 34, 35, 36, 37, 38, 39] (by decide +kernel) (by decide +kernel)
set_option maxRecDepth 20000 in
theorem gX4_fingerprint_X4_told : GoodIn wsX4_fingerprint (wsV RX4 88 RX4 yX4_told wsX4_told) := goodIn_app (goodIn_of _ (by decide +kernel)) ggX4_fingerprint_X4_told
set_option maxRecDepth 20000 in
theorem ggX4_fingerprint_X4_has : GoodIn wsX4_fingerprint wsX4_has := goodIn_r _ [12, 3, 13, 14, 7, 15, 32, 33, 34, 35, 36, 37, 38, 39] (by decide +kernel) (by decide +kernel)
set_option maxRecDepth 20000 in
theorem gX4_fingerprint_X4_has : GoodIn wsX4_fingerprint (wsV RX4 51 RX4 yX4_has wsX4_has) := goodIn_app (goodIn_of _ (by decide +kernel)) ggX4_fingerprint_X4_has
theorem dX4_fingerprint_0 : decode cX4_fingerprint 0 = .ok (.ldc2_w 127, 3) := by decide +kernel
theorem dX4_fingerprint_3 : decode cX4_fingerprint 3 = .ok (.lstore_n 1, 1) := by decide +kernel
theorem dX4_fingerprint_4 : decode cX4_fingerprint 4 = .ok (.iconst 0, 1) := by decide +kernel
theorem dX4_fingerprint_5 : decode cX4_fingerprint 5 = .ok (.istore_n 3, 1) := by decide +kernel
theorem dX4_fingerprint_6 : decode cX4_fingerprint 6 = .ok (.iload_n 3, 1) := by decide +kernel
theorem dX4_fingerprint_7 : decode cX4_fingerprint 7 = .ok (.bipush 6, 2) := by decide +kernel
theorem dX4_fingerprint_9 : decode cX4_fingerprint 9 = .ok (.if_icmp .ge 93, 3) := by decide +kernel
theorem dX4_fingerprint_12 : decode cX4_fingerprint 12 = .ok (.ldc2_w 129, 3) := by decide +kernel
theorem dX4_fingerprint_15 : decode cX4_fingerprint 15 = .ok (.lload_n 1, 1) := by decide +kernel
theorem dX4_fingerprint_16 : decode cX4_fingerprint 16 = .ok (.lmul, 1) := by decide +kernel
theorem dX4_fingerprint_17 : decode cX4_fingerprint 17 = .ok (.aload_n 0, 1) := by decide +kernel
theorem dX4_fingerprint_18 : decode cX4_fingerprint 18 = .ok (.iload_n 3, 1) := by decide +kernel
theorem dX4_fingerprint_19 : decode cX4_fingerprint 19 = .ok (.invokevirtual 78, 3) := by decide +kernel
theorem dX4_fingerprint_22 : decode cX4_fingerprint 22 = .ok (.i2l, 1) := by decide +kernel
theorem dX4_fingerprint_23 : decode cX4_fingerprint 23 = .ok (.ladd, 1) := by decide +kernel
theorem dX4_fingerprint_24 : decode cX4_fingerprint 24 = .ok (.lstore_n 1, 1) := by decide +kernel
theorem dX4_fingerprint_25 : decode cX4_fingerprint 25 = .ok (.iconst 0, 1) := by decide +kernel
theorem dX4_fingerprint_26 : decode cX4_fingerprint 26 = .ok (.istore 4, 2) := by decide +kernel
theorem dX4_fingerprint_28 : decode cX4_fingerprint 28 = .ok (.iload 4, 2) := by decide +kernel
theorem dX4_fingerprint_30 : decode cX4_fingerprint 30 = .ok (.bipush 16, 2) := by decide +kernel
theorem dX4_fingerprint_32 : decode cX4_fingerprint 32 = .ok (.if_icmp .ge 64, 3) := by decide +kernel
theorem dX4_fingerprint_35 : decode cX4_fingerprint 35 = .ok (.aload_n 0, 1) := by decide +kernel
theorem dX4_fingerprint_36 : decode cX4_fingerprint 36 = .ok (.getfield 7, 3) := by decide +kernel
theorem dX4_fingerprint_39 : decode cX4_fingerprint 39 = .ok (.iload_n 3, 1) := by decide +kernel
theorem dX4_fingerprint_40 : decode cX4_fingerprint 40 = .ok (.iload 4, 2) := by decide +kernel
theorem dX4_fingerprint_42 : decode cX4_fingerprint 42 = .ok (.invokestatic 41, 3) := by decide +kernel
theorem dX4_fingerprint_45 : decode cX4_fingerprint 45 = .ok (.ifCond .le 45, 3) := by decide +kernel
theorem dX4_fingerprint_48 : decode cX4_fingerprint 48 = .ok (.ldc2_w 129, 3) := by decide +kernel
theorem dX4_fingerprint_51 : decode cX4_fingerprint 51 = .ok (.lload_n 1, 1) := by decide +kernel
theorem dX4_fingerprint_52 : decode cX4_fingerprint 52 = .ok (.lmul, 1) := by decide +kernel
theorem dX4_fingerprint_53 : decode cX4_fingerprint 53 = .ok (.iload 4, 2) := by decide +kernel
theorem dX4_fingerprint_55 : decode cX4_fingerprint 55 = .ok (.i2l, 1) := by decide +kernel
theorem dX4_fingerprint_56 : decode cX4_fingerprint 56 = .ok (.ladd, 1) := by decide +kernel
theorem dX4_fingerprint_57 : decode cX4_fingerprint 57 = .ok (.lstore_n 1, 1) := by decide +kernel
theorem dX4_fingerprint_58 : decode cX4_fingerprint 58 = .ok (.iconst 0, 1) := by decide +kernel
theorem dX4_fingerprint_59 : decode cX4_fingerprint 59 = .ok (.istore 5, 2) := by decide +kernel
theorem dX4_fingerprint_61 : decode cX4_fingerprint 61 = .ok (.iload 5, 2) := by decide +kernel
theorem dX4_fingerprint_63 : decode cX4_fingerprint 63 = .ok (.iconst 4, 1) := by decide +kernel
theorem dX4_fingerprint_64 : decode cX4_fingerprint 64 = .ok (.if_icmp .ge 26, 3) := by decide +kernel
theorem dX4_fingerprint_67 : decode cX4_fingerprint 67 = .ok (.ldc2_w 129, 3) := by decide +kernel
theorem dX4_fingerprint_70 : decode cX4_fingerprint 70 = .ok (.lload_n 1, 1) := by decide +kernel
theorem dX4_fingerprint_71 : decode cX4_fingerprint 71 = .ok (.lmul, 1) := by decide +kernel
theorem dX4_fingerprint_72 : decode cX4_fingerprint 72 = .ok (.aload_n 0, 1) := by decide +kernel
theorem dX4_fingerprint_73 : decode cX4_fingerprint 73 = .ok (.iload_n 3, 1) := by decide +kernel
theorem dX4_fingerprint_74 : decode cX4_fingerprint 74 = .ok (.iload 4, 2) := by decide +kernel
theorem dX4_fingerprint_76 : decode cX4_fingerprint 76 = .ok (.iload 5, 2) := by decide +kernel
theorem dX4_fingerprint_78 : decode cX4_fingerprint 78 = .ok (.invokevirtual 88, 3) := by decide +kernel
theorem dX4_fingerprint_81 : decode cX4_fingerprint 81 = .ok (.i2l, 1) := by decide +kernel
theorem dX4_fingerprint_82 : decode cX4_fingerprint 82 = .ok (.ladd, 1) := by decide +kernel
theorem dX4_fingerprint_83 : decode cX4_fingerprint 83 = .ok (.lstore_n 1, 1) := by decide +kernel
theorem dX4_fingerprint_84 : decode cX4_fingerprint 84 = .ok (.iinc 5 1, 3) := by decide +kernel
theorem dX4_fingerprint_87 : decode cX4_fingerprint 87 = .ok (.goto (-26), 3) := by decide +kernel
theorem dX4_fingerprint_90 : decode cX4_fingerprint 90 = .ok (.iinc 4 1, 3) := by decide +kernel
theorem dX4_fingerprint_93 : decode cX4_fingerprint 93 = .ok (.goto (-65), 3) := by decide +kernel
theorem dX4_fingerprint_96 : decode cX4_fingerprint 96 = .ok (.iinc 3 1, 3) := by decide +kernel
theorem dX4_fingerprint_99 : decode cX4_fingerprint 99 = .ok (.goto (-93), 3) := by decide +kernel
theorem dX4_fingerprint_102 : decode cX4_fingerprint 102 = .ok (.iconst 0, 1) := by decide +kernel
theorem dX4_fingerprint_103 : decode cX4_fingerprint 103 = .ok (.istore_n 3, 1) := by decide +kernel
theorem dX4_fingerprint_104 : decode cX4_fingerprint 104 = .ok (.iload_n 3, 1) := by decide +kernel
theorem dX4_fingerprint_105 : decode cX4_fingerprint 105 = .ok (.bipush 9, 2) := by decide +kernel
theorem dX4_fingerprint_107 : decode cX4_fingerprint 107 = .ok (.if_icmp .ge 27, 3) := by decide +kernel
theorem dX4_fingerprint_110 : decode cX4_fingerprint 110 = .ok (.ldc2_w 129, 3) := by decide +kernel
theorem dX4_fingerprint_113 : decode cX4_fingerprint 113 = .ok (.lload_n 1, 1) := by decide +kernel
theorem dX4_fingerprint_114 : decode cX4_fingerprint 114 = .ok (.lmul, 1) := by decide +kernel
theorem dX4_fingerprint_115 : decode cX4_fingerprint 115 = .ok (.aload_n 0, 1) := by decide +kernel
theorem dX4_fingerprint_116 : decode cX4_fingerprint 116 = .ok (.getfield 7, 3) := by decide +kernel
theorem dX4_fingerprint_119 : decode cX4_fingerprint 119 = .ok (.sipush 768, 3) := by decide +kernel
theorem dX4_fingerprint_122 : decode cX4_fingerprint 122 = .ok (.iload_n 3, 1) := by decide +kernel
theorem dX4_fingerprint_123 : decode cX4_fingerprint 123 = .ok (.iadd, 1) := by decide +kernel
theorem dX4_fingerprint_124 : decode cX4_fingerprint 124 = .ok (.iaload, 1) := by decide +kernel
theorem dX4_fingerprint_125 : decode cX4_fingerprint 125 = .ok (.i2l, 1) := by decide +kernel
theorem dX4_fingerprint_126 : decode cX4_fingerprint 126 = .ok (.ladd, 1) := by decide +kernel
theorem dX4_fingerprint_127 : decode cX4_fingerprint 127 = .ok (.lstore_n 1, 1) := by decide +kernel
theorem dX4_fingerprint_128 : decode cX4_fingerprint 128 = .ok (.iinc 3 1, 3) := by decide +kernel
theorem dX4_fingerprint_131 : decode cX4_fingerprint 131 = .ok (.goto (-27), 3) := by decide +kernel
theorem dX4_fingerprint_134 : decode cX4_fingerprint 134 = .ok (.iconst 0, 1) := by decide +kernel
theorem dX4_fingerprint_135 : decode cX4_fingerprint 135 = .ok (.istore_n 3, 1) := by decide +kernel
theorem dX4_fingerprint_136 : decode cX4_fingerprint 136 = .ok (.iload_n 3, 1) := by decide +kernel
theorem dX4_fingerprint_137 : decode cX4_fingerprint 137 = .ok (.bipush 9, 2) := by decide +kernel
theorem dX4_fingerprint_139 : decode cX4_fingerprint 139 = .ok (.if_icmp .ge 40, 3) := by decide +kernel
theorem dX4_fingerprint_142 : decode cX4_fingerprint 142 = .ok (.iload_n 3, 1) := by decide +kernel
theorem dX4_fingerprint_143 : decode cX4_fingerprint 143 = .ok (.iconst 3, 1) := by decide +kernel
theorem dX4_fingerprint_144 : decode cX4_fingerprint 144 = .ok (.idiv, 1) := by decide +kernel
theorem dX4_fingerprint_145 : decode cX4_fingerprint 145 = .ok (.iload_n 3, 1) := by decide +kernel
theorem dX4_fingerprint_146 : decode cX4_fingerprint 146 = .ok (.iconst 3, 1) := by decide +kernel
theorem dX4_fingerprint_147 : decode cX4_fingerprint 147 = .ok (.irem, 1) := by decide +kernel
theorem dX4_fingerprint_148 : decode cX4_fingerprint 148 = .ok (.if_icmp .ne 7, 3) := by decide +kernel
theorem dX4_fingerprint_151 : decode cX4_fingerprint 151 = .ok (.lload_n 1, 1) := by decide +kernel
theorem dX4_fingerprint_152 : decode cX4_fingerprint 152 = .ok (.goto 20, 3) := by decide +kernel
theorem dX4_fingerprint_155 : decode cX4_fingerprint 155 = .ok (.ldc2_w 129, 3) := by decide +kernel
theorem dX4_fingerprint_158 : decode cX4_fingerprint 158 = .ok (.lload_n 1, 1) := by decide +kernel
theorem dX4_fingerprint_159 : decode cX4_fingerprint 159 = .ok (.lmul, 1) := by decide +kernel
theorem dX4_fingerprint_160 : decode cX4_fingerprint 160 = .ok (.aload_n 0, 1) := by decide +kernel
theorem dX4_fingerprint_161 : decode cX4_fingerprint 161 = .ok (.getfield 7, 3) := by decide +kernel
theorem dX4_fingerprint_164 : decode cX4_fingerprint 164 = .ok (.sipush 777, 3) := by decide +kernel
theorem dX4_fingerprint_167 : decode cX4_fingerprint 167 = .ok (.iload_n 3, 1) := by decide +kernel
theorem dX4_fingerprint_168 : decode cX4_fingerprint 168 = .ok (.iadd, 1) := by decide +kernel
theorem dX4_fingerprint_169 : decode cX4_fingerprint 169 = .ok (.iaload, 1) := by decide +kernel
theorem dX4_fingerprint_170 : decode cX4_fingerprint 170 = .ok (.i2l, 1) := by decide +kernel
theorem dX4_fingerprint_171 : decode cX4_fingerprint 171 = .ok (.ladd, 1) := by decide +kernel
theorem dX4_fingerprint_172 : decode cX4_fingerprint 172 = .ok (.lstore_n 1, 1) := by decide +kernel
theorem dX4_fingerprint_173 : decode cX4_fingerprint 173 = .ok (.iinc 3 1, 3) := by decide +kernel
theorem dX4_fingerprint_176 : decode cX4_fingerprint 176 = .ok (.goto (-40), 3) := by decide +kernel
theorem dX4_fingerprint_179 : decode cX4_fingerprint 179 = .ok (.iconst 0, 1) := by decide +kernel
theorem dX4_fingerprint_180 : decode cX4_fingerprint 180 = .ok (.istore_n 3, 1) := by decide +kernel
theorem dX4_fingerprint_181 : decode cX4_fingerprint 181 = .ok (.iload_n 3, 1) := by decide +kernel
theorem dX4_fingerprint_182 : decode cX4_fingerprint 182 = .ok (.bipush 6, 2) := by decide +kernel
theorem dX4_fingerprint_184 : decode cX4_fingerprint 184 = .ok (.if_icmp .ge 50, 3) := by decide +kernel
theorem dX4_fingerprint_187 : decode cX4_fingerprint 187 = .ok (.iconst 0, 1) := by decide +kernel
theorem dX4_fingerprint_188 : decode cX4_fingerprint 188 = .ok (.istore 4, 2) := by decide +kernel
theorem dX4_fingerprint_190 : decode cX4_fingerprint 190 = .ok (.iload 4, 2) := by decide +kernel
theorem dX4_fingerprint_192 : decode cX4_fingerprint 192 = .ok (.sipush 4096, 3) := by decide +kernel
theorem dX4_fingerprint_195 : decode cX4_fingerprint 195 = .ok (.if_icmp .ge 33, 3) := by decide +kernel
theorem dX4_fingerprint_198 : decode cX4_fingerprint 198 = .ok (.aload_n 0, 1) := by decide +kernel
theorem dX4_fingerprint_199 : decode cX4_fingerprint 199 = .ok (.iload_n 3, 1) := by decide +kernel
theorem dX4_fingerprint_200 : decode cX4_fingerprint 200 = .ok (.iload 4, 2) := by decide +kernel
theorem dX4_fingerprint_202 : decode cX4_fingerprint 202 = .ok (.invokevirtual 51, 3) := by decide +kernel
theorem dX4_fingerprint_205 : decode cX4_fingerprint 205 = .ok (.ifCond .eq 15, 3) := by decide +kernel
theorem dX4_fingerprint_208 : decode cX4_fingerprint 208 = .ok (.ldc2_w 129, 3) := by decide +kernel
theorem dX4_fingerprint_211 : decode cX4_fingerprint 211 = .ok (.lload_n 1, 1) := by decide +kernel
theorem dX4_fingerprint_212 : decode cX4_fingerprint 212 = .ok (.lmul, 1) := by decide +kernel
theorem dX4_fingerprint_213 : decode cX4_fingerprint 213 = .ok (.iload 4, 2) := by decide +kernel
theorem dX4_fingerprint_215 : decode cX4_fingerprint 215 = .ok (.i2l, 1) := by decide +kernel
theorem dX4_fingerprint_216 : decode cX4_fingerprint 216 = .ok (.ladd, 1) := by decide +kernel
theorem dX4_fingerprint_217 : decode cX4_fingerprint 217 = .ok (.goto 4, 3) := by decide +kernel
theorem dX4_fingerprint_220 : decode cX4_fingerprint 220 = .ok (.lload_n 1, 1) := by decide +kernel
theorem dX4_fingerprint_221 : decode cX4_fingerprint 221 = .ok (.lstore_n 1, 1) := by decide +kernel
theorem dX4_fingerprint_222 : decode cX4_fingerprint 222 = .ok (.iinc 4 1, 3) := by decide +kernel
theorem dX4_fingerprint_225 : decode cX4_fingerprint 225 = .ok (.goto (-35), 3) := by decide +kernel
theorem dX4_fingerprint_228 : decode cX4_fingerprint 228 = .ok (.iinc 3 1, 3) := by decide +kernel
theorem dX4_fingerprint_231 : decode cX4_fingerprint 231 = .ok (.goto (-50), 3) := by decide +kernel
theorem dX4_fingerprint_234 : decode cX4_fingerprint 234 = .ok (.lload_n 1, 1) := by decide +kernel
theorem dX4_fingerprint_235 : decode cX4_fingerprint 235 = .ok (.lreturn, 1) := by decide +kernel
end
section
theorem dJ13_bitCount_95d88_0 : decode cJ13_bitCount_95d88 0 = .ok (.lload_n 0, 1) := by decide +kernel
theorem dJ13_bitCount_95d88_1 : decode cJ13_bitCount_95d88 1 = .ok (.lload_n 0, 1) := by decide +kernel
theorem dJ13_bitCount_95d88_2 : decode cJ13_bitCount_95d88 2 = .ok (.iconst 1, 1) := by decide +kernel
theorem dJ13_bitCount_95d88_3 : decode cJ13_bitCount_95d88 3 = .ok (.lushr, 1) := by decide +kernel
theorem dJ13_bitCount_95d88_4 : decode cJ13_bitCount_95d88 4 = .ok (.ldc2_w 314, 3) := by decide +kernel
theorem dJ13_bitCount_95d88_7 : decode cJ13_bitCount_95d88 7 = .ok (.land, 1) := by decide +kernel
theorem dJ13_bitCount_95d88_8 : decode cJ13_bitCount_95d88 8 = .ok (.lsub, 1) := by decide +kernel
theorem dJ13_bitCount_95d88_9 : decode cJ13_bitCount_95d88 9 = .ok (.lstore_n 0, 1) := by decide +kernel
theorem dJ13_bitCount_95d88_10 : decode cJ13_bitCount_95d88 10 = .ok (.lload_n 0, 1) := by decide +kernel
theorem dJ13_bitCount_95d88_11 : decode cJ13_bitCount_95d88 11 = .ok (.ldc2_w 316, 3) := by decide +kernel
theorem dJ13_bitCount_95d88_14 : decode cJ13_bitCount_95d88 14 = .ok (.land, 1) := by decide +kernel
theorem dJ13_bitCount_95d88_15 : decode cJ13_bitCount_95d88 15 = .ok (.lload_n 0, 1) := by decide +kernel
theorem dJ13_bitCount_95d88_16 : decode cJ13_bitCount_95d88 16 = .ok (.iconst 2, 1) := by decide +kernel
theorem dJ13_bitCount_95d88_17 : decode cJ13_bitCount_95d88 17 = .ok (.lushr, 1) := by decide +kernel
theorem dJ13_bitCount_95d88_18 : decode cJ13_bitCount_95d88 18 = .ok (.ldc2_w 316, 3) := by decide +kernel
theorem dJ13_bitCount_95d88_21 : decode cJ13_bitCount_95d88 21 = .ok (.land, 1) := by decide +kernel
theorem dJ13_bitCount_95d88_22 : decode cJ13_bitCount_95d88 22 = .ok (.ladd, 1) := by decide +kernel
theorem dJ13_bitCount_95d88_23 : decode cJ13_bitCount_95d88 23 = .ok (.lstore_n 0, 1) := by decide +kernel
theorem dJ13_bitCount_95d88_24 : decode cJ13_bitCount_95d88 24 = .ok (.lload_n 0, 1) := by decide +kernel
theorem dJ13_bitCount_95d88_25 : decode cJ13_bitCount_95d88 25 = .ok (.lload_n 0, 1) := by decide +kernel
theorem dJ13_bitCount_95d88_26 : decode cJ13_bitCount_95d88 26 = .ok (.iconst 4, 1) := by decide +kernel
theorem dJ13_bitCount_95d88_27 : decode cJ13_bitCount_95d88 27 = .ok (.lushr, 1) := by decide +kernel
theorem dJ13_bitCount_95d88_28 : decode cJ13_bitCount_95d88 28 = .ok (.ladd, 1) := by decide +kernel
theorem dJ13_bitCount_95d88_29 : decode cJ13_bitCount_95d88 29 = .ok (.ldc2_w 318, 3) := by decide +kernel
theorem dJ13_bitCount_95d88_32 : decode cJ13_bitCount_95d88 32 = .ok (.land, 1) := by decide +kernel
theorem dJ13_bitCount_95d88_33 : decode cJ13_bitCount_95d88 33 = .ok (.lstore_n 0, 1) := by decide +kernel
theorem dJ13_bitCount_95d88_34 : decode cJ13_bitCount_95d88 34 = .ok (.lload_n 0, 1) := by decide +kernel
theorem dJ13_bitCount_95d88_35 : decode cJ13_bitCount_95d88 35 = .ok (.lload_n 0, 1) := by decide +kernel
theorem dJ13_bitCount_95d88_36 : decode cJ13_bitCount_95d88 36 = .ok (.bipush 8, 2) := by decide +kernel
theorem dJ13_bitCount_95d88_38 : decode cJ13_bitCount_95d88 38 = .ok (.lushr, 1) := by decide +kernel
theorem dJ13_bitCount_95d88_39 : decode cJ13_bitCount_95d88 39 = .ok (.ladd, 1) := by decide +kernel
theorem dJ13_bitCount_95d88_40 : decode cJ13_bitCount_95d88 40 = .ok (.lstore_n 0, 1) := by decide +kernel
theorem dJ13_bitCount_95d88_41 : decode cJ13_bitCount_95d88 41 = .ok (.lload_n 0, 1) := by decide +kernel
theorem dJ13_bitCount_95d88_42 : decode cJ13_bitCount_95d88 42 = .ok (.lload_n 0, 1) := by decide +kernel
theorem dJ13_bitCount_95d88_43 : decode cJ13_bitCount_95d88 43 = .ok (.bipush 16, 2) := by decide +kernel
theorem dJ13_bitCount_95d88_45 : decode cJ13_bitCount_95d88 45 = .ok (.lushr, 1) := by decide +kernel
theorem dJ13_bitCount_95d88_46 : decode cJ13_bitCount_95d88 46 = .ok (.ladd, 1) := by decide +kernel
theorem dJ13_bitCount_95d88_47 : decode cJ13_bitCount_95d88 47 = .ok (.lstore_n 0, 1) := by decide +kernel
theorem dJ13_bitCount_95d88_48 : decode cJ13_bitCount_95d88 48 = .ok (.lload_n 0, 1) := by decide +kernel
theorem dJ13_bitCount_95d88_49 : decode cJ13_bitCount_95d88 49 = .ok (.lload_n 0, 1) := by decide +kernel
theorem dJ13_bitCount_95d88_50 : decode cJ13_bitCount_95d88 50 = .ok (.bipush 32, 2) := by decide +kernel
theorem dJ13_bitCount_95d88_52 : decode cJ13_bitCount_95d88 52 = .ok (.lushr, 1) := by decide +kernel
theorem dJ13_bitCount_95d88_53 : decode cJ13_bitCount_95d88 53 = .ok (.ladd, 1) := by decide +kernel
theorem dJ13_bitCount_95d88_54 : decode cJ13_bitCount_95d88 54 = .ok (.lstore_n 0, 1) := by decide +kernel
theorem dJ13_bitCount_95d88_55 : decode cJ13_bitCount_95d88 55 = .ok (.lload_n 0, 1) := by decide +kernel
theorem dJ13_bitCount_95d88_56 : decode cJ13_bitCount_95d88 56 = .ok (.l2i, 1) := by decide +kernel
theorem dJ13_bitCount_95d88_57 : decode cJ13_bitCount_95d88 57 = .ok (.bipush 127, 2) := by decide +kernel
theorem dJ13_bitCount_95d88_59 : decode cJ13_bitCount_95d88 59 = .ok (.iand, 1) := by decide +kernel
theorem dJ13_bitCount_95d88_60 : decode cJ13_bitCount_95d88 60 = .ok (.ireturn, 1) := by decide +kernel
theorem dJ9_max_7cf53_0 : decode cJ9_max_7cf53 0 = .ok (.iload_n 0, 1) := by decide +kernel
theorem dJ9_max_7cf53_1 : decode cJ9_max_7cf53 1 = .ok (.iload_n 1, 1) := by decide +kernel
theorem dJ9_max_7cf53_2 : decode cJ9_max_7cf53 2 = .ok (.if_icmp .lt 7, 3) := by decide +kernel
theorem dJ9_max_7cf53_5 : decode cJ9_max_7cf53 5 = .ok (.iload_n 0, 1) := by decide +kernel
theorem dJ9_max_7cf53_6 : decode cJ9_max_7cf53 6 = .ok (.goto 4, 3) := by decide +kernel
theorem dJ9_max_7cf53_9 : decode cJ9_max_7cf53 9 = .ok (.iload_n 1, 1) := by decide +kernel
theorem dJ9_max_7cf53_10 : decode cJ9_max_7cf53 10 = .ok (.ireturn, 1) := by decide +kernel
theorem dJ9_min_7cf53_0 : decode cJ9_min_7cf53 0 = .ok (.iload_n 0, 1) := by decide +kernel
theorem dJ9_min_7cf53_1 : decode cJ9_min_7cf53 1 = .ok (.iload_n 1, 1) := by decide +kernel
theorem dJ9_min_7cf53_2 : decode cJ9_min_7cf53 2 = .ok (.if_icmp .gt 7, 3) := by decide +kernel
theorem dJ9_min_7cf53_5 : decode cJ9_min_7cf53 5 = .ok (.iload_n 0, 1) := by decide +kernel
theorem dJ9_min_7cf53_6 : decode cJ9_min_7cf53 6 = .ok (.goto 4, 3) := by decide +kernel
theorem dJ9_min_7cf53_9 : decode cJ9_min_7cf53 9 = .ok (.iload_n 1, 1) := by decide +kernel
theorem dJ9_min_7cf53_10 : decode cJ9_min_7cf53 10 = .ok (.ireturn, 1) := by decide +kernel
theorem dJ7_fill_d0a16_0 : decode cJ7_fill_d0a16 0 = .ok (.iconst 0, 1) := by decide +kernel
theorem dJ7_fill_d0a16_1 : decode cJ7_fill_d0a16 1 = .ok (.istore_n 3, 1) := by decide +kernel
theorem dJ7_fill_d0a16_2 : decode cJ7_fill_d0a16 2 = .ok (.aload_n 0, 1) := by decide +kernel
theorem dJ7_fill_d0a16_3 : decode cJ7_fill_d0a16 3 = .ok (.arraylength, 1) := by decide +kernel
theorem dJ7_fill_d0a16_4 : decode cJ7_fill_d0a16 4 = .ok (.istore 4, 2) := by decide +kernel
theorem dJ7_fill_d0a16_6 : decode cJ7_fill_d0a16 6 = .ok (.iload_n 3, 1) := by decide +kernel
theorem dJ7_fill_d0a16_7 : decode cJ7_fill_d0a16 7 = .ok (.iload 4, 2) := by decide +kernel
theorem dJ7_fill_d0a16_9 : decode cJ7_fill_d0a16 9 = .ok (.if_icmp .ge 13, 3) := by decide +kernel
theorem dJ7_fill_d0a16_12 : decode cJ7_fill_d0a16 12 = .ok (.aload_n 0, 1) := by decide +kernel
theorem dJ7_fill_d0a16_13 : decode cJ7_fill_d0a16 13 = .ok (.iload_n 3, 1) := by decide +kernel
theorem dJ7_fill_d0a16_14 : decode cJ7_fill_d0a16 14 = .ok (.lload_n 1, 1) := by decide +kernel
theorem dJ7_fill_d0a16_15 : decode cJ7_fill_d0a16 15 = .ok (.lastore, 1) := by decide +kernel
theorem dJ7_fill_d0a16_16 : decode cJ7_fill_d0a16 16 = .ok (.iinc 3 1, 3) := by decide +kernel
theorem dJ7_fill_d0a16_19 : decode cJ7_fill_d0a16 19 = .ok (.goto (-13), 3) := by decide +kernel
theorem dJ7_fill_d0a16_22 : decode cJ7_fill_d0a16 22 = .ok (.return_, 1) := by decide +kernel
set_option maxRecDepth 20000 in
theorem ggL_law_X3_init : GoodIn wsL_law wsX3_init := goodIn_r _ [8, 9, 10, 11, 12, 13, 14, 15, 16, 17, 18, 19, 20, 21, 22, 23, 24, 25, 26, 27, 28, 29, 30, 31, 32, 33, 34, 35, 36, 37, 38, 39, 40, 41, 42, 43, 548, 549, 550, 535, 536, 537, 538, 539, 551, 552, 553] (by decide +kernel) (by decide +kernel)
set_option maxRecDepth 20000 in
theorem gL_law_X3_init : GoodIn wsL_law (wsX3_init) := ggL_law_X3_init
set_option maxRecDepth 20000 in
theorem ggL_law_X4_init : GoodIn wsL_law wsX4_init := goodIn_r _ [46, 47, 10, 11, 31, 48, 49, 50, 51, 52, 540, 541, 542, 543, 544, 545, 546, 547] (by decide +kernel) (by decide +kernel)
set_option maxRecDepth 20000 in
theorem gL_law_X4_init : GoodIn wsL_law (wsX4_init) := ggL_law_X4_init
set_option maxRecDepth 20000 in
theorem ggL_law_X3_add : GoodIn wsL_law wsX3_add := goodIn_r _ [56, 15, 57, 58, 2, 59, 60, 61, 62, 63, 64, 65, 66, 67, 68, 69, 17, 16, 70, 14, 71, 72, 30, 32, 73, 74, 75, 76, 33, 77, 24, 78, 79, 38, 80, 81, 82, 83, 84, 85, 86, 87, 88, 89, 90, 91, 92, 93, 94, 95, 96, 97, 98, 99, 100, 101, 102, 103, 104, 105, 106, 107, 108, 109, 110, 111, 112, 113, 114, 115, 116, 117, 118, 119, 120, 121, 122, 123, 124, 548, 549, 550, 535, 536, 537, 538, 539, 553] (by decide +kernel) (by decide +kernel)
set_option maxRecDepth 20000 in
theorem gL_law_X3_add : GoodIn wsL_law (wsV RL 13 RX3 yX3_add wsX3_add) := goodIn_app (goodIn_of _ (by decide +kernel)) ggL_law_X3_add
set_option maxRecDepth 20000 in
theorem ggL_law_X4_add : GoodIn wsL_law wsX4_add := goodIn_r _ [128, 129, 130, 5, 131, 132, 133, 134, 135, 136, 137, 138, 139, 140, 141, 142, 143, 144, 145, 146, 50, 48, 49, 147, 148, 149, 150, 151, 152, 153, 154, 155, 156, 157, 158, 159, 160, 161, 162, 163, 164, 165, 166, 167, 168, 169, 170, 171, 172, 173, 540, 541, 542, 543, 544, 545, 546, 547] (by decide +kernel) (by decide +kernel)
set_option maxRecDepth 20000 in
theorem gL_law_X4_add : GoodIn wsL_law (wsV RL 17 RX4 yX4_add wsX4_add) := goodIn_app (goodIn_of _ (by decide +kernel)) ggL_law_X4_add
set_option maxRecDepth 20000 in
theorem ggL_law_X3_remove : GoodIn wsL_law wsX3_remove := goodIn_r _ [177, 15, 57, 58, 2, 59, 60, 61, 62, 63, 64, 65, 66, 67, 68, 69, 17, 16, 70, 14, 71, 72, 30, 32, 73, 74, 75, 76, 33, 77, 24, 78, 79, 38, 80, 178, 179, 180, 94, 84, 85, 86, 87, 88, 89, 90, 91, 92, 93, 95, 96, 97, 98, 99, 100, 101, 102, 103, 104, 105, 106, 107, 108, 109, 110, 111, 112, 113, 114, 115, 116, 117, 118, 119, 120, 121, 122, 123, 124, 548, 549, 550, 535, 536, 537, 538, 539, 553] (by decide +kernel) (by decide +kernel)
set_option maxRecDepth 20000 in
theorem gL_law_X3_remove : GoodIn wsL_law (wsV RL 18 RX3 yX3_remove wsX3_remove) := goodIn_app (goodIn_of _ (by decide +kernel)) ggL_law_X3_remove
set_option maxRecDepth 20000 in
theorem ggL_law_X4_remove : GoodIn wsL_law wsX4_remove := goodIn_r _ [184, 129, 130, 5, 131, 132, 133, 134, 135, 136, 137, 138, 139, 140, 141, 142, 143, 144, 145, 146, 50, 48, 49, 147, 148, 149, 150, 151, 152, 153, 154, 155, 156, 157, 158, 159, 160, 161, 162, 163, 164, 165, 166, 167, 168, 169, 170, 171, 172, 173, 540, 541, 542, 543, 544, 545, 546, 547] (by decide +kernel) (by decide +kernel)
set_option maxRecDepth 20000 in
theorem gL_law_X4_remove : GoodIn wsL_law (wsV RL 21 RX4 yX4_remove wsX4_remove) := goodIn_app (goodIn_of _ (by decide +kernel)) ggL_law_X4_remove
set_option maxRecDepth 20000 in
theorem ggL_law_X3_flip : GoodIn wsL_law wsX3_flip := goodIn_r _ [188, 15, 57, 58, 2, 59, 60, 61, 62, 63, 64, 65, 66, 67, 68, 69, 17, 16, 70, 14, 71, 72, 30, 32, 73, 74, 75, 76, 33, 77, 24, 78, 79, 38, 80, 189, 190, 191, 84, 85, 86, 87, 88, 89, 90, 91, 92, 93, 94, 95, 96, 97, 98, 99, 100, 101, 102, 103, 104, 105, 106, 107, 108, 109, 110, 111, 112, 113, 114, 115, 116, 117, 118, 119, 120, 121, 192, 193, 194, 548, 549, 550, 535, 536, 537, 538, 539, 553] (by decide +kernel) (by decide +kernel)
set_option maxRecDepth 20000 in
theorem gL_law_X3_flip : GoodIn wsL_law (wsV RL 22 RX3 yX3_flip wsX3_flip) := goodIn_app (goodIn_of _ (by decide +kernel)) ggL_law_X3_flip
set_option maxRecDepth 20000 in
theorem ggL_law_X4_flip : GoodIn wsL_law wsX4_flip := goodIn_r _ [198, 129, 130, 5, 131, 132, 133, 134, 135, 136, 137, 138, 139, 140, 141, 142, 143, 144, 145, 146, 50, 48, 49, 147, 148, 149, 150, 151, 152, 153, 154, 155, 156, 157, 158, 159, 160, 161, 162, 163, 164, 165, 166, 167, 168, 169, 170, 171, 172, 173, 540, 541, 542, 543, 544, 545, 546, 547] (by decide +kernel) (by decide +kernel)
set_option maxRecDepth 20000 in
theorem gL_law_X4_flip : GoodIn wsL_law (wsV RL 25 RX4 yX4_flip wsX4_flip) := goodIn_app (goodIn_of _ (by decide +kernel)) ggL_law_X4_flip
set_option maxRecDepth 20000 in
theorem ggL_law_X3_scatter : GoodIn wsL_law wsX3_scatter := goodIn_r _ [202, 15, 203, 57, 58, 2, 59, 66, 67, 68, 69, 17, 16, 70, 14, 71, 72, 30, 32, 73, 74, 75, 76, 33, 77, 24, 78, 79, 38, 80, 204, 205, 206, 64, 65, 95, 96, 97, 98, 99, 100, 101, 102, 103, 104, 105, 106, 107, 108, 109, 110, 111, 112, 113, 114, 115, 116, 117, 118, 119, 94, 120, 121, 122, 123, 124, 548, 549, 550, 535, 536, 537, 538, 539, 553] (by decide +kernel) (by decide +kernel)
set_option maxRecDepth 20000 in
theorem gL_law_X3_scatter : GoodIn wsL_law (wsV RL 26 RX3 yX3_scatter wsX3_scatter) := goodIn_app (goodIn_of _ (by decide +kernel)) ggL_law_X3_scatter
set_option maxRecDepth 20000 in
theorem ggL_law_X4_scatter : GoodIn wsL_law wsX4_scatter := goodIn_r _ [210, 211, 132, 133, 5, 134, 135, 136, 137, 142, 143, 144, 145, 146, 50, 48, 49, 154, 155, 156, 157, 158, 159, 160, 161, 162, 163, 164, 165, 166, 167, 151, 152, 153, 168, 169, 170, 171, 172, 173, 212, 213, 214, 215, 147, 148, 149, 150, 540, 541, 542, 543, 544, 545, 546, 547] (by decide +kernel) (by decide +kernel)
set_option maxRecDepth 20000 in
theorem gL_law_X4_scatter : GoodIn wsL_law (wsV RL 29 RX4 yX4_scatter wsX4_scatter) := goodIn_app (goodIn_of _ (by decide +kernel)) ggL_law_X4_scatter
set_option maxRecDepth 20000 in
theorem ggL_law_X3_combine : GoodIn wsL_law wsX3_combine := goodIn_r _ [219, 15, 57, 58, 2, 59, 66, 67, 68, 69, 17, 16, 70, 14, 71, 72, 30, 32, 73, 74, 75, 76, 33, 77, 24, 78, 79, 38, 80, 220, 221, 222, 223, 224, 225, 94, 226, 227, 228, 98, 99, 100, 101, 102, 103, 104, 105, 106, 107, 108, 109, 110, 111, 112, 113, 114, 115, 116, 117, 118, 119, 120, 121, 95, 96, 97, 122, 123, 124, 535, 536, 537, 538, 539, 548, 549, 550, 553] (by decide +kernel) (by decide +kernel)
set_option maxRecDepth 20000 in
theorem gL_law_X3_combine : GoodIn wsL_law (wsV RL 30 RX3 yX3_combine wsX3_combine) := goodIn_app (goodIn_of _ (by decide +kernel)) ggL_law_X3_combine
set_option maxRecDepth 20000 in
theorem ggL_law_X4_combine : GoodIn wsL_law wsX4_combine := goodIn_r _ [232, 49, 48, 135, 136, 5, 137, 132, 133, 134, 142, 143, 144, 145, 146, 50, 162, 163, 164, 165, 166, 167, 151, 152, 153, 168, 169, 170, 171, 172, 173, 158, 159, 160, 161, 212, 213, 214, 215, 147, 148, 149, 150, 540, 541, 542, 543, 544, 545, 546, 547] (by decide +kernel) (by decide +kernel)
set_option maxRecDepth 20000 in
theorem gL_law_X4_combine : GoodIn wsL_law (wsV RL 34 RX4 yX4_combine wsX4_combine) := goodIn_app (goodIn_of _ (by decide +kernel)) ggL_law_X4_combine
set_option maxRecDepth 20000 in
theorem ggL_law_X3_shift : GoodIn wsL_law wsX3_shift := goodIn_r _ [236, 15, 57, 58, 2, 59, 66, 67, 68, 69, 17, 16, 70, 14, 71, 72, 30, 32, 73, 74, 75, 76, 33, 77, 24, 78, 79, 38, 80, 237, 238, 239, 105, 106, 107, 108, 95, 96, 97, 98, 99, 100, 101, 102, 103, 104, 109, 110, 111, 112, 113, 114, 115, 116, 117, 118, 119, 94, 120, 121, 122, 123, 124, 548, 549, 550, 535, 536, 537, 538, 539, 553] (by decide +kernel) (by decide +kernel)
set_option maxRecDepth 20000 in
theorem gL_law_X3_shift : GoodIn wsL_law (wsV RL 35 RX3 yX3_shift wsX3_shift) := goodIn_app (goodIn_of _ (by decide +kernel)) ggL_law_X3_shift
set_option maxRecDepth 20000 in
theorem ggL_law_X4_shift : GoodIn wsL_law wsX4_shift := goodIn_r _ [243, 48, 49, 132, 133, 5, 134, 135, 136, 137, 142, 143, 144, 145, 146, 50, 151, 152, 153, 154, 155, 156, 157, 158, 159, 160, 161, 162, 163, 164, 165, 166, 167, 168, 169, 170, 171, 172, 173, 540, 541, 542, 543, 544, 545, 546, 547] (by decide +kernel) (by decide +kernel)
set_option maxRecDepth 20000 in
theorem gL_law_X4_shift : GoodIn wsL_law (wsV RL 39 RX4 yX4_shift wsX4_shift) := goodIn_app (goodIn_of _ (by decide +kernel)) ggL_law_X4_shift
set_option maxRecDepth 20000 in
theorem ggL_law_X3_size : GoodIn wsL_law wsX3_size := goodIn_r _ [247, 15, 57, 58, 2, 59, 122, 24, 123, 124, 101, 102, 103, 104, 105, 106, 107, 108, 38, 109, 110, 111, 112, 113, 114, 115, 535, 536, 537, 538, 539, 548, 549, 550, 553] (by decide +kernel) (by decide +kernel)
set_option maxRecDepth 20000 in
theorem gL_law_X3_size : GoodIn wsL_law (wsV RL 40 RX3 yX3_size wsX3_size) := goodIn_app (goodIn_of _ (by decide +kernel)) ggL_law_X3_size
set_option maxRecDepth 20000 in
theorem ggL_law_X4_size : GoodIn wsL_law wsX4_size := goodIn_r _ [251, 132, 133, 5, 134, 135, 136, 137, 212, 213, 214, 215, 147, 148, 149, 150, 48, 151, 152, 153, 540, 541, 542, 543, 544, 545, 546, 547] (by decide +kernel) (by decide +kernel)
set_option maxRecDepth 20000 in
theorem gL_law_X4_size : GoodIn wsL_law (wsV RL 44 RX4 yX4_size wsX4_size) := goodIn_app (goodIn_of _ (by decide +kernel)) ggL_law_X4_size
set_option maxRecDepth 20000 in
theorem ggL_law_X3_contains : GoodIn wsL_law wsX3_contains := goodIn_r _ [255, 15, 57, 58, 2, 59, 256, 24, 257, 258, 38, 64, 65, 535, 536, 537, 538, 539, 548, 549, 550, 553] (by decide +kernel) (by decide +kernel)
set_option maxRecDepth 20000 in
theorem gL_law_X3_contains : GoodIn wsL_law (wsV RL 45 RX3 yX3_contains wsX3_contains) := goodIn_app (goodIn_of _ (by decide +kernel)) ggL_law_X3_contains
set_option maxRecDepth 20000 in
theorem ggL_law_X4_contains : GoodIn wsL_law wsX4_contains := goodIn_r _ [262, 132, 133, 5, 134, 135, 136, 137, 147, 148, 149, 150, 48, 151, 152, 153, 540, 541, 542, 543, 544, 545, 546, 547] (by decide +kernel) (by decide +kernel)
set_option maxRecDepth 20000 in
theorem gL_law_X4_contains : GoodIn wsL_law (wsV RL 48 RX4 yX4_contains wsX4_contains) := goodIn_app (goodIn_of _ (by decide +kernel)) ggL_law_X4_contains
set_option maxRecDepth 20000 in
theorem ggL_law_X3_rank : GoodIn wsL_law wsX3_rank := goodIn_r _ [266, 15, 57, 58, 2, 59, 192, 24, 193, 194, 38, 84, 85, 86, 87, 88, 89, 90, 91, 92, 93, 94, 109, 110, 111, 112, 113, 114, 115, 535, 536, 537, 538, 539, 548, 549, 550, 553] (by decide +kernel) (by decide +kernel)
set_option maxRecDepth 20000 in
theorem gL_law_X3_rank : GoodIn wsL_law (wsV RL 49 RX3 yX3_rank wsX3_rank) := goodIn_app (goodIn_of _ (by decide +kernel)) ggL_law_X3_rank
set_option maxRecDepth 20000 in
theorem ggL_law_X4_rank : GoodIn wsL_law wsX4_rank := goodIn_r _ [270, 132, 133, 5, 134, 135, 136, 137, 147, 148, 149, 150, 48, 151, 152, 153, 540, 541, 542, 543, 544, 545, 546, 547] (by decide +kernel) (by decide +kernel)
set_option maxRecDepth 20000 in
theorem gL_law_X4_rank : GoodIn wsL_law (wsV RL 52 RX4 yX4_rank wsX4_rank) := goodIn_app (goodIn_of _ (by decide +kernel)) ggL_law_X4_rank
set_option maxRecDepth 20000 in
theorem ggL_law_X3_select : GoodIn wsL_law wsX3_select := goodIn_r _ [274, 15, 57, 58, 2, 59, 275, 24, 276, 277, 38, 109, 110, 111, 112, 113, 114, 115, 278, 279, 280, 535, 536, 537, 538, 539, 548, 549, 550, 553] (by decide +kernel) (by decide +kernel)
set_option maxRecDepth 20000 in
theorem gL_law_X3_select : GoodIn wsL_law (wsV RL 53 RX3 yX3_select wsX3_select) := goodIn_app (goodIn_of _ (by decide +kernel)) ggL_law_X3_select
set_option maxRecDepth 20000 in
theorem ggL_law_X4_select : GoodIn wsL_law wsX4_select := goodIn_r _ [284, 132, 133, 5, 134, 135, 136, 137, 147, 148, 149, 150, 48, 151, 152, 153, 540, 541, 542, 543, 544, 545, 546, 547] (by decide +kernel) (by decide +kernel)
set_option maxRecDepth 20000 in
theorem gL_law_X4_select : GoodIn wsL_law (wsV RL 56 RX4 yX4_select wsX4_select) := goodIn_app (goodIn_of _ (by decide +kernel)) ggL_law_X4_select
set_option maxRecDepth 20000 in
theorem ggL_law_X3_near : GoodIn wsL_law wsX3_near := goodIn_r _ [288, 15, 57, 58, 2, 59, 192, 24, 193, 194, 38, 84, 85, 86, 87, 88, 89, 90, 91, 92, 93, 94, 109, 110, 111, 112, 113, 114, 115, 275, 276, 277, 278, 279, 280, 535, 536, 537, 538, 539, 548, 549, 550, 553] (by decide +kernel) (by decide +kernel)
set_option maxRecDepth 20000 in
theorem gL_law_X3_near : GoodIn wsL_law (wsV RL 57 RX3 yX3_near wsX3_near) := goodIn_app (goodIn_of _ (by decide +kernel)) ggL_law_X3_near
set_option maxRecDepth 20000 in
theorem ggL_law_X4_near : GoodIn wsL_law wsX4_near := goodIn_r _ [292, 132, 133, 5, 134, 135, 136, 137, 147, 148, 149, 150, 48, 151, 152, 153, 540, 541, 542, 543, 544, 545, 546, 547] (by decide +kernel) (by decide +kernel)
set_option maxRecDepth 20000 in
theorem gL_law_X4_near : GoodIn wsL_law (wsV RL 61 RX4 yX4_near wsX4_near) := goodIn_app (goodIn_of _ (by decide +kernel)) ggL_law_X4_near
set_option maxRecDepth 20000 in
theorem ggL_law_X3_runs : GoodIn wsL_law wsX3_runs := goodIn_r _ [296, 15, 57, 58, 2, 59, 117, 24, 118, 119, 94, 105, 106, 107, 108, 38, 109, 110, 111, 112, 113, 114, 115, 535, 536, 537, 538, 539, 548, 549, 550, 553] (by decide +kernel) (by decide +kernel)
set_option maxRecDepth 20000 in
theorem gL_law_X3_runs : GoodIn wsL_law (wsV RL 62 RX3 yX3_runs wsX3_runs) := goodIn_app (goodIn_of _ (by decide +kernel)) ggL_law_X3_runs
set_option maxRecDepth 20000 in
theorem ggL_law_X4_runs : GoodIn wsL_law wsX4_runs := goodIn_r _ [300, 132, 133, 5, 134, 135, 136, 137, 301, 302, 303, 304, 147, 148, 149, 150, 48, 151, 152, 153, 540, 541, 542, 543, 544, 545, 546, 547] (by decide +kernel) (by decide +kernel)
set_option maxRecDepth 20000 in
theorem gL_law_X4_runs : GoodIn wsL_law (wsV RL 65 RX4 yX4_runs wsX4_runs) := goodIn_app (goodIn_of _ (by decide +kernel)) ggL_law_X4_runs
set_option maxRecDepth 20000 in
theorem ggL_law_X3_run : GoodIn wsL_law wsX3_run := goodIn_r _ [308, 15, 57, 58, 2, 59, 309, 310, 311, 312, 25, 237, 24, 238, 239, 38, 105, 106, 107, 108, 220, 221, 222, 223, 224, 225, 94, 275, 276, 277, 109, 110, 111, 112, 113, 114, 115, 278, 279, 280, 535, 536, 537, 538, 539, 548, 549, 550, 553] (by decide +kernel) (by decide +kernel)
set_option maxRecDepth 20000 in
theorem gL_law_X3_run : GoodIn wsL_law (wsV RL 66 RX3 yX3_run wsX3_run) := goodIn_app (goodIn_of _ (by decide +kernel)) ggL_law_X3_run
set_option maxRecDepth 20000 in
theorem ggL_law_X4_run : GoodIn wsL_law wsX4_run := goodIn_r _ [316, 132, 133, 5, 134, 135, 136, 137, 301, 302, 303, 304, 147, 148, 149, 150, 48, 151, 152, 153, 540, 541, 542, 543, 544, 545, 546, 547] (by decide +kernel) (by decide +kernel)
set_option maxRecDepth 20000 in
theorem gL_law_X4_run : GoodIn wsL_law (wsV RL 69 RX4 yX4_run wsX4_run) := goodIn_app (goodIn_of _ (by decide +kernel)) ggL_law_X4_run
set_option maxRecDepth 20000 in
theorem ggL_law_X3_piece : GoodIn wsL_law wsX3_piece := goodIn_r _ [320, 15, 57, 58, 2, 59, 321, 24, 322, 323, 324, 98, 99, 100, 101, 102, 103, 104, 105, 106, 107, 108, 38, 109, 110, 111, 112, 113, 114, 115, 116, 117, 118, 119, 94, 325, 326, 327, 328, 535, 536, 537, 538, 539, 548, 549, 550, 553] (by decide +kernel) (by decide +kernel)
set_option maxRecDepth 20000 in
theorem gL_law_X3_piece : GoodIn wsL_law (wsV RL 70 RX3 yX3_piece wsX3_piece) := goodIn_app (goodIn_of _ (by decide +kernel)) ggL_law_X3_piece
set_option maxRecDepth 20000 in
theorem ggL_law_X4_piece : GoodIn wsL_law wsX4_piece := goodIn_r _ [332, 132, 133, 5, 134, 135, 136, 137, 333, 334, 335, 336, 48, 165, 166, 167, 151, 152, 153, 168, 169, 170, 171, 172, 173, 337, 338, 339, 540, 541, 542, 543, 544, 545, 546, 547] (by decide +kernel) (by decide +kernel)
set_option maxRecDepth 20000 in
theorem gL_law_X4_piece : GoodIn wsL_law (wsV RL 73 RX4 yX4_piece wsX4_piece) := goodIn_app (goodIn_of _ (by decide +kernel)) ggL_law_X4_piece
set_option maxRecDepth 20000 in
theorem ggL_law_X3_bytes : GoodIn wsL_law wsX3_bytes := goodIn_r _ [343, 15, 57, 58, 2, 59, 326, 24, 327, 328, 324, 98, 99, 100, 101, 102, 103, 104, 105, 106, 107, 108, 38, 109, 110, 111, 112, 113, 114, 115, 116, 117, 118, 119, 94, 535, 536, 537, 538, 539, 548, 549, 550, 553] (by decide +kernel) (by decide +kernel)
set_option maxRecDepth 20000 in
theorem gL_law_X3_bytes : GoodIn wsL_law (wsV RL 74 RX3 yX3_bytes wsX3_bytes) := goodIn_app (goodIn_of _ (by decide +kernel)) ggL_law_X3_bytes
set_option maxRecDepth 20000 in
theorem ggL_law_X4_bytes : GoodIn wsL_law wsX4_bytes := goodIn_r _ [347, 132, 133, 5, 134, 135, 136, 137, 333, 334, 335, 336, 48, 165, 166, 167, 151, 152, 153, 168, 169, 170, 171, 172, 173, 337, 338, 339, 540, 541, 542, 543, 544, 545, 546, 547] (by decide +kernel) (by decide +kernel)
set_option maxRecDepth 20000 in
theorem gL_law_X4_bytes : GoodIn wsL_law (wsV RL 77 RX4 yX4_bytes wsX4_bytes) := goodIn_app (goodIn_of _ (by decide +kernel)) ggL_law_X4_bytes
set_option maxRecDepth 20000 in
theorem ggL_law_X3_byteAt : GoodIn wsL_law wsX3_byteAt := goodIn_r _ [351, 15, 57, 58, 2, 59, 326, 24, 327, 328, 324, 98, 99, 100, 101, 102, 103, 104, 105, 106, 107, 108, 38, 109, 110, 111, 112, 113, 114, 115, 116, 117, 118, 119, 94, 352, 353, 354, 355, 356, 357, 358, 359, 360, 361, 362, 363, 364, 192, 193, 194, 84, 85, 86, 87, 88, 89, 90, 91, 92, 93, 365, 275, 276, 277, 278, 279, 280, 366, 367, 368, 369, 370, 256, 257, 258, 64, 65, 535, 536, 537, 538, 539, 548, 549, 550, 553] (by decide +kernel) (by decide +kernel)
set_option maxRecDepth 20000 in
theorem gL_law_X3_byteAt : GoodIn wsL_law (wsV RL 78 RX3 yX3_byteAt wsX3_byteAt) := goodIn_app (goodIn_of _ (by decide +kernel)) ggL_law_X3_byteAt
set_option maxRecDepth 20000 in
theorem ggL_law_X4_byteAt : GoodIn wsL_law wsX4_byteAt := goodIn_r _ [374, 132, 133, 5, 134, 135, 136, 137, 333, 334, 335, 336, 48, 165, 166, 167, 151, 152, 153, 168, 169, 170, 171, 172, 173, 337, 338, 339, 375, 376, 377, 378, 147, 148, 149, 150, 540, 541, 542, 543, 544, 545, 546, 547] (by decide +kernel) (by decide +kernel)
set_option maxRecDepth 20000 in
theorem gL_law_X4_byteAt : GoodIn wsL_law (wsV RL 81 RX4 yX4_byteAt wsX4_byteAt) := goodIn_app (goodIn_of _ (by decide +kernel)) ggL_law_X4_byteAt
set_option maxRecDepth 20000 in
theorem ggL_law_X3_put : GoodIn wsL_law wsX3_put := goodIn_r _ [382, 21, 383, 20, 384, 385, 43, 42, 535, 536, 537, 538, 539, 551, 552] (by decide +kernel) (by decide +kernel)
set_option maxRecDepth 20000 in
theorem gL_law_X3_put : GoodIn wsL_law (wsV RL 82 RX3 yX3_put wsX3_put) := goodIn_app (goodIn_of _ (by decide +kernel)) ggL_law_X3_put
set_option maxRecDepth 20000 in
theorem ggL_law_X4_put : GoodIn wsL_law wsX4_put := goodIn_r _ [389, 390, 51, 135, 136, 5, 137, 540, 541, 542, 543, 544, 545, 546, 547] (by decide +kernel) (by decide +kernel)
set_option maxRecDepth 20000 in
theorem gL_law_X4_put : GoodIn wsL_law (wsV RL 85 RX4 yX4_put wsX4_put) := goodIn_app (goodIn_of _ (by decide +kernel)) ggL_law_X4_put
set_option maxRecDepth 20000 in
theorem ggL_law_X3_clear : GoodIn wsL_law wsX3_clear := goodIn_r _ [394, 21, 535, 536, 537, 538, 539, 551, 552] (by decide +kernel) (by decide +kernel)
set_option maxRecDepth 20000 in
theorem gL_law_X3_clear : GoodIn wsL_law (wsV RL 86 RX3 yX3_clear wsX3_clear) := goodIn_app (goodIn_of _ (by decide +kernel)) ggL_law_X3_clear
set_option maxRecDepth 20000 in
theorem ggL_law_X4_clear : GoodIn wsL_law wsX4_clear := goodIn_r _ [398, 390, 540, 541, 542, 543, 544, 545, 546, 547] (by decide +kernel) (by decide +kernel)
set_option maxRecDepth 20000 in
theorem gL_law_X4_clear : GoodIn wsL_law (wsV RL 90 RX4 yX4_clear wsX4_clear) := goodIn_app (goodIn_of _ (by decide +kernel)) ggL_law_X4_clear
set_option maxRecDepth 20000 in
theorem ggL_law_X3_read : GoodIn wsL_law wsX3_read := goodIn_r _ [402, 21, 25, 15, 57, 58, 2, 59, 403, 20, 404, 405, 43, 42, 406, 24, 407, 408, 38, 409, 410, 411, 412, 120, 121, 413, 414, 415, 416, 417, 418, 419, 420, 204, 205, 206, 64, 65, 421, 422, 423, 424, 425, 426, 427, 428, 81, 82, 83, 84, 85, 86, 87, 88, 89, 90, 91, 92, 93, 94, 98, 99, 100, 101, 102, 103, 104, 105, 106, 107, 108, 109, 110, 111, 112, 113, 114, 115, 116, 117, 118, 119, 66, 67, 68, 69, 17, 16, 70, 14, 71, 72, 30, 32, 73, 74, 75, 76, 33, 77, 78, 79, 80, 95, 96, 97, 122, 123, 124, 535, 536, 537, 538, 539, 548, 549, 550, 551, 552, 553] (by decide +kernel) (by decide +kernel)
set_option maxRecDepth 20000 in
theorem gL_law_X3_read : GoodIn wsL_law (wsV RL 91 RX3 yX3_read wsX3_read) := goodIn_app (goodIn_of _ (by decide +kernel)) ggL_law_X3_read
set_option maxRecDepth 20000 in
theorem ggL_law_X4_read : GoodIn wsL_law wsX4_read := goodIn_r _ [432, 48, 52, 390, 132, 133, 5, 134, 135, 136, 137, 433, 434, 435, 436, 437, 51, 438, 439, 440, 441, 442, 443, 444, 445, 446, 447, 448, 449, 450, 451, 452, 453, 454, 455, 456, 457, 171, 172, 173, 142, 143, 144, 145, 146, 50, 49, 158, 159, 160, 161, 162, 163, 164, 165, 166, 167, 151, 152, 153, 168, 169, 170, 212, 213, 214, 215, 147, 148, 149, 150, 540, 541, 542, 543, 544, 545, 546, 547] (by decide +kernel) (by decide +kernel)
set_option maxRecDepth 20000 in
theorem gL_law_X4_read : GoodIn wsL_law (wsV RL 94 RX4 yX4_read wsX4_read) := goodIn_app (goodIn_of _ (by decide +kernel)) ggL_law_X4_read
set_option maxRecDepth 20000 in
theorem ggL_law_X3_compare : GoodIn wsL_law wsX3_compare := goodIn_r _ [461, 25, 15, 57, 58, 2, 59, 462, 463, 464, 465, 220, 24, 221, 222, 38, 223, 224, 225, 94, 122, 123, 124, 101, 102, 103, 104, 105, 106, 107, 108, 109, 110, 111, 112, 113, 114, 115, 466, 467, 468, 469, 275, 276, 277, 278, 279, 280, 535, 536, 537, 538, 539, 548, 549, 550, 553] (by decide +kernel) (by decide +kernel)
set_option maxRecDepth 20000 in
theorem gL_law_X3_compare : GoodIn wsL_law (wsV RL 95 RX3 yX3_compare wsX3_compare) := goodIn_app (goodIn_of _ (by decide +kernel)) ggL_law_X3_compare
set_option maxRecDepth 20000 in
theorem ggL_law_X4_compare : GoodIn wsL_law wsX4_compare := goodIn_r _ [473, 132, 133, 5, 134, 135, 136, 137, 474, 475, 476, 477, 147, 148, 149, 150, 48, 151, 152, 153, 540, 541, 542, 543, 544, 545, 546, 547] (by decide +kernel) (by decide +kernel)
set_option maxRecDepth 20000 in
theorem gL_law_X4_compare : GoodIn wsL_law (wsV RL 98 RX4 yX4_compare wsX4_compare) := goodIn_app (goodIn_of _ (by decide +kernel)) ggL_law_X4_compare
set_option maxRecDepth 20000 in
theorem ggL_law_X3_alike : GoodIn wsL_law wsX3_alike := goodIn_r _ [481, 57, 58, 2, 59, 462, 463, 464, 465, 25, 15, 220, 24, 221, 222, 38, 223, 224, 225, 94, 122, 123, 124, 101, 102, 103, 104, 105, 106, 107, 108, 109, 110, 111, 112, 113, 114, 115, 482, 483, 484, 535, 536, 537, 538, 539, 548, 549, 550, 553] (by decide +kernel) (by decide +kernel)
set_option maxRecDepth 20000 in
theorem gL_law_X3_alike : GoodIn wsL_law (wsV RL 99 RX3 yX3_alike wsX3_alike) := goodIn_app (goodIn_of _ (by decide +kernel)) ggL_law_X3_alike
set_option maxRecDepth 20000 in
theorem ggL_law_X4_alike : GoodIn wsL_law wsX4_alike := goodIn_r _ [488, 132, 133, 5, 134, 135, 136, 137, 474, 475, 476, 477, 147, 148, 149, 150, 48, 151, 152, 153, 540, 541, 542, 543, 544, 545, 546, 547] (by decide +kernel) (by decide +kernel)
set_option maxRecDepth 20000 in
theorem gL_law_X4_alike : GoodIn wsL_law (wsV RL 102 RX4 yX4_alike wsX4_alike) := goodIn_app (goodIn_of _ (by decide +kernel)) ggL_law_X4_alike
set_option maxRecDepth 20000 in
theorem ggL_law_X3_met : GoodIn wsL_law wsX3_met := goodIn_r _ [492, 15, 493, 120, 2, 121, 535, 536, 537, 538, 539, 548, 549, 550] (by decide +kernel) (by decide +kernel)
set_option maxRecDepth 20000 in
theorem gL_law_X3_met : GoodIn wsL_law (wsV RL 103 RX3 yX3_met wsX3_met) := goodIn_app (goodIn_of _ (by decide +kernel)) ggL_law_X3_met
set_option maxRecDepth 20000 in
theorem ggL_law_X4_met : GoodIn wsL_law wsX4_met := goodIn_r _ [497, 48, 498, 499, 5, 500, 135, 136, 137, 540, 541, 542, 543, 544, 545, 546, 547] (by decide +kernel) (by decide +kernel)
set_option maxRecDepth 20000 in
theorem gL_law_X4_met : GoodIn wsL_law (wsV RL 106 RX4 yX4_met wsX4_met) := goodIn_app (goodIn_of _ (by decide +kernel)) ggL_law_X4_met
set_option maxRecDepth 20000 in
theorem ggL_law_X3_converted : GoodIn wsL_law wsX3_converted := goodIn_r _ [504, 15, 493, 120, 2, 121, 535, 536, 537, 538, 539, 548, 549, 550] (by decide +kernel) (by decide +kernel)
set_option maxRecDepth 20000 in
theorem gL_law_X3_converted : GoodIn wsL_law (wsV RL 107 RX3 yX3_converted wsX3_converted) := goodIn_app (goodIn_of _ (by decide +kernel)) ggL_law_X3_converted
set_option maxRecDepth 20000 in
theorem ggL_law_X4_converted : GoodIn wsL_law wsX4_converted := goodIn_r _ [508, 48, 498, 499, 5, 500, 135, 136, 137, 540, 541, 542, 543, 544, 545, 546, 547] (by decide +kernel) (by decide +kernel)
set_option maxRecDepth 20000 in
theorem gL_law_X4_converted : GoodIn wsL_law (wsV RL 110 RX4 yX4_converted wsX4_converted) := goodIn_app (goodIn_of _ (by decide +kernel)) ggL_law_X4_converted
set_option maxRecDepth 20000 in
theorem ggL_law_X3_undo : GoodIn wsL_law wsX3_undo := goodIn_r _ [512, 17, 15, 16, 535, 536, 537, 538, 539] (by decide +kernel) (by decide +kernel)
set_option maxRecDepth 20000 in
theorem gL_law_X3_undo : GoodIn wsL_law (wsV RL 111 RX3 yX3_undo wsX3_undo) := goodIn_app (goodIn_of _ (by decide +kernel)) ggL_law_X3_undo
set_option maxRecDepth 20000 in
theorem ggL_law_X4_undo : GoodIn wsL_law wsX4_undo := goodIn_r _ [516, 146, 48, 50, 540, 541, 542, 543, 544, 545, 546, 547] (by decide +kernel) (by decide +kernel)
set_option maxRecDepth 20000 in
theorem gL_law_X4_undo : GoodIn wsL_law (wsV RL 114 RX4 yX4_undo wsX4_undo) := goodIn_app (goodIn_of _ (by decide +kernel)) ggL_law_X4_undo
set_option maxRecDepth 20000 in
theorem ggL_law_X3_fingerprint : GoodIn wsL_law wsX3_fingerprint := goodIn_r _ [520, 521, 15, 522, 523, 524, 2, 525, 122, 24, 123, 124, 101, 102, 103, 104, 105, 106, 107, 108, 38, 109, 110, 111, 112, 113, 114, 115, 321, 322, 323, 324, 98, 99, 100, 116, 117, 118, 119, 94, 325, 326, 327, 328, 526, 527, 528, 535, 536, 537, 538, 539, 548, 549, 550, 553] (by decide +kernel) (by decide +kernel)
set_option maxRecDepth 20000 in
theorem gL_law_X3_fingerprint : GoodIn wsL_law (wsV RL 115 RX3 yX3_fingerprint wsX3_fingerprint) := goodIn_app (goodIn_of _ (by decide +kernel)) ggL_law_X3_fingerprint
set_option maxRecDepth 20000 in
theorem ggL_law_X4_fingerprint : GoodIn wsL_law wsX4_fingerprint := goodIn_r _ [532, 533, 534, 48, 212, 213, 214, 5, 215, 147, 148, 149, 150, 151, 152, 153, 165, 166, 167, 333, 334, 335, 336, 168, 169, 170, 171, 172, 173, 337, 338, 339, 540, 541, 542, 543, 544, 545, 546, 547] (by decide +kernel) (by decide +kernel)
set_option maxRecDepth 20000 in
theorem gL_law_X4_fingerprint : GoodIn wsL_law (wsV RL 119 RX4 yX4_fingerprint wsX4_fingerprint) := goodIn_app (goodIn_of _ (by decide +kernel)) ggL_law_X4_fingerprint
theorem dL_law_0 : decode cL_law 0 = .ok (.new 7, 3) := by decide +kernel
theorem dL_law_3 : decode cL_law 3 = .ok (.dup, 1) := by decide +kernel
theorem dL_law_4 : decode cL_law 4 = .ok (.invokespecial 9, 3) := by decide +kernel
theorem dL_law_7 : decode cL_law 7 = .ok (.astore_n 1, 1) := by decide +kernel
theorem dL_law_8 : decode cL_law 8 = .ok (.new 10, 3) := by decide +kernel
theorem dL_law_11 : decode cL_law 11 = .ok (.dup, 1) := by decide +kernel
theorem dL_law_12 : decode cL_law 12 = .ok (.invokespecial 12, 3) := by decide +kernel
theorem dL_law_15 : decode cL_law 15 = .ok (.astore_n 2, 1) := by decide +kernel
theorem dL_law_16 : decode cL_law 16 = .ok (.iconst 0, 1) := by decide +kernel
theorem dL_law_17 : decode cL_law 17 = .ok (.istore_n 3, 1) := by decide +kernel
theorem dL_law_18 : decode cL_law 18 = .ok (.iload_n 3, 1) := by decide +kernel
theorem dL_law_19 : decode cL_law 19 = .ok (.aload_n 0, 1) := by decide +kernel
theorem dL_law_20 : decode cL_law 20 = .ok (.arraylength, 1) := by decide +kernel
theorem dL_law_21 : decode cL_law 21 = .ok (.iconst 5, 1) := by decide +kernel
theorem dL_law_22 : decode cL_law 22 = .ok (.isub, 1) := by decide +kernel
theorem dL_law_23 : decode cL_law 23 = .ok (.if_icmp .gt 979, 3) := by decide +kernel
theorem dL_law_26 : decode cL_law 26 = .ok (.aload_n 0, 1) := by decide +kernel
theorem dL_law_27 : decode cL_law 27 = .ok (.iload_n 3, 1) := by decide +kernel
theorem dL_law_28 : decode cL_law 28 = .ok (.iaload, 1) := by decide +kernel
theorem dL_law_29 : decode cL_law 29 = .ok (.bipush 31, 2) := by decide +kernel
theorem dL_law_31 : decode cL_law 31 = .ok (.iand, 1) := by decide +kernel
theorem dL_law_32 : decode cL_law 32 = .ok (.tableswitch 964 0 24 #[116, 159, 202, 245, 288, 341, 374, 397, 430, 463, 496, 555, 578, 611, 654, 677, 710, 733, 746, 769, 812, 871, 904, 937, 950], 116) := by decide +kernel
theorem dL_law_148 : decode cL_law 148 = .ok (.aload_n 1, 1) := by decide +kernel
theorem dL_law_149 : decode cL_law 149 = .ok (.aload_n 0, 1) := by decide +kernel
theorem dL_law_150 : decode cL_law 150 = .ok (.iload_n 3, 1) := by decide +kernel
theorem dL_law_151 : decode cL_law 151 = .ok (.iconst 1, 1) := by decide +kernel
theorem dL_law_152 : decode cL_law 152 = .ok (.iadd, 1) := by decide +kernel
theorem dL_law_153 : decode cL_law 153 = .ok (.iaload, 1) := by decide +kernel
theorem dL_law_154 : decode cL_law 154 = .ok (.aload_n 0, 1) := by decide +kernel
theorem dL_law_155 : decode cL_law 155 = .ok (.iload_n 3, 1) := by decide +kernel
theorem dL_law_156 : decode cL_law 156 = .ok (.iconst 2, 1) := by decide +kernel
theorem dL_law_157 : decode cL_law 157 = .ok (.iadd, 1) := by decide +kernel
theorem dL_law_158 : decode cL_law 158 = .ok (.iaload, 1) := by decide +kernel
theorem dL_law_159 : decode cL_law 159 = .ok (.aload_n 0, 1) := by decide +kernel
theorem dL_law_160 : decode cL_law 160 = .ok (.iload_n 3, 1) := by decide +kernel
theorem dL_law_161 : decode cL_law 161 = .ok (.iconst 3, 1) := by decide +kernel
theorem dL_law_162 : decode cL_law 162 = .ok (.iadd, 1) := by decide +kernel
theorem dL_law_163 : decode cL_law 163 = .ok (.iaload, 1) := by decide +kernel
theorem dL_law_164 : decode cL_law 164 = .ok (.invokevirtual 13, 3) := by decide +kernel
theorem dL_law_167 : decode cL_law 167 = .ok (.aload_n 2, 1) := by decide +kernel
theorem dL_law_168 : decode cL_law 168 = .ok (.aload_n 0, 1) := by decide +kernel
theorem dL_law_169 : decode cL_law 169 = .ok (.iload_n 3, 1) := by decide +kernel
theorem dL_law_170 : decode cL_law 170 = .ok (.iconst 1, 1) := by decide +kernel
theorem dL_law_171 : decode cL_law 171 = .ok (.iadd, 1) := by decide +kernel
theorem dL_law_172 : decode cL_law 172 = .ok (.iaload, 1) := by decide +kernel
theorem dL_law_173 : decode cL_law 173 = .ok (.aload_n 0, 1) := by decide +kernel
theorem dL_law_174 : decode cL_law 174 = .ok (.iload_n 3, 1) := by decide +kernel
theorem dL_law_175 : decode cL_law 175 = .ok (.iconst 2, 1) := by decide +kernel
theorem dL_law_176 : decode cL_law 176 = .ok (.iadd, 1) := by decide +kernel
theorem dL_law_177 : decode cL_law 177 = .ok (.iaload, 1) := by decide +kernel
theorem dL_law_178 : decode cL_law 178 = .ok (.aload_n 0, 1) := by decide +kernel
theorem dL_law_179 : decode cL_law 179 = .ok (.iload_n 3, 1) := by decide +kernel
theorem dL_law_180 : decode cL_law 180 = .ok (.iconst 3, 1) := by decide +kernel
theorem dL_law_181 : decode cL_law 181 = .ok (.iadd, 1) := by decide +kernel
theorem dL_law_182 : decode cL_law 182 = .ok (.iaload, 1) := by decide +kernel
theorem dL_law_183 : decode cL_law 183 = .ok (.invokevirtual 17, 3) := by decide +kernel
theorem dL_law_186 : decode cL_law 186 = .ok (.if_icmp .eq 810, 3) := by decide +kernel
theorem dL_law_189 : decode cL_law 189 = .ok (.iconst 0, 1) := by decide +kernel
theorem dL_law_190 : decode cL_law 190 = .ok (.ireturn, 1) := by decide +kernel
theorem dL_law_191 : decode cL_law 191 = .ok (.aload_n 1, 1) := by decide +kernel
theorem dL_law_192 : decode cL_law 192 = .ok (.aload_n 0, 1) := by decide +kernel
theorem dL_law_193 : decode cL_law 193 = .ok (.iload_n 3, 1) := by decide +kernel
theorem dL_law_194 : decode cL_law 194 = .ok (.iconst 1, 1) := by decide +kernel
theorem dL_law_195 : decode cL_law 195 = .ok (.iadd, 1) := by decide +kernel
theorem dL_law_196 : decode cL_law 196 = .ok (.iaload, 1) := by decide +kernel
theorem dL_law_197 : decode cL_law 197 = .ok (.aload_n 0, 1) := by decide +kernel
theorem dL_law_198 : decode cL_law 198 = .ok (.iload_n 3, 1) := by decide +kernel
theorem dL_law_199 : decode cL_law 199 = .ok (.iconst 2, 1) := by decide +kernel
theorem dL_law_200 : decode cL_law 200 = .ok (.iadd, 1) := by decide +kernel
theorem dL_law_201 : decode cL_law 201 = .ok (.iaload, 1) := by decide +kernel
theorem dL_law_202 : decode cL_law 202 = .ok (.aload_n 0, 1) := by decide +kernel
theorem dL_law_203 : decode cL_law 203 = .ok (.iload_n 3, 1) := by decide +kernel
theorem dL_law_204 : decode cL_law 204 = .ok (.iconst 3, 1) := by decide +kernel
theorem dL_law_205 : decode cL_law 205 = .ok (.iadd, 1) := by decide +kernel
theorem dL_law_206 : decode cL_law 206 = .ok (.iaload, 1) := by decide +kernel
theorem dL_law_207 : decode cL_law 207 = .ok (.invokevirtual 18, 3) := by decide +kernel
theorem dL_law_210 : decode cL_law 210 = .ok (.aload_n 2, 1) := by decide +kernel
theorem dL_law_211 : decode cL_law 211 = .ok (.aload_n 0, 1) := by decide +kernel
theorem dL_law_212 : decode cL_law 212 = .ok (.iload_n 3, 1) := by decide +kernel
theorem dL_law_213 : decode cL_law 213 = .ok (.iconst 1, 1) := by decide +kernel
theorem dL_law_214 : decode cL_law 214 = .ok (.iadd, 1) := by decide +kernel
theorem dL_law_215 : decode cL_law 215 = .ok (.iaload, 1) := by decide +kernel
theorem dL_law_216 : decode cL_law 216 = .ok (.aload_n 0, 1) := by decide +kernel
theorem dL_law_217 : decode cL_law 217 = .ok (.iload_n 3, 1) := by decide +kernel
theorem dL_law_218 : decode cL_law 218 = .ok (.iconst 2, 1) := by decide +kernel
theorem dL_law_219 : decode cL_law 219 = .ok (.iadd, 1) := by decide +kernel
theorem dL_law_220 : decode cL_law 220 = .ok (.iaload, 1) := by decide +kernel
theorem dL_law_221 : decode cL_law 221 = .ok (.aload_n 0, 1) := by decide +kernel
theorem dL_law_222 : decode cL_law 222 = .ok (.iload_n 3, 1) := by decide +kernel
theorem dL_law_223 : decode cL_law 223 = .ok (.iconst 3, 1) := by decide +kernel
theorem dL_law_224 : decode cL_law 224 = .ok (.iadd, 1) := by decide +kernel
theorem dL_law_225 : decode cL_law 225 = .ok (.iaload, 1) := by decide +kernel
theorem dL_law_226 : decode cL_law 226 = .ok (.invokevirtual 21, 3) := by decide +kernel
theorem dL_law_229 : decode cL_law 229 = .ok (.if_icmp .eq 767, 3) := by decide +kernel
theorem dL_law_232 : decode cL_law 232 = .ok (.iconst 0, 1) := by decide +kernel
theorem dL_law_233 : decode cL_law 233 = .ok (.ireturn, 1) := by decide +kernel
theorem dL_law_234 : decode cL_law 234 = .ok (.aload_n 1, 1) := by decide +kernel
theorem dL_law_235 : decode cL_law 235 = .ok (.aload_n 0, 1) := by decide +kernel
theorem dL_law_236 : decode cL_law 236 = .ok (.iload_n 3, 1) := by decide +kernel
theorem dL_law_237 : decode cL_law 237 = .ok (.iconst 1, 1) := by decide +kernel
theorem dL_law_238 : decode cL_law 238 = .ok (.iadd, 1) := by decide +kernel
theorem dL_law_239 : decode cL_law 239 = .ok (.iaload, 1) := by decide +kernel
theorem dL_law_240 : decode cL_law 240 = .ok (.aload_n 0, 1) := by decide +kernel
theorem dL_law_241 : decode cL_law 241 = .ok (.iload_n 3, 1) := by decide +kernel
theorem dL_law_242 : decode cL_law 242 = .ok (.iconst 2, 1) := by decide +kernel
theorem dL_law_243 : decode cL_law 243 = .ok (.iadd, 1) := by decide +kernel
theorem dL_law_244 : decode cL_law 244 = .ok (.iaload, 1) := by decide +kernel
theorem dL_law_245 : decode cL_law 245 = .ok (.aload_n 0, 1) := by decide +kernel
theorem dL_law_246 : decode cL_law 246 = .ok (.iload_n 3, 1) := by decide +kernel
theorem dL_law_247 : decode cL_law 247 = .ok (.iconst 3, 1) := by decide +kernel
theorem dL_law_248 : decode cL_law 248 = .ok (.iadd, 1) := by decide +kernel
theorem dL_law_249 : decode cL_law 249 = .ok (.iaload, 1) := by decide +kernel
theorem dL_law_250 : decode cL_law 250 = .ok (.invokevirtual 22, 3) := by decide +kernel
theorem dL_law_253 : decode cL_law 253 = .ok (.aload_n 2, 1) := by decide +kernel
theorem dL_law_254 : decode cL_law 254 = .ok (.aload_n 0, 1) := by decide +kernel
theorem dL_law_255 : decode cL_law 255 = .ok (.iload_n 3, 1) := by decide +kernel
theorem dL_law_256 : decode cL_law 256 = .ok (.iconst 1, 1) := by decide +kernel
theorem dL_law_257 : decode cL_law 257 = .ok (.iadd, 1) := by decide +kernel
theorem dL_law_258 : decode cL_law 258 = .ok (.iaload, 1) := by decide +kernel
theorem dL_law_259 : decode cL_law 259 = .ok (.aload_n 0, 1) := by decide +kernel
theorem dL_law_260 : decode cL_law 260 = .ok (.iload_n 3, 1) := by decide +kernel
theorem dL_law_261 : decode cL_law 261 = .ok (.iconst 2, 1) := by decide +kernel
theorem dL_law_262 : decode cL_law 262 = .ok (.iadd, 1) := by decide +kernel
theorem dL_law_263 : decode cL_law 263 = .ok (.iaload, 1) := by decide +kernel
theorem dL_law_264 : decode cL_law 264 = .ok (.aload_n 0, 1) := by decide +kernel
theorem dL_law_265 : decode cL_law 265 = .ok (.iload_n 3, 1) := by decide +kernel
theorem dL_law_266 : decode cL_law 266 = .ok (.iconst 3, 1) := by decide +kernel
theorem dL_law_267 : decode cL_law 267 = .ok (.iadd, 1) := by decide +kernel
theorem dL_law_268 : decode cL_law 268 = .ok (.iaload, 1) := by decide +kernel
theorem dL_law_269 : decode cL_law 269 = .ok (.invokevirtual 25, 3) := by decide +kernel
theorem dL_law_272 : decode cL_law 272 = .ok (.if_icmp .eq 724, 3) := by decide +kernel
theorem dL_law_275 : decode cL_law 275 = .ok (.iconst 0, 1) := by decide +kernel
theorem dL_law_276 : decode cL_law 276 = .ok (.ireturn, 1) := by decide +kernel
theorem dL_law_277 : decode cL_law 277 = .ok (.aload_n 1, 1) := by decide +kernel
theorem dL_law_278 : decode cL_law 278 = .ok (.aload_n 0, 1) := by decide +kernel
theorem dL_law_279 : decode cL_law 279 = .ok (.iload_n 3, 1) := by decide +kernel
theorem dL_law_280 : decode cL_law 280 = .ok (.iconst 1, 1) := by decide +kernel
theorem dL_law_281 : decode cL_law 281 = .ok (.iadd, 1) := by decide +kernel
theorem dL_law_282 : decode cL_law 282 = .ok (.iaload, 1) := by decide +kernel
theorem dL_law_283 : decode cL_law 283 = .ok (.aload_n 0, 1) := by decide +kernel
theorem dL_law_284 : decode cL_law 284 = .ok (.iload_n 3, 1) := by decide +kernel
theorem dL_law_285 : decode cL_law 285 = .ok (.iconst 2, 1) := by decide +kernel
theorem dL_law_286 : decode cL_law 286 = .ok (.iadd, 1) := by decide +kernel
theorem dL_law_287 : decode cL_law 287 = .ok (.iaload, 1) := by decide +kernel
theorem dL_law_288 : decode cL_law 288 = .ok (.aload_n 0, 1) := by decide +kernel
theorem dL_law_289 : decode cL_law 289 = .ok (.iload_n 3, 1) := by decide +kernel
theorem dL_law_290 : decode cL_law 290 = .ok (.iconst 3, 1) := by decide +kernel
theorem dL_law_291 : decode cL_law 291 = .ok (.iadd, 1) := by decide +kernel
theorem dL_law_292 : decode cL_law 292 = .ok (.iaload, 1) := by decide +kernel
theorem dL_law_293 : decode cL_law 293 = .ok (.invokevirtual 26, 3) := by decide +kernel
theorem dL_law_296 : decode cL_law 296 = .ok (.aload_n 2, 1) := by decide +kernel
theorem dL_law_297 : decode cL_law 297 = .ok (.aload_n 0, 1) := by decide +kernel
theorem dL_law_298 : decode cL_law 298 = .ok (.iload_n 3, 1) := by decide +kernel
theorem dL_law_299 : decode cL_law 299 = .ok (.iconst 1, 1) := by decide +kernel
theorem dL_law_300 : decode cL_law 300 = .ok (.iadd, 1) := by decide +kernel
theorem dL_law_301 : decode cL_law 301 = .ok (.iaload, 1) := by decide +kernel
theorem dL_law_302 : decode cL_law 302 = .ok (.aload_n 0, 1) := by decide +kernel
theorem dL_law_303 : decode cL_law 303 = .ok (.iload_n 3, 1) := by decide +kernel
theorem dL_law_304 : decode cL_law 304 = .ok (.iconst 2, 1) := by decide +kernel
theorem dL_law_305 : decode cL_law 305 = .ok (.iadd, 1) := by decide +kernel
theorem dL_law_306 : decode cL_law 306 = .ok (.iaload, 1) := by decide +kernel
theorem dL_law_307 : decode cL_law 307 = .ok (.aload_n 0, 1) := by decide +kernel
theorem dL_law_308 : decode cL_law 308 = .ok (.iload_n 3, 1) := by decide +kernel
theorem dL_law_309 : decode cL_law 309 = .ok (.iconst 3, 1) := by decide +kernel
theorem dL_law_310 : decode cL_law 310 = .ok (.iadd, 1) := by decide +kernel
theorem dL_law_311 : decode cL_law 311 = .ok (.iaload, 1) := by decide +kernel
theorem dL_law_312 : decode cL_law 312 = .ok (.invokevirtual 29, 3) := by decide +kernel
theorem dL_law_315 : decode cL_law 315 = .ok (.if_icmp .eq 681, 3) := by decide +kernel
theorem dL_law_318 : decode cL_law 318 = .ok (.iconst 0, 1) := by decide +kernel
theorem dL_law_319 : decode cL_law 319 = .ok (.ireturn, 1) := by decide +kernel
theorem dL_law_320 : decode cL_law 320 = .ok (.aload_n 1, 1) := by decide +kernel
theorem dL_law_321 : decode cL_law 321 = .ok (.aload_n 0, 1) := by decide +kernel
theorem dL_law_322 : decode cL_law 322 = .ok (.iload_n 3, 1) := by decide +kernel
theorem dL_law_323 : decode cL_law 323 = .ok (.iconst 1, 1) := by decide +kernel
theorem dL_law_324 : decode cL_law 324 = .ok (.iadd, 1) := by decide +kernel
theorem dL_law_325 : decode cL_law 325 = .ok (.iaload, 1) := by decide +kernel
theorem dL_law_326 : decode cL_law 326 = .ok (.aload_n 0, 1) := by decide +kernel
theorem dL_law_327 : decode cL_law 327 = .ok (.iload_n 3, 1) := by decide +kernel
theorem dL_law_328 : decode cL_law 328 = .ok (.iconst 2, 1) := by decide +kernel
theorem dL_law_329 : decode cL_law 329 = .ok (.iadd, 1) := by decide +kernel
theorem dL_law_330 : decode cL_law 330 = .ok (.iaload, 1) := by decide +kernel
theorem dL_law_331 : decode cL_law 331 = .ok (.aload_n 0, 1) := by decide +kernel
theorem dL_law_332 : decode cL_law 332 = .ok (.iload_n 3, 1) := by decide +kernel
theorem dL_law_333 : decode cL_law 333 = .ok (.iconst 3, 1) := by decide +kernel
theorem dL_law_334 : decode cL_law 334 = .ok (.iadd, 1) := by decide +kernel
theorem dL_law_335 : decode cL_law 335 = .ok (.iaload, 1) := by decide +kernel
theorem dL_law_336 : decode cL_law 336 = .ok (.aload_n 0, 1) := by decide +kernel
theorem dL_law_337 : decode cL_law 337 = .ok (.iload_n 3, 1) := by decide +kernel
theorem dL_law_338 : decode cL_law 338 = .ok (.iconst 4, 1) := by decide +kernel
theorem dL_law_339 : decode cL_law 339 = .ok (.iadd, 1) := by decide +kernel
theorem dL_law_340 : decode cL_law 340 = .ok (.iaload, 1) := by decide +kernel
theorem dL_law_341 : decode cL_law 341 = .ok (.invokevirtual 30, 3) := by decide +kernel
theorem dL_law_344 : decode cL_law 344 = .ok (.aload_n 2, 1) := by decide +kernel
theorem dL_law_345 : decode cL_law 345 = .ok (.aload_n 0, 1) := by decide +kernel
theorem dL_law_346 : decode cL_law 346 = .ok (.iload_n 3, 1) := by decide +kernel
theorem dL_law_347 : decode cL_law 347 = .ok (.iconst 1, 1) := by decide +kernel
theorem dL_law_348 : decode cL_law 348 = .ok (.iadd, 1) := by decide +kernel
theorem dL_law_349 : decode cL_law 349 = .ok (.iaload, 1) := by decide +kernel
theorem dL_law_350 : decode cL_law 350 = .ok (.aload_n 0, 1) := by decide +kernel
theorem dL_law_351 : decode cL_law 351 = .ok (.iload_n 3, 1) := by decide +kernel
theorem dL_law_352 : decode cL_law 352 = .ok (.iconst 2, 1) := by decide +kernel
theorem dL_law_353 : decode cL_law 353 = .ok (.iadd, 1) := by decide +kernel
theorem dL_law_354 : decode cL_law 354 = .ok (.iaload, 1) := by decide +kernel
theorem dL_law_355 : decode cL_law 355 = .ok (.aload_n 0, 1) := by decide +kernel
theorem dL_law_356 : decode cL_law 356 = .ok (.iload_n 3, 1) := by decide +kernel
theorem dL_law_357 : decode cL_law 357 = .ok (.iconst 3, 1) := by decide +kernel
theorem dL_law_358 : decode cL_law 358 = .ok (.iadd, 1) := by decide +kernel
theorem dL_law_359 : decode cL_law 359 = .ok (.iaload, 1) := by decide +kernel
theorem dL_law_360 : decode cL_law 360 = .ok (.aload_n 0, 1) := by decide +kernel
theorem dL_law_361 : decode cL_law 361 = .ok (.iload_n 3, 1) := by decide +kernel
theorem dL_law_362 : decode cL_law 362 = .ok (.iconst 4, 1) := by decide +kernel
theorem dL_law_363 : decode cL_law 363 = .ok (.iadd, 1) := by decide +kernel
theorem dL_law_364 : decode cL_law 364 = .ok (.iaload, 1) := by decide +kernel
theorem dL_law_365 : decode cL_law 365 = .ok (.invokevirtual 34, 3) := by decide +kernel
theorem dL_law_368 : decode cL_law 368 = .ok (.if_icmp .eq 628, 3) := by decide +kernel
theorem dL_law_371 : decode cL_law 371 = .ok (.iconst 0, 1) := by decide +kernel
theorem dL_law_372 : decode cL_law 372 = .ok (.ireturn, 1) := by decide +kernel
theorem dL_law_373 : decode cL_law 373 = .ok (.aload_n 1, 1) := by decide +kernel
theorem dL_law_374 : decode cL_law 374 = .ok (.aload_n 0, 1) := by decide +kernel
theorem dL_law_375 : decode cL_law 375 = .ok (.iload_n 3, 1) := by decide +kernel
theorem dL_law_376 : decode cL_law 376 = .ok (.iconst 1, 1) := by decide +kernel
theorem dL_law_377 : decode cL_law 377 = .ok (.iadd, 1) := by decide +kernel
theorem dL_law_378 : decode cL_law 378 = .ok (.iaload, 1) := by decide +kernel
theorem dL_law_379 : decode cL_law 379 = .ok (.aload_n 0, 1) := by decide +kernel
theorem dL_law_380 : decode cL_law 380 = .ok (.iload_n 3, 1) := by decide +kernel
theorem dL_law_381 : decode cL_law 381 = .ok (.iconst 2, 1) := by decide +kernel
theorem dL_law_382 : decode cL_law 382 = .ok (.iadd, 1) := by decide +kernel
theorem dL_law_383 : decode cL_law 383 = .ok (.iaload, 1) := by decide +kernel
theorem dL_law_384 : decode cL_law 384 = .ok (.invokevirtual 35, 3) := by decide +kernel
theorem dL_law_387 : decode cL_law 387 = .ok (.aload_n 2, 1) := by decide +kernel
theorem dL_law_388 : decode cL_law 388 = .ok (.aload_n 0, 1) := by decide +kernel
theorem dL_law_389 : decode cL_law 389 = .ok (.iload_n 3, 1) := by decide +kernel
theorem dL_law_390 : decode cL_law 390 = .ok (.iconst 1, 1) := by decide +kernel
theorem dL_law_391 : decode cL_law 391 = .ok (.iadd, 1) := by decide +kernel
theorem dL_law_392 : decode cL_law 392 = .ok (.iaload, 1) := by decide +kernel
theorem dL_law_393 : decode cL_law 393 = .ok (.aload_n 0, 1) := by decide +kernel
theorem dL_law_394 : decode cL_law 394 = .ok (.iload_n 3, 1) := by decide +kernel
theorem dL_law_395 : decode cL_law 395 = .ok (.iconst 2, 1) := by decide +kernel
theorem dL_law_396 : decode cL_law 396 = .ok (.iadd, 1) := by decide +kernel
theorem dL_law_397 : decode cL_law 397 = .ok (.iaload, 1) := by decide +kernel
theorem dL_law_398 : decode cL_law 398 = .ok (.invokevirtual 39, 3) := by decide +kernel
theorem dL_law_401 : decode cL_law 401 = .ok (.if_icmp .eq 595, 3) := by decide +kernel
theorem dL_law_404 : decode cL_law 404 = .ok (.iconst 0, 1) := by decide +kernel
theorem dL_law_405 : decode cL_law 405 = .ok (.ireturn, 1) := by decide +kernel
theorem dL_law_406 : decode cL_law 406 = .ok (.aload_n 1, 1) := by decide +kernel
theorem dL_law_407 : decode cL_law 407 = .ok (.aload_n 0, 1) := by decide +kernel
theorem dL_law_408 : decode cL_law 408 = .ok (.iload_n 3, 1) := by decide +kernel
theorem dL_law_409 : decode cL_law 409 = .ok (.iconst 1, 1) := by decide +kernel
theorem dL_law_410 : decode cL_law 410 = .ok (.iadd, 1) := by decide +kernel
theorem dL_law_411 : decode cL_law 411 = .ok (.iaload, 1) := by decide +kernel
theorem dL_law_412 : decode cL_law 412 = .ok (.invokevirtual 40, 3) := by decide +kernel
theorem dL_law_415 : decode cL_law 415 = .ok (.aload_n 2, 1) := by decide +kernel
theorem dL_law_416 : decode cL_law 416 = .ok (.aload_n 0, 1) := by decide +kernel
theorem dL_law_417 : decode cL_law 417 = .ok (.iload_n 3, 1) := by decide +kernel
theorem dL_law_418 : decode cL_law 418 = .ok (.iconst 1, 1) := by decide +kernel
theorem dL_law_419 : decode cL_law 419 = .ok (.iadd, 1) := by decide +kernel
theorem dL_law_420 : decode cL_law 420 = .ok (.iaload, 1) := by decide +kernel
theorem dL_law_421 : decode cL_law 421 = .ok (.invokevirtual 44, 3) := by decide +kernel
theorem dL_law_424 : decode cL_law 424 = .ok (.if_icmp .eq 572, 3) := by decide +kernel
theorem dL_law_427 : decode cL_law 427 = .ok (.iconst 0, 1) := by decide +kernel
theorem dL_law_428 : decode cL_law 428 = .ok (.ireturn, 1) := by decide +kernel
theorem dL_law_429 : decode cL_law 429 = .ok (.aload_n 1, 1) := by decide +kernel
theorem dL_law_430 : decode cL_law 430 = .ok (.aload_n 0, 1) := by decide +kernel
theorem dL_law_431 : decode cL_law 431 = .ok (.iload_n 3, 1) := by decide +kernel
theorem dL_law_432 : decode cL_law 432 = .ok (.iconst 1, 1) := by decide +kernel
theorem dL_law_433 : decode cL_law 433 = .ok (.iadd, 1) := by decide +kernel
theorem dL_law_434 : decode cL_law 434 = .ok (.iaload, 1) := by decide +kernel
theorem dL_law_435 : decode cL_law 435 = .ok (.aload_n 0, 1) := by decide +kernel
theorem dL_law_436 : decode cL_law 436 = .ok (.iload_n 3, 1) := by decide +kernel
theorem dL_law_437 : decode cL_law 437 = .ok (.iconst 2, 1) := by decide +kernel
theorem dL_law_438 : decode cL_law 438 = .ok (.iadd, 1) := by decide +kernel
theorem dL_law_439 : decode cL_law 439 = .ok (.iaload, 1) := by decide +kernel
theorem dL_law_440 : decode cL_law 440 = .ok (.invokevirtual 45, 3) := by decide +kernel
theorem dL_law_443 : decode cL_law 443 = .ok (.aload_n 2, 1) := by decide +kernel
theorem dL_law_444 : decode cL_law 444 = .ok (.aload_n 0, 1) := by decide +kernel
theorem dL_law_445 : decode cL_law 445 = .ok (.iload_n 3, 1) := by decide +kernel
theorem dL_law_446 : decode cL_law 446 = .ok (.iconst 1, 1) := by decide +kernel
theorem dL_law_447 : decode cL_law 447 = .ok (.iadd, 1) := by decide +kernel
theorem dL_law_448 : decode cL_law 448 = .ok (.iaload, 1) := by decide +kernel
theorem dL_law_449 : decode cL_law 449 = .ok (.aload_n 0, 1) := by decide +kernel
theorem dL_law_450 : decode cL_law 450 = .ok (.iload_n 3, 1) := by decide +kernel
theorem dL_law_451 : decode cL_law 451 = .ok (.iconst 2, 1) := by decide +kernel
theorem dL_law_452 : decode cL_law 452 = .ok (.iadd, 1) := by decide +kernel
theorem dL_law_453 : decode cL_law 453 = .ok (.iaload, 1) := by decide +kernel
theorem dL_law_454 : decode cL_law 454 = .ok (.invokevirtual 48, 3) := by decide +kernel
theorem dL_law_457 : decode cL_law 457 = .ok (.if_icmp .eq 539, 3) := by decide +kernel
theorem dL_law_460 : decode cL_law 460 = .ok (.iconst 0, 1) := by decide +kernel
theorem dL_law_461 : decode cL_law 461 = .ok (.ireturn, 1) := by decide +kernel
theorem dL_law_462 : decode cL_law 462 = .ok (.aload_n 1, 1) := by decide +kernel
theorem dL_law_463 : decode cL_law 463 = .ok (.aload_n 0, 1) := by decide +kernel
theorem dL_law_464 : decode cL_law 464 = .ok (.iload_n 3, 1) := by decide +kernel
theorem dL_law_465 : decode cL_law 465 = .ok (.iconst 1, 1) := by decide +kernel
theorem dL_law_466 : decode cL_law 466 = .ok (.iadd, 1) := by decide +kernel
theorem dL_law_467 : decode cL_law 467 = .ok (.iaload, 1) := by decide +kernel
theorem dL_law_468 : decode cL_law 468 = .ok (.aload_n 0, 1) := by decide +kernel
theorem dL_law_469 : decode cL_law 469 = .ok (.iload_n 3, 1) := by decide +kernel
theorem dL_law_470 : decode cL_law 470 = .ok (.iconst 2, 1) := by decide +kernel
theorem dL_law_471 : decode cL_law 471 = .ok (.iadd, 1) := by decide +kernel
theorem dL_law_472 : decode cL_law 472 = .ok (.iaload, 1) := by decide +kernel
theorem dL_law_473 : decode cL_law 473 = .ok (.invokevirtual 49, 3) := by decide +kernel
theorem dL_law_476 : decode cL_law 476 = .ok (.aload_n 2, 1) := by decide +kernel
theorem dL_law_477 : decode cL_law 477 = .ok (.aload_n 0, 1) := by decide +kernel
theorem dL_law_478 : decode cL_law 478 = .ok (.iload_n 3, 1) := by decide +kernel
theorem dL_law_479 : decode cL_law 479 = .ok (.iconst 1, 1) := by decide +kernel
theorem dL_law_480 : decode cL_law 480 = .ok (.iadd, 1) := by decide +kernel
theorem dL_law_481 : decode cL_law 481 = .ok (.iaload, 1) := by decide +kernel
theorem dL_law_482 : decode cL_law 482 = .ok (.aload_n 0, 1) := by decide +kernel
theorem dL_law_483 : decode cL_law 483 = .ok (.iload_n 3, 1) := by decide +kernel
theorem dL_law_484 : decode cL_law 484 = .ok (.iconst 2, 1) := by decide +kernel
theorem dL_law_485 : decode cL_law 485 = .ok (.iadd, 1) := by decide +kernel
theorem dL_law_486 : decode cL_law 486 = .ok (.iaload, 1) := by decide +kernel
theorem dL_law_487 : decode cL_law 487 = .ok (.invokevirtual 52, 3) := by decide +kernel
theorem dL_law_490 : decode cL_law 490 = .ok (.if_icmp .eq 506, 3) := by decide +kernel
theorem dL_law_493 : decode cL_law 493 = .ok (.iconst 0, 1) := by decide +kernel
theorem dL_law_494 : decode cL_law 494 = .ok (.ireturn, 1) := by decide +kernel
theorem dL_law_495 : decode cL_law 495 = .ok (.aload_n 1, 1) := by decide +kernel
theorem dL_law_496 : decode cL_law 496 = .ok (.aload_n 0, 1) := by decide +kernel
theorem dL_law_497 : decode cL_law 497 = .ok (.iload_n 3, 1) := by decide +kernel
theorem dL_law_498 : decode cL_law 498 = .ok (.iconst 1, 1) := by decide +kernel
theorem dL_law_499 : decode cL_law 499 = .ok (.iadd, 1) := by decide +kernel
theorem dL_law_500 : decode cL_law 500 = .ok (.iaload, 1) := by decide +kernel
theorem dL_law_501 : decode cL_law 501 = .ok (.aload_n 0, 1) := by decide +kernel
theorem dL_law_502 : decode cL_law 502 = .ok (.iload_n 3, 1) := by decide +kernel
theorem dL_law_503 : decode cL_law 503 = .ok (.iconst 2, 1) := by decide +kernel
theorem dL_law_504 : decode cL_law 504 = .ok (.iadd, 1) := by decide +kernel
theorem dL_law_505 : decode cL_law 505 = .ok (.iaload, 1) := by decide +kernel
theorem dL_law_506 : decode cL_law 506 = .ok (.invokevirtual 53, 3) := by decide +kernel
theorem dL_law_509 : decode cL_law 509 = .ok (.aload_n 2, 1) := by decide +kernel
theorem dL_law_510 : decode cL_law 510 = .ok (.aload_n 0, 1) := by decide +kernel
theorem dL_law_511 : decode cL_law 511 = .ok (.iload_n 3, 1) := by decide +kernel
theorem dL_law_512 : decode cL_law 512 = .ok (.iconst 1, 1) := by decide +kernel
theorem dL_law_513 : decode cL_law 513 = .ok (.iadd, 1) := by decide +kernel
theorem dL_law_514 : decode cL_law 514 = .ok (.iaload, 1) := by decide +kernel
theorem dL_law_515 : decode cL_law 515 = .ok (.aload_n 0, 1) := by decide +kernel
theorem dL_law_516 : decode cL_law 516 = .ok (.iload_n 3, 1) := by decide +kernel
theorem dL_law_517 : decode cL_law 517 = .ok (.iconst 2, 1) := by decide +kernel
theorem dL_law_518 : decode cL_law 518 = .ok (.iadd, 1) := by decide +kernel
theorem dL_law_519 : decode cL_law 519 = .ok (.iaload, 1) := by decide +kernel
theorem dL_law_520 : decode cL_law 520 = .ok (.invokevirtual 56, 3) := by decide +kernel
theorem dL_law_523 : decode cL_law 523 = .ok (.if_icmp .eq 473, 3) := by decide +kernel
theorem dL_law_526 : decode cL_law 526 = .ok (.iconst 0, 1) := by decide +kernel
theorem dL_law_527 : decode cL_law 527 = .ok (.ireturn, 1) := by decide +kernel
theorem dL_law_528 : decode cL_law 528 = .ok (.aload_n 1, 1) := by decide +kernel
theorem dL_law_529 : decode cL_law 529 = .ok (.aload_n 0, 1) := by decide +kernel
theorem dL_law_530 : decode cL_law 530 = .ok (.iload_n 3, 1) := by decide +kernel
theorem dL_law_531 : decode cL_law 531 = .ok (.iconst 1, 1) := by decide +kernel
theorem dL_law_532 : decode cL_law 532 = .ok (.iadd, 1) := by decide +kernel
theorem dL_law_533 : decode cL_law 533 = .ok (.iaload, 1) := by decide +kernel
theorem dL_law_534 : decode cL_law 534 = .ok (.aload_n 0, 1) := by decide +kernel
theorem dL_law_535 : decode cL_law 535 = .ok (.iload_n 3, 1) := by decide +kernel
theorem dL_law_536 : decode cL_law 536 = .ok (.iconst 2, 1) := by decide +kernel
theorem dL_law_537 : decode cL_law 537 = .ok (.iadd, 1) := by decide +kernel
theorem dL_law_538 : decode cL_law 538 = .ok (.iaload, 1) := by decide +kernel
theorem dL_law_539 : decode cL_law 539 = .ok (.aload_n 0, 1) := by decide +kernel
theorem dL_law_540 : decode cL_law 540 = .ok (.iload_n 3, 1) := by decide +kernel
theorem dL_law_541 : decode cL_law 541 = .ok (.iconst 3, 1) := by decide +kernel
theorem dL_law_542 : decode cL_law 542 = .ok (.iadd, 1) := by decide +kernel
theorem dL_law_543 : decode cL_law 543 = .ok (.iaload, 1) := by decide +kernel
theorem dL_law_544 : decode cL_law 544 = .ok (.ifCond .eq 7, 3) := by decide +kernel
theorem dL_law_547 : decode cL_law 547 = .ok (.iconst 1, 1) := by decide +kernel
theorem dL_law_548 : decode cL_law 548 = .ok (.goto 4, 3) := by decide +kernel
theorem dL_law_551 : decode cL_law 551 = .ok (.iconst 0, 1) := by decide +kernel
theorem dL_law_552 : decode cL_law 552 = .ok (.invokevirtual 57, 3) := by decide +kernel
theorem dL_law_555 : decode cL_law 555 = .ok (.aload_n 2, 1) := by decide +kernel
theorem dL_law_556 : decode cL_law 556 = .ok (.aload_n 0, 1) := by decide +kernel
theorem dL_law_557 : decode cL_law 557 = .ok (.iload_n 3, 1) := by decide +kernel
theorem dL_law_558 : decode cL_law 558 = .ok (.iconst 1, 1) := by decide +kernel
theorem dL_law_559 : decode cL_law 559 = .ok (.iadd, 1) := by decide +kernel
theorem dL_law_560 : decode cL_law 560 = .ok (.iaload, 1) := by decide +kernel
theorem dL_law_561 : decode cL_law 561 = .ok (.aload_n 0, 1) := by decide +kernel
theorem dL_law_562 : decode cL_law 562 = .ok (.iload_n 3, 1) := by decide +kernel
theorem dL_law_563 : decode cL_law 563 = .ok (.iconst 2, 1) := by decide +kernel
theorem dL_law_564 : decode cL_law 564 = .ok (.iadd, 1) := by decide +kernel
theorem dL_law_565 : decode cL_law 565 = .ok (.iaload, 1) := by decide +kernel
theorem dL_law_566 : decode cL_law 566 = .ok (.aload_n 0, 1) := by decide +kernel
theorem dL_law_567 : decode cL_law 567 = .ok (.iload_n 3, 1) := by decide +kernel
theorem dL_law_568 : decode cL_law 568 = .ok (.iconst 3, 1) := by decide +kernel
theorem dL_law_569 : decode cL_law 569 = .ok (.iadd, 1) := by decide +kernel
theorem dL_law_570 : decode cL_law 570 = .ok (.iaload, 1) := by decide +kernel
theorem dL_law_571 : decode cL_law 571 = .ok (.ifCond .eq 7, 3) := by decide +kernel
theorem dL_law_574 : decode cL_law 574 = .ok (.iconst 1, 1) := by decide +kernel
theorem dL_law_575 : decode cL_law 575 = .ok (.goto 4, 3) := by decide +kernel
theorem dL_law_578 : decode cL_law 578 = .ok (.iconst 0, 1) := by decide +kernel
theorem dL_law_579 : decode cL_law 579 = .ok (.invokevirtual 61, 3) := by decide +kernel
theorem dL_law_582 : decode cL_law 582 = .ok (.if_icmp .eq 414, 3) := by decide +kernel
theorem dL_law_585 : decode cL_law 585 = .ok (.iconst 0, 1) := by decide +kernel
theorem dL_law_586 : decode cL_law 586 = .ok (.ireturn, 1) := by decide +kernel
theorem dL_law_587 : decode cL_law 587 = .ok (.aload_n 1, 1) := by decide +kernel
theorem dL_law_588 : decode cL_law 588 = .ok (.aload_n 0, 1) := by decide +kernel
theorem dL_law_589 : decode cL_law 589 = .ok (.iload_n 3, 1) := by decide +kernel
theorem dL_law_590 : decode cL_law 590 = .ok (.iconst 1, 1) := by decide +kernel
theorem dL_law_591 : decode cL_law 591 = .ok (.iadd, 1) := by decide +kernel
theorem dL_law_592 : decode cL_law 592 = .ok (.iaload, 1) := by decide +kernel
theorem dL_law_593 : decode cL_law 593 = .ok (.invokevirtual 62, 3) := by decide +kernel
theorem dL_law_596 : decode cL_law 596 = .ok (.aload_n 2, 1) := by decide +kernel
theorem dL_law_597 : decode cL_law 597 = .ok (.aload_n 0, 1) := by decide +kernel
theorem dL_law_598 : decode cL_law 598 = .ok (.iload_n 3, 1) := by decide +kernel
theorem dL_law_599 : decode cL_law 599 = .ok (.iconst 1, 1) := by decide +kernel
theorem dL_law_600 : decode cL_law 600 = .ok (.iadd, 1) := by decide +kernel
theorem dL_law_601 : decode cL_law 601 = .ok (.iaload, 1) := by decide +kernel
theorem dL_law_602 : decode cL_law 602 = .ok (.invokevirtual 65, 3) := by decide +kernel
theorem dL_law_605 : decode cL_law 605 = .ok (.if_icmp .eq 391, 3) := by decide +kernel
theorem dL_law_608 : decode cL_law 608 = .ok (.iconst 0, 1) := by decide +kernel
theorem dL_law_609 : decode cL_law 609 = .ok (.ireturn, 1) := by decide +kernel
theorem dL_law_610 : decode cL_law 610 = .ok (.aload_n 1, 1) := by decide +kernel
theorem dL_law_611 : decode cL_law 611 = .ok (.aload_n 0, 1) := by decide +kernel
theorem dL_law_612 : decode cL_law 612 = .ok (.iload_n 3, 1) := by decide +kernel
theorem dL_law_613 : decode cL_law 613 = .ok (.iconst 1, 1) := by decide +kernel
theorem dL_law_614 : decode cL_law 614 = .ok (.iadd, 1) := by decide +kernel
theorem dL_law_615 : decode cL_law 615 = .ok (.iaload, 1) := by decide +kernel
theorem dL_law_616 : decode cL_law 616 = .ok (.aload_n 0, 1) := by decide +kernel
theorem dL_law_617 : decode cL_law 617 = .ok (.iload_n 3, 1) := by decide +kernel
theorem dL_law_618 : decode cL_law 618 = .ok (.iconst 2, 1) := by decide +kernel
theorem dL_law_619 : decode cL_law 619 = .ok (.iadd, 1) := by decide +kernel
theorem dL_law_620 : decode cL_law 620 = .ok (.iaload, 1) := by decide +kernel
theorem dL_law_621 : decode cL_law 621 = .ok (.invokevirtual 66, 3) := by decide +kernel
theorem dL_law_624 : decode cL_law 624 = .ok (.aload_n 2, 1) := by decide +kernel
theorem dL_law_625 : decode cL_law 625 = .ok (.aload_n 0, 1) := by decide +kernel
theorem dL_law_626 : decode cL_law 626 = .ok (.iload_n 3, 1) := by decide +kernel
theorem dL_law_627 : decode cL_law 627 = .ok (.iconst 1, 1) := by decide +kernel
theorem dL_law_628 : decode cL_law 628 = .ok (.iadd, 1) := by decide +kernel
theorem dL_law_629 : decode cL_law 629 = .ok (.iaload, 1) := by decide +kernel
theorem dL_law_630 : decode cL_law 630 = .ok (.aload_n 0, 1) := by decide +kernel
theorem dL_law_631 : decode cL_law 631 = .ok (.iload_n 3, 1) := by decide +kernel
theorem dL_law_632 : decode cL_law 632 = .ok (.iconst 2, 1) := by decide +kernel
theorem dL_law_633 : decode cL_law 633 = .ok (.iadd, 1) := by decide +kernel
theorem dL_law_634 : decode cL_law 634 = .ok (.iaload, 1) := by decide +kernel
theorem dL_law_635 : decode cL_law 635 = .ok (.invokevirtual 69, 3) := by decide +kernel
theorem dL_law_638 : decode cL_law 638 = .ok (.if_icmp .eq 358, 3) := by decide +kernel
theorem dL_law_641 : decode cL_law 641 = .ok (.iconst 0, 1) := by decide +kernel
theorem dL_law_642 : decode cL_law 642 = .ok (.ireturn, 1) := by decide +kernel
theorem dL_law_643 : decode cL_law 643 = .ok (.aload_n 1, 1) := by decide +kernel
theorem dL_law_644 : decode cL_law 644 = .ok (.aload_n 0, 1) := by decide +kernel
theorem dL_law_645 : decode cL_law 645 = .ok (.iload_n 3, 1) := by decide +kernel
theorem dL_law_646 : decode cL_law 646 = .ok (.iconst 1, 1) := by decide +kernel
theorem dL_law_647 : decode cL_law 647 = .ok (.iadd, 1) := by decide +kernel
theorem dL_law_648 : decode cL_law 648 = .ok (.iaload, 1) := by decide +kernel
theorem dL_law_649 : decode cL_law 649 = .ok (.aload_n 0, 1) := by decide +kernel
theorem dL_law_650 : decode cL_law 650 = .ok (.iload_n 3, 1) := by decide +kernel
theorem dL_law_651 : decode cL_law 651 = .ok (.iconst 2, 1) := by decide +kernel
theorem dL_law_652 : decode cL_law 652 = .ok (.iadd, 1) := by decide +kernel
theorem dL_law_653 : decode cL_law 653 = .ok (.iaload, 1) := by decide +kernel
theorem dL_law_654 : decode cL_law 654 = .ok (.aload_n 0, 1) := by decide +kernel
theorem dL_law_655 : decode cL_law 655 = .ok (.iload_n 3, 1) := by decide +kernel
theorem dL_law_656 : decode cL_law 656 = .ok (.iconst 3, 1) := by decide +kernel
theorem dL_law_657 : decode cL_law 657 = .ok (.iadd, 1) := by decide +kernel
theorem dL_law_658 : decode cL_law 658 = .ok (.iaload, 1) := by decide +kernel
theorem dL_law_659 : decode cL_law 659 = .ok (.invokevirtual 70, 3) := by decide +kernel
theorem dL_law_662 : decode cL_law 662 = .ok (.aload_n 2, 1) := by decide +kernel
theorem dL_law_663 : decode cL_law 663 = .ok (.aload_n 0, 1) := by decide +kernel
theorem dL_law_664 : decode cL_law 664 = .ok (.iload_n 3, 1) := by decide +kernel
theorem dL_law_665 : decode cL_law 665 = .ok (.iconst 1, 1) := by decide +kernel
theorem dL_law_666 : decode cL_law 666 = .ok (.iadd, 1) := by decide +kernel
theorem dL_law_667 : decode cL_law 667 = .ok (.iaload, 1) := by decide +kernel
theorem dL_law_668 : decode cL_law 668 = .ok (.aload_n 0, 1) := by decide +kernel
theorem dL_law_669 : decode cL_law 669 = .ok (.iload_n 3, 1) := by decide +kernel
theorem dL_law_670 : decode cL_law 670 = .ok (.iconst 2, 1) := by decide +kernel
theorem dL_law_671 : decode cL_law 671 = .ok (.iadd, 1) := by decide +kernel
theorem dL_law_672 : decode cL_law 672 = .ok (.iaload, 1) := by decide +kernel
theorem dL_law_673 : decode cL_law 673 = .ok (.aload_n 0, 1) := by decide +kernel
theorem dL_law_674 : decode cL_law 674 = .ok (.iload_n 3, 1) := by decide +kernel
theorem dL_law_675 : decode cL_law 675 = .ok (.iconst 3, 1) := by decide +kernel
theorem dL_law_676 : decode cL_law 676 = .ok (.iadd, 1) := by decide +kernel
theorem dL_law_677 : decode cL_law 677 = .ok (.iaload, 1) := by decide +kernel
theorem dL_law_678 : decode cL_law 678 = .ok (.invokevirtual 73, 3) := by decide +kernel
theorem dL_law_681 : decode cL_law 681 = .ok (.if_icmp .eq 315, 3) := by decide +kernel
theorem dL_law_684 : decode cL_law 684 = .ok (.iconst 0, 1) := by decide +kernel
theorem dL_law_685 : decode cL_law 685 = .ok (.ireturn, 1) := by decide +kernel
theorem dL_law_686 : decode cL_law 686 = .ok (.aload_n 1, 1) := by decide +kernel
theorem dL_law_687 : decode cL_law 687 = .ok (.aload_n 0, 1) := by decide +kernel
theorem dL_law_688 : decode cL_law 688 = .ok (.iload_n 3, 1) := by decide +kernel
theorem dL_law_689 : decode cL_law 689 = .ok (.iconst 1, 1) := by decide +kernel
theorem dL_law_690 : decode cL_law 690 = .ok (.iadd, 1) := by decide +kernel
theorem dL_law_691 : decode cL_law 691 = .ok (.iaload, 1) := by decide +kernel
theorem dL_law_692 : decode cL_law 692 = .ok (.invokevirtual 74, 3) := by decide +kernel
theorem dL_law_695 : decode cL_law 695 = .ok (.aload_n 2, 1) := by decide +kernel
theorem dL_law_696 : decode cL_law 696 = .ok (.aload_n 0, 1) := by decide +kernel
theorem dL_law_697 : decode cL_law 697 = .ok (.iload_n 3, 1) := by decide +kernel
theorem dL_law_698 : decode cL_law 698 = .ok (.iconst 1, 1) := by decide +kernel
theorem dL_law_699 : decode cL_law 699 = .ok (.iadd, 1) := by decide +kernel
theorem dL_law_700 : decode cL_law 700 = .ok (.iaload, 1) := by decide +kernel
theorem dL_law_701 : decode cL_law 701 = .ok (.invokevirtual 77, 3) := by decide +kernel
theorem dL_law_704 : decode cL_law 704 = .ok (.if_icmp .eq 292, 3) := by decide +kernel
theorem dL_law_707 : decode cL_law 707 = .ok (.iconst 0, 1) := by decide +kernel
theorem dL_law_708 : decode cL_law 708 = .ok (.ireturn, 1) := by decide +kernel
theorem dL_law_709 : decode cL_law 709 = .ok (.aload_n 1, 1) := by decide +kernel
theorem dL_law_710 : decode cL_law 710 = .ok (.aload_n 0, 1) := by decide +kernel
theorem dL_law_711 : decode cL_law 711 = .ok (.iload_n 3, 1) := by decide +kernel
theorem dL_law_712 : decode cL_law 712 = .ok (.iconst 1, 1) := by decide +kernel
theorem dL_law_713 : decode cL_law 713 = .ok (.iadd, 1) := by decide +kernel
theorem dL_law_714 : decode cL_law 714 = .ok (.iaload, 1) := by decide +kernel
theorem dL_law_715 : decode cL_law 715 = .ok (.aload_n 0, 1) := by decide +kernel
theorem dL_law_716 : decode cL_law 716 = .ok (.iload_n 3, 1) := by decide +kernel
theorem dL_law_717 : decode cL_law 717 = .ok (.iconst 2, 1) := by decide +kernel
theorem dL_law_718 : decode cL_law 718 = .ok (.iadd, 1) := by decide +kernel
theorem dL_law_719 : decode cL_law 719 = .ok (.iaload, 1) := by decide +kernel
theorem dL_law_720 : decode cL_law 720 = .ok (.invokevirtual 78, 3) := by decide +kernel
theorem dL_law_723 : decode cL_law 723 = .ok (.aload_n 2, 1) := by decide +kernel
theorem dL_law_724 : decode cL_law 724 = .ok (.aload_n 0, 1) := by decide +kernel
theorem dL_law_725 : decode cL_law 725 = .ok (.iload_n 3, 1) := by decide +kernel
theorem dL_law_726 : decode cL_law 726 = .ok (.iconst 1, 1) := by decide +kernel
theorem dL_law_727 : decode cL_law 727 = .ok (.iadd, 1) := by decide +kernel
theorem dL_law_728 : decode cL_law 728 = .ok (.iaload, 1) := by decide +kernel
theorem dL_law_729 : decode cL_law 729 = .ok (.aload_n 0, 1) := by decide +kernel
theorem dL_law_730 : decode cL_law 730 = .ok (.iload_n 3, 1) := by decide +kernel
theorem dL_law_731 : decode cL_law 731 = .ok (.iconst 2, 1) := by decide +kernel
theorem dL_law_732 : decode cL_law 732 = .ok (.iadd, 1) := by decide +kernel
theorem dL_law_733 : decode cL_law 733 = .ok (.iaload, 1) := by decide +kernel
theorem dL_law_734 : decode cL_law 734 = .ok (.invokevirtual 81, 3) := by decide +kernel
theorem dL_law_737 : decode cL_law 737 = .ok (.if_icmp .eq 259, 3) := by decide +kernel
theorem dL_law_740 : decode cL_law 740 = .ok (.iconst 0, 1) := by decide +kernel
theorem dL_law_741 : decode cL_law 741 = .ok (.ireturn, 1) := by decide +kernel
theorem dL_law_742 : decode cL_law 742 = .ok (.aload_n 1, 1) := by decide +kernel
theorem dL_law_743 : decode cL_law 743 = .ok (.aload_n 0, 1) := by decide +kernel
theorem dL_law_744 : decode cL_law 744 = .ok (.iload_n 3, 1) := by decide +kernel
theorem dL_law_745 : decode cL_law 745 = .ok (.iconst 1, 1) := by decide +kernel
theorem dL_law_746 : decode cL_law 746 = .ok (.iadd, 1) := by decide +kernel
theorem dL_law_747 : decode cL_law 747 = .ok (.iaload, 1) := by decide +kernel
theorem dL_law_748 : decode cL_law 748 = .ok (.invokevirtual 82, 3) := by decide +kernel
theorem dL_law_751 : decode cL_law 751 = .ok (.aload_n 2, 1) := by decide +kernel
theorem dL_law_752 : decode cL_law 752 = .ok (.aload_n 0, 1) := by decide +kernel
theorem dL_law_753 : decode cL_law 753 = .ok (.iload_n 3, 1) := by decide +kernel
theorem dL_law_754 : decode cL_law 754 = .ok (.iconst 1, 1) := by decide +kernel
theorem dL_law_755 : decode cL_law 755 = .ok (.iadd, 1) := by decide +kernel
theorem dL_law_756 : decode cL_law 756 = .ok (.iaload, 1) := by decide +kernel
theorem dL_law_757 : decode cL_law 757 = .ok (.invokevirtual 85, 3) := by decide +kernel
theorem dL_law_760 : decode cL_law 760 = .ok (.if_icmp .eq 236, 3) := by decide +kernel
theorem dL_law_763 : decode cL_law 763 = .ok (.iconst 0, 1) := by decide +kernel
theorem dL_law_764 : decode cL_law 764 = .ok (.ireturn, 1) := by decide +kernel
theorem dL_law_765 : decode cL_law 765 = .ok (.aload_n 1, 1) := by decide +kernel
theorem dL_law_766 : decode cL_law 766 = .ok (.invokevirtual 86, 3) := by decide +kernel
theorem dL_law_769 : decode cL_law 769 = .ok (.aload_n 2, 1) := by decide +kernel
theorem dL_law_770 : decode cL_law 770 = .ok (.invokevirtual 90, 3) := by decide +kernel
theorem dL_law_773 : decode cL_law 773 = .ok (.if_icmp .eq 223, 3) := by decide +kernel
theorem dL_law_776 : decode cL_law 776 = .ok (.iconst 0, 1) := by decide +kernel
theorem dL_law_777 : decode cL_law 777 = .ok (.ireturn, 1) := by decide +kernel
theorem dL_law_778 : decode cL_law 778 = .ok (.aload_n 1, 1) := by decide +kernel
theorem dL_law_779 : decode cL_law 779 = .ok (.aload_n 0, 1) := by decide +kernel
theorem dL_law_780 : decode cL_law 780 = .ok (.iload_n 3, 1) := by decide +kernel
theorem dL_law_781 : decode cL_law 781 = .ok (.iconst 1, 1) := by decide +kernel
theorem dL_law_782 : decode cL_law 782 = .ok (.iadd, 1) := by decide +kernel
theorem dL_law_783 : decode cL_law 783 = .ok (.iaload, 1) := by decide +kernel
theorem dL_law_784 : decode cL_law 784 = .ok (.invokevirtual 91, 3) := by decide +kernel
theorem dL_law_787 : decode cL_law 787 = .ok (.aload_n 2, 1) := by decide +kernel
theorem dL_law_788 : decode cL_law 788 = .ok (.aload_n 0, 1) := by decide +kernel
theorem dL_law_789 : decode cL_law 789 = .ok (.iload_n 3, 1) := by decide +kernel
theorem dL_law_790 : decode cL_law 790 = .ok (.iconst 1, 1) := by decide +kernel
theorem dL_law_791 : decode cL_law 791 = .ok (.iadd, 1) := by decide +kernel
theorem dL_law_792 : decode cL_law 792 = .ok (.iaload, 1) := by decide +kernel
theorem dL_law_793 : decode cL_law 793 = .ok (.invokevirtual 94, 3) := by decide +kernel
theorem dL_law_796 : decode cL_law 796 = .ok (.if_icmp .eq 200, 3) := by decide +kernel
theorem dL_law_799 : decode cL_law 799 = .ok (.iconst 0, 1) := by decide +kernel
theorem dL_law_800 : decode cL_law 800 = .ok (.ireturn, 1) := by decide +kernel
theorem dL_law_801 : decode cL_law 801 = .ok (.aload_n 1, 1) := by decide +kernel
theorem dL_law_802 : decode cL_law 802 = .ok (.aload_n 0, 1) := by decide +kernel
theorem dL_law_803 : decode cL_law 803 = .ok (.iload_n 3, 1) := by decide +kernel
theorem dL_law_804 : decode cL_law 804 = .ok (.iconst 1, 1) := by decide +kernel
theorem dL_law_805 : decode cL_law 805 = .ok (.iadd, 1) := by decide +kernel
theorem dL_law_806 : decode cL_law 806 = .ok (.iaload, 1) := by decide +kernel
theorem dL_law_807 : decode cL_law 807 = .ok (.aload_n 0, 1) := by decide +kernel
theorem dL_law_808 : decode cL_law 808 = .ok (.iload_n 3, 1) := by decide +kernel
theorem dL_law_809 : decode cL_law 809 = .ok (.iconst 2, 1) := by decide +kernel
theorem dL_law_810 : decode cL_law 810 = .ok (.iadd, 1) := by decide +kernel
theorem dL_law_811 : decode cL_law 811 = .ok (.iaload, 1) := by decide +kernel
theorem dL_law_812 : decode cL_law 812 = .ok (.aload_n 0, 1) := by decide +kernel
theorem dL_law_813 : decode cL_law 813 = .ok (.iload_n 3, 1) := by decide +kernel
theorem dL_law_814 : decode cL_law 814 = .ok (.iconst 3, 1) := by decide +kernel
theorem dL_law_815 : decode cL_law 815 = .ok (.iadd, 1) := by decide +kernel
theorem dL_law_816 : decode cL_law 816 = .ok (.iaload, 1) := by decide +kernel
theorem dL_law_817 : decode cL_law 817 = .ok (.invokevirtual 95, 3) := by decide +kernel
theorem dL_law_820 : decode cL_law 820 = .ok (.aload_n 2, 1) := by decide +kernel
theorem dL_law_821 : decode cL_law 821 = .ok (.aload_n 0, 1) := by decide +kernel
theorem dL_law_822 : decode cL_law 822 = .ok (.iload_n 3, 1) := by decide +kernel
theorem dL_law_823 : decode cL_law 823 = .ok (.iconst 1, 1) := by decide +kernel
theorem dL_law_824 : decode cL_law 824 = .ok (.iadd, 1) := by decide +kernel
theorem dL_law_825 : decode cL_law 825 = .ok (.iaload, 1) := by decide +kernel
theorem dL_law_826 : decode cL_law 826 = .ok (.aload_n 0, 1) := by decide +kernel
theorem dL_law_827 : decode cL_law 827 = .ok (.iload_n 3, 1) := by decide +kernel
theorem dL_law_828 : decode cL_law 828 = .ok (.iconst 2, 1) := by decide +kernel
theorem dL_law_829 : decode cL_law 829 = .ok (.iadd, 1) := by decide +kernel
theorem dL_law_830 : decode cL_law 830 = .ok (.iaload, 1) := by decide +kernel
theorem dL_law_831 : decode cL_law 831 = .ok (.aload_n 0, 1) := by decide +kernel
theorem dL_law_832 : decode cL_law 832 = .ok (.iload_n 3, 1) := by decide +kernel
theorem dL_law_833 : decode cL_law 833 = .ok (.iconst 3, 1) := by decide +kernel
theorem dL_law_834 : decode cL_law 834 = .ok (.iadd, 1) := by decide +kernel
theorem dL_law_835 : decode cL_law 835 = .ok (.iaload, 1) := by decide +kernel
theorem dL_law_836 : decode cL_law 836 = .ok (.invokevirtual 98, 3) := by decide +kernel
theorem dL_law_839 : decode cL_law 839 = .ok (.if_icmp .eq 157, 3) := by decide +kernel
theorem dL_law_842 : decode cL_law 842 = .ok (.iconst 0, 1) := by decide +kernel
theorem dL_law_843 : decode cL_law 843 = .ok (.ireturn, 1) := by decide +kernel
theorem dL_law_844 : decode cL_law 844 = .ok (.aload_n 1, 1) := by decide +kernel
theorem dL_law_845 : decode cL_law 845 = .ok (.aload_n 0, 1) := by decide +kernel
theorem dL_law_846 : decode cL_law 846 = .ok (.iload_n 3, 1) := by decide +kernel
theorem dL_law_847 : decode cL_law 847 = .ok (.iconst 1, 1) := by decide +kernel
theorem dL_law_848 : decode cL_law 848 = .ok (.iadd, 1) := by decide +kernel
theorem dL_law_849 : decode cL_law 849 = .ok (.iaload, 1) := by decide +kernel
theorem dL_law_850 : decode cL_law 850 = .ok (.aload_n 0, 1) := by decide +kernel
theorem dL_law_851 : decode cL_law 851 = .ok (.iload_n 3, 1) := by decide +kernel
theorem dL_law_852 : decode cL_law 852 = .ok (.iconst 2, 1) := by decide +kernel
theorem dL_law_853 : decode cL_law 853 = .ok (.iadd, 1) := by decide +kernel
theorem dL_law_854 : decode cL_law 854 = .ok (.iaload, 1) := by decide +kernel
theorem dL_law_855 : decode cL_law 855 = .ok (.aload_n 0, 1) := by decide +kernel
theorem dL_law_856 : decode cL_law 856 = .ok (.iload_n 3, 1) := by decide +kernel
theorem dL_law_857 : decode cL_law 857 = .ok (.iconst 3, 1) := by decide +kernel
theorem dL_law_858 : decode cL_law 858 = .ok (.iadd, 1) := by decide +kernel
theorem dL_law_859 : decode cL_law 859 = .ok (.iaload, 1) := by decide +kernel
theorem dL_law_860 : decode cL_law 860 = .ok (.ifCond .eq 7, 3) := by decide +kernel
theorem dL_law_863 : decode cL_law 863 = .ok (.iconst 1, 1) := by decide +kernel
theorem dL_law_864 : decode cL_law 864 = .ok (.goto 4, 3) := by decide +kernel
theorem dL_law_867 : decode cL_law 867 = .ok (.iconst 0, 1) := by decide +kernel
theorem dL_law_868 : decode cL_law 868 = .ok (.invokevirtual 99, 3) := by decide +kernel
theorem dL_law_871 : decode cL_law 871 = .ok (.aload_n 2, 1) := by decide +kernel
theorem dL_law_872 : decode cL_law 872 = .ok (.aload_n 0, 1) := by decide +kernel
theorem dL_law_873 : decode cL_law 873 = .ok (.iload_n 3, 1) := by decide +kernel
theorem dL_law_874 : decode cL_law 874 = .ok (.iconst 1, 1) := by decide +kernel
theorem dL_law_875 : decode cL_law 875 = .ok (.iadd, 1) := by decide +kernel
theorem dL_law_876 : decode cL_law 876 = .ok (.iaload, 1) := by decide +kernel
theorem dL_law_877 : decode cL_law 877 = .ok (.aload_n 0, 1) := by decide +kernel
theorem dL_law_878 : decode cL_law 878 = .ok (.iload_n 3, 1) := by decide +kernel
theorem dL_law_879 : decode cL_law 879 = .ok (.iconst 2, 1) := by decide +kernel
theorem dL_law_880 : decode cL_law 880 = .ok (.iadd, 1) := by decide +kernel
theorem dL_law_881 : decode cL_law 881 = .ok (.iaload, 1) := by decide +kernel
theorem dL_law_882 : decode cL_law 882 = .ok (.aload_n 0, 1) := by decide +kernel
theorem dL_law_883 : decode cL_law 883 = .ok (.iload_n 3, 1) := by decide +kernel
theorem dL_law_884 : decode cL_law 884 = .ok (.iconst 3, 1) := by decide +kernel
theorem dL_law_885 : decode cL_law 885 = .ok (.iadd, 1) := by decide +kernel
theorem dL_law_886 : decode cL_law 886 = .ok (.iaload, 1) := by decide +kernel
theorem dL_law_887 : decode cL_law 887 = .ok (.ifCond .eq 7, 3) := by decide +kernel
theorem dL_law_890 : decode cL_law 890 = .ok (.iconst 1, 1) := by decide +kernel
theorem dL_law_891 : decode cL_law 891 = .ok (.goto 4, 3) := by decide +kernel
theorem dL_law_894 : decode cL_law 894 = .ok (.iconst 0, 1) := by decide +kernel
theorem dL_law_895 : decode cL_law 895 = .ok (.invokevirtual 102, 3) := by decide +kernel
theorem dL_law_898 : decode cL_law 898 = .ok (.if_icmp .eq 98, 3) := by decide +kernel
theorem dL_law_901 : decode cL_law 901 = .ok (.iconst 0, 1) := by decide +kernel
theorem dL_law_902 : decode cL_law 902 = .ok (.ireturn, 1) := by decide +kernel
theorem dL_law_903 : decode cL_law 903 = .ok (.aload_n 1, 1) := by decide +kernel
theorem dL_law_904 : decode cL_law 904 = .ok (.aload_n 0, 1) := by decide +kernel
theorem dL_law_905 : decode cL_law 905 = .ok (.iload_n 3, 1) := by decide +kernel
theorem dL_law_906 : decode cL_law 906 = .ok (.iconst 1, 1) := by decide +kernel
theorem dL_law_907 : decode cL_law 907 = .ok (.iadd, 1) := by decide +kernel
theorem dL_law_908 : decode cL_law 908 = .ok (.iaload, 1) := by decide +kernel
theorem dL_law_909 : decode cL_law 909 = .ok (.aload_n 0, 1) := by decide +kernel
theorem dL_law_910 : decode cL_law 910 = .ok (.iload_n 3, 1) := by decide +kernel
theorem dL_law_911 : decode cL_law 911 = .ok (.iconst 2, 1) := by decide +kernel
theorem dL_law_912 : decode cL_law 912 = .ok (.iadd, 1) := by decide +kernel
theorem dL_law_913 : decode cL_law 913 = .ok (.iaload, 1) := by decide +kernel
theorem dL_law_914 : decode cL_law 914 = .ok (.invokevirtual 103, 3) := by decide +kernel
theorem dL_law_917 : decode cL_law 917 = .ok (.aload_n 2, 1) := by decide +kernel
theorem dL_law_918 : decode cL_law 918 = .ok (.aload_n 0, 1) := by decide +kernel
theorem dL_law_919 : decode cL_law 919 = .ok (.iload_n 3, 1) := by decide +kernel
theorem dL_law_920 : decode cL_law 920 = .ok (.iconst 1, 1) := by decide +kernel
theorem dL_law_921 : decode cL_law 921 = .ok (.iadd, 1) := by decide +kernel
theorem dL_law_922 : decode cL_law 922 = .ok (.iaload, 1) := by decide +kernel
theorem dL_law_923 : decode cL_law 923 = .ok (.aload_n 0, 1) := by decide +kernel
theorem dL_law_924 : decode cL_law 924 = .ok (.iload_n 3, 1) := by decide +kernel
theorem dL_law_925 : decode cL_law 925 = .ok (.iconst 2, 1) := by decide +kernel
theorem dL_law_926 : decode cL_law 926 = .ok (.iadd, 1) := by decide +kernel
theorem dL_law_927 : decode cL_law 927 = .ok (.iaload, 1) := by decide +kernel
theorem dL_law_928 : decode cL_law 928 = .ok (.invokevirtual 106, 3) := by decide +kernel
theorem dL_law_931 : decode cL_law 931 = .ok (.if_icmp .eq 65, 3) := by decide +kernel
theorem dL_law_934 : decode cL_law 934 = .ok (.iconst 0, 1) := by decide +kernel
theorem dL_law_935 : decode cL_law 935 = .ok (.ireturn, 1) := by decide +kernel
theorem dL_law_936 : decode cL_law 936 = .ok (.aload_n 1, 1) := by decide +kernel
theorem dL_law_937 : decode cL_law 937 = .ok (.aload_n 0, 1) := by decide +kernel
theorem dL_law_938 : decode cL_law 938 = .ok (.iload_n 3, 1) := by decide +kernel
theorem dL_law_939 : decode cL_law 939 = .ok (.iconst 1, 1) := by decide +kernel
theorem dL_law_940 : decode cL_law 940 = .ok (.iadd, 1) := by decide +kernel
theorem dL_law_941 : decode cL_law 941 = .ok (.iaload, 1) := by decide +kernel
theorem dL_law_942 : decode cL_law 942 = .ok (.aload_n 0, 1) := by decide +kernel
theorem dL_law_943 : decode cL_law 943 = .ok (.iload_n 3, 1) := by decide +kernel
theorem dL_law_944 : decode cL_law 944 = .ok (.iconst 2, 1) := by decide +kernel
theorem dL_law_945 : decode cL_law 945 = .ok (.iadd, 1) := by decide +kernel
theorem dL_law_946 : decode cL_law 946 = .ok (.iaload, 1) := by decide +kernel
theorem dL_law_947 : decode cL_law 947 = .ok (.invokevirtual 107, 3) := by decide +kernel
theorem dL_law_950 : decode cL_law 950 = .ok (.aload_n 2, 1) := by decide +kernel
theorem dL_law_951 : decode cL_law 951 = .ok (.aload_n 0, 1) := by decide +kernel
theorem dL_law_952 : decode cL_law 952 = .ok (.iload_n 3, 1) := by decide +kernel
theorem dL_law_953 : decode cL_law 953 = .ok (.iconst 1, 1) := by decide +kernel
theorem dL_law_954 : decode cL_law 954 = .ok (.iadd, 1) := by decide +kernel
theorem dL_law_955 : decode cL_law 955 = .ok (.iaload, 1) := by decide +kernel
theorem dL_law_956 : decode cL_law 956 = .ok (.aload_n 0, 1) := by decide +kernel
theorem dL_law_957 : decode cL_law 957 = .ok (.iload_n 3, 1) := by decide +kernel
theorem dL_law_958 : decode cL_law 958 = .ok (.iconst 2, 1) := by decide +kernel
theorem dL_law_959 : decode cL_law 959 = .ok (.iadd, 1) := by decide +kernel
theorem dL_law_960 : decode cL_law 960 = .ok (.iaload, 1) := by decide +kernel
theorem dL_law_961 : decode cL_law 961 = .ok (.invokevirtual 110, 3) := by decide +kernel
theorem dL_law_964 : decode cL_law 964 = .ok (.if_icmp .eq 32, 3) := by decide +kernel
theorem dL_law_967 : decode cL_law 967 = .ok (.iconst 0, 1) := by decide +kernel
theorem dL_law_968 : decode cL_law 968 = .ok (.ireturn, 1) := by decide +kernel
theorem dL_law_969 : decode cL_law 969 = .ok (.aload_n 1, 1) := by decide +kernel
theorem dL_law_970 : decode cL_law 970 = .ok (.invokevirtual 111, 3) := by decide +kernel
theorem dL_law_973 : decode cL_law 973 = .ok (.aload_n 2, 1) := by decide +kernel
theorem dL_law_974 : decode cL_law 974 = .ok (.invokevirtual 114, 3) := by decide +kernel
theorem dL_law_977 : decode cL_law 977 = .ok (.if_icmp .eq 19, 3) := by decide +kernel
theorem dL_law_980 : decode cL_law 980 = .ok (.iconst 0, 1) := by decide +kernel
theorem dL_law_981 : decode cL_law 981 = .ok (.ireturn, 1) := by decide +kernel
theorem dL_law_982 : decode cL_law 982 = .ok (.aload_n 1, 1) := by decide +kernel
theorem dL_law_983 : decode cL_law 983 = .ok (.invokevirtual 115, 3) := by decide +kernel
theorem dL_law_986 : decode cL_law 986 = .ok (.aload_n 2, 1) := by decide +kernel
theorem dL_law_987 : decode cL_law 987 = .ok (.invokevirtual 119, 3) := by decide +kernel
theorem dL_law_990 : decode cL_law 990 = .ok (.lcmp, 1) := by decide +kernel
theorem dL_law_991 : decode cL_law 991 = .ok (.ifCond .eq 5, 3) := by decide +kernel
theorem dL_law_994 : decode cL_law 994 = .ok (.iconst 0, 1) := by decide +kernel
theorem dL_law_995 : decode cL_law 995 = .ok (.ireturn, 1) := by decide +kernel
theorem dL_law_996 : decode cL_law 996 = .ok (.iinc 3 5, 3) := by decide +kernel
theorem dL_law_999 : decode cL_law 999 = .ok (.goto (-981), 3) := by decide +kernel
theorem dL_law_1002 : decode cL_law 1002 = .ok (.iconst 1, 1) := by decide +kernel
theorem dL_law_1003 : decode cL_law 1003 = .ok (.ireturn, 1) := by decide +kernel
end
section
abbrev vwCl : List vw_C := [(RX0, TX0, 2), (RX1, TX1, 1), (RX2, TX2, 3), (RX3, TX3, 5), (RX4, TX4, 8)]
end
section
/-! plain facts to paste, each family by itself; over the kit's nI, lN and upd -/
/-! ===== drawers: more things than places ===== -/
theorem fb_holes : ∀ (m n : Nat) (f : Nat → Nat), (∀ i, i < n → f i < m) → (∀ i j, i < j → j < n → f i ≠ f j) → n ≤ m := by
  intro m
  induction m with
  | zero =>
    intro n f h1 _
    rcases Nat.eq_zero_or_pos n with h | h
    · omega
    · exact absurd (h1 0 h) (Nat.not_lt_zero _)
  | succ m ih =>
    intro n f h1 h2
    by_cases hx : ∃ i, i < n ∧ f i = m
    · obtain ⟨a, ha, hfa⟩ := hx
      have hg := ih (n - 1) (fun i => if i < a then f i else f (i + 1)) (by
        intro i hi
        by_cases q : i < a
        · simp only [if_pos q]
          have b1 := h1 i (by omega)
          have b2 := h2 i a q ha
          omega
        · simp only [if_neg q]
          have b1 := h1 (i + 1) (by omega)
          have b2 := h2 a (i + 1) (by omega) (by omega)
          omega) (by
        intro i j hij hj
        by_cases q : i < a
        · by_cases r : j < a
          · simp only [if_pos q, if_pos r]
            exact h2 i j hij (by omega)
          · simp only [if_pos q, if_neg r]
            exact h2 i (j + 1) (by omega) (by omega)
        · have r : ¬ j < a := by omega
          simp only [if_neg q, if_neg r]
          exact h2 (i + 1) (j + 1) (by omega) (by omega))
      omega
    · have hg := ih n f (fun i hi => by
        have b1 := h1 i hi
        have b2 : f i ≠ m := fun e => hx ⟨i, hi, e⟩
        omega) h2
      omega
/-- two of them in one place -/
theorem fb_twice {m n : Nat} {f : Nat → Nat} (h : ∀ i, i < n → f i < m) (hm : m < n) : ∃ i j, i < j ∧ j < n ∧ f i = f j := by
  refine Classical.byContradiction fun hx => ?_
  have := fb_holes m n f h (fun i j hij hj e => hx ⟨i, j, hij, hj, e⟩)
  omega
/-- as many as places, none twice: each place is taken -/
theorem fb_onto {n : Nat} {f : Nat → Nat} (h : ∀ i, i < n → f i < n) (h2 : ∀ i j, i < j → j < n → f i ≠ f j) {y : Nat} (hy : y < n) : ∃ i, i < n ∧ f i = y := by
  refine Classical.byContradiction fun hx => ?_
  have hne : ∀ i, i < n → f i ≠ y := fun i hi e => hx ⟨i, hi, e⟩
  have := fb_holes (n - 1) n (fun i => if f i < y then f i else f i - 1) (by
    intro i hi
    have b1 := h i hi
    have b2 := hne i hi
    by_cases q : f i < y
    · simp only [if_pos q]; omega
    · simp only [if_neg q]; omega) (by
    intro i j hij hj
    have b1 := hne i (by omega)
    have b2 := hne j hj
    have b3 := h2 i j hij hj
    by_cases q : f i < y
    · by_cases r : f j < y
      · simp only [if_pos q, if_pos r]; exact b3
      · simp only [if_pos q, if_neg r]; omega
    · by_cases r : f j < y
      · simp only [if_neg q, if_pos r]; omega
      · simp only [if_neg q, if_neg r]; omega)
  omega
/-! ===== how many places have a property ===== -/
def fb_ct (p : Nat → Bool) : Nat → Nat
  | 0 => 0
  | n + 1 => fb_ct p n + (if p n then 1 else 0)
theorem fb_ct_succ (p : Nat → Bool) (n : Nat) : fb_ct p (n + 1) = fb_ct p n + (if p n then 1 else 0) := rfl
theorem fb_ct_le (p : Nat → Bool) : ∀ n, fb_ct p n ≤ n
  | 0 => Nat.le_refl _
  | n + 1 => by
    have h := fb_ct_le p n
    rw [fb_ct_succ]
    split <;> omega
theorem fb_ct_step (p : Nat → Bool) (m : Nat) : ∀ n, fb_ct p m ≤ fb_ct p (m + n)
  | 0 => Nat.le_refl _
  | n + 1 => by
    have h := fb_ct_step p m n
    show fb_ct p m ≤ fb_ct p (m + n + 1)
    rw [fb_ct_succ]
    omega
theorem fb_ct_mono (p : Nat → Bool) {m n : Nat} (h : m ≤ n) : fb_ct p m ≤ fb_ct p n := by
  have := fb_ct_step p m (n - m)
  rwa [Nat.add_sub_cancel' h] at this
theorem fb_ct_cong {p q : Nat → Bool} : ∀ {n : Nat}, (∀ k, k < n → p k = q k) → fb_ct p n = fb_ct q n
  | 0, _ => rfl
  | n + 1, h => by
    rw [fb_ct_succ, fb_ct_succ, fb_ct_cong (fun k hk => h k (by omega)), h n (by omega)]
/-- one place changed -/
theorem fb_ct_out (p : Nat → Bool) (b : Bool) {i n : Nat} (h : n ≤ i) : fb_ct (fun k => if k = i then b else p k) n = fb_ct p n :=
  fb_ct_cong fun k hk => if_neg (by omega)
theorem fb_ct_upd (p : Nat → Bool) (b : Bool) {i : Nat} : ∀ {n : Nat}, i < n → fb_ct (fun k => if k = i then b else p k) n + (if p i then 1 else 0) = fb_ct p n + (if b then 1 else 0)
  | 0, h => absurd h (Nat.not_lt_zero i)
  | n + 1, h => by
    rw [fb_ct_succ, fb_ct_succ]
    rcases Nat.lt_or_ge i n with q | q
    · have := fb_ct_upd p b q
      have e : (if n = i then b else p n) = p n := if_neg (by omega)
      rw [e]
      omega
    · have e : i = n := by omega
      subst e
      rw [fb_ct_out p b (Nat.le_refl _)]
      simp only [if_true]
      omega
theorem fb_ct_sub {p q : Nat → Bool} : ∀ {n : Nat}, (∀ k, k < n → p k = true → q k = true) → fb_ct p n ≤ fb_ct q n
  | 0, _ => Nat.le_refl _
  | n + 1, h => by
    have h1 := fb_ct_sub (n := n) (p := p) (q := q) (fun k hk => h k (by omega))
    have h2 := h n (by omega)
    rw [fb_ct_succ, fb_ct_succ]
    cases hp : p n <;> cases hq : q n <;> simp_all <;> omega
theorem fb_ct_or {p q : Nat → Bool} : ∀ {n : Nat}, (∀ k, k < n → ¬ (p k = true ∧ q k = true)) → fb_ct (fun k => p k || q k) n = fb_ct p n + fb_ct q n
  | 0, _ => rfl
  | n + 1, h => by
    have h1 := fb_ct_or (n := n) (p := p) (q := q) (fun k hk => h k (by omega))
    have h2 := h n (by omega)
    rw [fb_ct_succ, fb_ct_succ, fb_ct_succ, h1]
    cases hp : p n <;> cases hq : q n <;> simp_all <;> omega
theorem fb_ct_not (p : Nat → Bool) : ∀ n, fb_ct p n + fb_ct (fun k => !p k) n = n
  | 0 => rfl
  | n + 1 => by
    have h := fb_ct_not p n
    rw [fb_ct_succ, fb_ct_succ]
    cases p n <;> simp <;> omega
theorem fb_ct_split (p : Nat → Bool) (m : Nat) : ∀ n, fb_ct p (m + n) = fb_ct p m + fb_ct (fun k => p (m + k)) n
  | 0 => rfl
  | n + 1 => by
    have h := fb_ct_split p m n
    show fb_ct p (m + n + 1) = _
    rw [fb_ct_succ, fb_ct_succ, h, Nat.add_assoc]
theorem fb_ct_zero {p : Nat → Bool} : ∀ {n : Nat}, fb_ct p n = 0 ↔ ∀ k, k < n → p k = false
  | 0 => ⟨fun _ k hk => absurd hk (Nat.not_lt_zero k), fun _ => rfl⟩
  | n + 1 => by
    have h := fb_ct_zero (p := p) (n := n)
    rw [fb_ct_succ]
    constructor
    · intro e k hk
      have e1 : fb_ct p n = 0 := by omega
      rcases Nat.lt_or_ge k n with q | q
      · exact h.mp e1 k q
      · have ek : k = n := by omega
        subst ek
        cases hp : p k
        · rfl
        · simp [hp] at e
    · intro a
      rw [h.mpr (fun k hk => a k (by omega)), a n (by omega)]
      rfl
theorem fb_ct_pos {p : Nat → Bool} {n : Nat} : 0 < fb_ct p n ↔ ∃ k, k < n ∧ p k = true := by
  constructor
  · intro h
    refine Classical.byContradiction fun hx => ?_
    have := fb_ct_zero.mpr (fun k hk => by
      cases hp : p k
      · rfl
      · exact absurd ⟨k, hk, hp⟩ hx : ∀ k, k < n → p k = false)
    omega
  · rintro ⟨k, hk, hp⟩
    rcases Nat.eq_zero_or_pos (fb_ct p n) with e | e
    · have := fb_ct_zero.mp e k hk
      rw [this] at hp
      cases hp
    · exact e
theorem fb_ct_all {p : Nat → Bool} {n : Nat} : fb_ct p n = n ↔ ∀ k, k < n → p k = true := by
  have h := fb_ct_not p n
  constructor
  · intro e k hk
    have z : fb_ct (fun k => !p k) n = 0 := by omega
    have := fb_ct_zero.mp z k hk
    cases hp : p k
    · simp [hp] at this
    · rfl
  · intro a
    have z : fb_ct (fun k => !p k) n = 0 := fb_ct_zero.mpr (fun k hk => by simp [a k hk])
    omega
/-- the k-th place with the property -/
theorem fb_ct_kth {p : Nat → Bool} {k : Nat} : ∀ {n : Nat}, k < fb_ct p n → ∃ i, i < n ∧ p i = true ∧ fb_ct p i = k
  | 0, h => absurd h (Nat.not_lt_zero k)
  | n + 1, h => by
    rcases Nat.lt_or_ge k (fb_ct p n) with q | q
    · obtain ⟨i, h1, h2⟩ := fb_ct_kth q
      exact ⟨i, by omega, h2⟩
    · rw [fb_ct_succ] at h
      cases hp : p n
      · simp [hp] at h; omega
      · simp [hp] at h
        exact ⟨n, by omega, hp, by omega⟩
theorem fb_ct_kth_one {p : Nat → Bool} {i j : Nat} (hi : p i = true) (hj : p j = true) (e : fb_ct p i = fb_ct p j) : i = j := by
  have key : ∀ a b : Nat, a < b → p a = true → fb_ct p a < fb_ct p b := by
    intro a b hab ha
    have h := fb_ct_mono p (show a + 1 ≤ b from hab)
    rw [fb_ct_succ, ha] at h
    simp at h
    omega
  rcases Nat.lt_trichotomy i j with q | q | q
  · have := key i j q hi; omega
  · exact q
  · have := key j i q hj; omega
/-! ===== sums over a range: one place changed, parts, bounds ===== -/
def fb_sm (f : Nat → Nat) : Nat → Nat
  | 0 => 0
  | n + 1 => fb_sm f n + f n
theorem fb_sm_succ (f : Nat → Nat) (n : Nat) : fb_sm f (n + 1) = fb_sm f n + f n := rfl
theorem fb_sm_cong {f g : Nat → Nat} : ∀ {n : Nat}, (∀ k, k < n → f k = g k) → fb_sm f n = fb_sm g n
  | 0, _ => rfl
  | n + 1, h => by rw [fb_sm_succ, fb_sm_succ, fb_sm_cong (fun k hk => h k (by omega)), h n (by omega)]
theorem fb_sm_out (f : Nat → Nat) (v : Nat) {i n : Nat} (h : n ≤ i) : fb_sm (fun k => if k = i then v else f k) n = fb_sm f n :=
  fb_sm_cong fun k hk => if_neg (by omega)
theorem fb_sm_upd (f : Nat → Nat) (v : Nat) {i : Nat} : ∀ {n : Nat}, i < n → fb_sm (fun k => if k = i then v else f k) n + f i = fb_sm f n + v
  | 0, h => absurd h (Nat.not_lt_zero i)
  | n + 1, h => by
    rw [fb_sm_succ, fb_sm_succ]
    rcases Nat.lt_or_ge i n with q | q
    · have := fb_sm_upd f v q
      have e : (if n = i then v else f n) = f n := if_neg (by omega)
      rw [e]
      omega
    · have e : i = n := by omega
      subst e
      rw [fb_sm_out f v (Nat.le_refl _)]
      simp only [if_true]
      omega
theorem fb_sm_add (f g : Nat → Nat) : ∀ n, fb_sm (fun k => f k + g k) n = fb_sm f n + fb_sm g n
  | 0 => rfl
  | n + 1 => by
    have h := fb_sm_add f g n
    rw [fb_sm_succ, fb_sm_succ, fb_sm_succ, h]
    omega
theorem fb_sm_le {f g : Nat → Nat} : ∀ {n : Nat}, (∀ k, k < n → f k ≤ g k) → fb_sm f n ≤ fb_sm g n
  | 0, _ => Nat.le_refl _
  | n + 1, h => by
    have h1 := fb_sm_le (n := n) (f := f) (g := g) (fun k hk => h k (by omega))
    have h2 := h n (by omega)
    rw [fb_sm_succ, fb_sm_succ]
    omega
theorem fb_sm_const (c : Nat) : ∀ n, fb_sm (fun _ => c) n = n * c
  | 0 => by rw [Nat.zero_mul]; rfl
  | n + 1 => by rw [fb_sm_succ, fb_sm_const c n, Nat.succ_mul]
theorem fb_sm_bound {f : Nat → Nat} {c n : Nat} (h : ∀ k, k < n → f k ≤ c) : fb_sm f n ≤ n * c := by
  rw [← fb_sm_const c n]
  exact fb_sm_le h
theorem fb_sm_mono (f : Nat → Nat) (m : Nat) : ∀ n, fb_sm f m ≤ fb_sm f (m + n)
  | 0 => Nat.le_refl _
  | n + 1 => by
    have h := fb_sm_mono f m n
    show fb_sm f m ≤ fb_sm f (m + n + 1)
    rw [fb_sm_succ]
    omega
theorem fb_sm_part (f : Nat → Nat) {i n : Nat} (h : i < n) : fb_sm f i + f i ≤ fb_sm f n := by
  have := fb_sm_mono f (i + 1) (n - (i + 1))
  rw [fb_sm_succ, show i + 1 + (n - (i + 1)) = n by omega] at this
  exact this
theorem fb_sm_split (f : Nat → Nat) (m : Nat) : ∀ n, fb_sm f (m + n) = fb_sm f m + fb_sm (fun k => f (m + k)) n
  | 0 => rfl
  | n + 1 => by
    have h := fb_sm_split f m n
    show fb_sm f (m + n + 1) = _
    rw [fb_sm_succ, fb_sm_succ, h, Nat.add_assoc]
theorem fb_sm_zero {f : Nat → Nat} {n : Nat} (h : fb_sm f n = 0) : ∀ k, k < n → f k = 0 := fun k hk => by
  have := fb_sm_part f hk
  omega
/-- the same over whole numbers -/
def fb_si (f : Nat → Int) : Nat → Int
  | 0 => 0
  | n + 1 => fb_si f n + f n
theorem fb_si_succ (f : Nat → Int) (n : Nat) : fb_si f (n + 1) = fb_si f n + f n := rfl
theorem fb_si_cong {f g : Nat → Int} : ∀ {n : Nat}, (∀ k, k < n → f k = g k) → fb_si f n = fb_si g n
  | 0, _ => rfl
  | n + 1, h => by rw [fb_si_succ, fb_si_succ, fb_si_cong (fun k hk => h k (by omega)), h n (by omega)]
theorem fb_si_out (f : Nat → Int) (v : Int) {i n : Nat} (h : n ≤ i) : fb_si (fun k => if k = i then v else f k) n = fb_si f n :=
  fb_si_cong fun k hk => if_neg (by omega)
theorem fb_si_upd (f : Nat → Int) (v : Int) {i : Nat} : ∀ {n : Nat}, i < n → fb_si (fun k => if k = i then v else f k) n = fb_si f n - f i + v
  | 0, h => absurd h (Nat.not_lt_zero i)
  | n + 1, h => by
    rw [fb_si_succ, fb_si_succ]
    rcases Nat.lt_or_ge i n with q | q
    · have := fb_si_upd f v q
      have e : (if n = i then v else f n) = f n := if_neg (by omega)
      rw [e]
      omega
    · have e : i = n := by omega
      subst e
      rw [fb_si_out f v (Nat.le_refl _)]
      simp only [if_true]
      omega
theorem fb_si_add (f g : Nat → Int) : ∀ n, fb_si (fun k => f k + g k) n = fb_si f n + fb_si g n
  | 0 => rfl
  | n + 1 => by
    have h := fb_si_add f g n
    rw [fb_si_succ, fb_si_succ, fb_si_succ, h]
    omega
theorem fb_si_sub (f g : Nat → Int) : ∀ n, fb_si (fun k => f k - g k) n = fb_si f n - fb_si g n
  | 0 => rfl
  | n + 1 => by
    have h := fb_si_sub f g n
    rw [fb_si_succ, fb_si_succ, fb_si_succ, h]
    omega
theorem fb_si_mul (c : Int) (f : Nat → Int) : ∀ n, fb_si (fun k => c * f k) n = c * fb_si f n
  | 0 => (Int.mul_zero c).symm
  | n + 1 => by
    have h := fb_si_mul c f n
    rw [fb_si_succ, fb_si_succ, h, Int.mul_add]
theorem fb_si_split (f : Nat → Int) (m : Nat) : ∀ n, fb_si f (m + n) = fb_si f m + fb_si (fun k => f (m + k)) n
  | 0 => (Int.add_zero _).symm
  | n + 1 => by
    have h := fb_si_split f m n
    show fb_si f (m + n + 1) = _
    rw [fb_si_succ, fb_si_succ, h, Int.add_assoc]
theorem fb_si_nat (f : Nat → Nat) : ∀ n, fb_si (fun k => (f k : Int)) n = (fb_sm f n : Int)
  | 0 => rfl
  | n + 1 => by
    have h := fb_si_nat f n
    rw [fb_si_succ, fb_sm_succ, h]
    omega
theorem fb_si_bound {f : Nat → Int} {c : Int} (hc : 0 ≤ c) : ∀ {n : Nat}, (∀ k, k < n → -c ≤ f k ∧ f k ≤ c) → -(n * c) ≤ fb_si f n ∧ fb_si f n ≤ n * c
  | 0, _ => by simp [fb_si]
  | n + 1, h => by
    have h1 := fb_si_bound (n := n) (f := f) hc (fun k hk => h k (by omega))
    have h2 := h n (by omega)
    have e : ((n + 1 : Nat) : Int) * c = n * c + c := by rw [Int.natCast_add, Int.add_mul]; simp
    rw [fb_si_succ, e]
    omega
/-! ===== bits of a long that isn't negative ===== -/
theorem fb_andL (a b : Nat) : lN a &&& lN b = lN (a &&& b) := by
  apply Int64.toBitVec_inj.1
  show BitVec.ofNat 64 a &&& BitVec.ofNat 64 b = BitVec.ofNat 64 (a &&& b)
  apply BitVec.eq_of_getLsbD_eq
  intro i hi
  simp [hi]
theorem fb_orL (a b : Nat) : lN a ||| lN b = lN (a ||| b) := by
  apply Int64.toBitVec_inj.1
  show BitVec.ofNat 64 a ||| BitVec.ofNat 64 b = BitVec.ofNat 64 (a ||| b)
  apply BitVec.eq_of_getLsbD_eq
  intro i hi
  simp [hi]
theorem fb_xorL (a b : Nat) : lN a ^^^ lN b = lN (a ^^^ b) := by
  apply Int64.toBitVec_inj.1
  show BitVec.ofNat 64 a ^^^ BitVec.ofNat 64 b = BitVec.ofNat 64 (a ^^^ b)
  apply BitVec.eq_of_getLsbD_eq
  intro i hi
  simp [hi]
theorem fb_xorI (a b : Nat) : nI a ^^^ nI b = nI (a ^^^ b) := by
  apply Int32.toBitVec_inj.1
  show BitVec.ofNat 32 a ^^^ BitVec.ofNat 32 b = BitVec.ofNat 32 (a ^^^ b)
  apply BitVec.eq_of_getLsbD_eq
  intro i hi
  simp [hi]
theorem fb_maskL (n k : Nat) : lN n &&& lN (2 ^ k - 1) = lN (n % 2 ^ k) := by rw [fb_andL, Nat.and_two_pow_sub_one_eq_mod]
theorem fb_or_sumL {a k : Nat} (b : Nat) (h : a < 2 ^ k) : lN (2 ^ k * b) ||| lN a = lN (2 ^ k * b + a) := by rw [fb_orL, Nat.two_pow_add_eq_or_of_lt h]
theorem fb_lN_inj {a b : Nat} (ha : a < 2 ^ 63) (hb : b < 2 ^ 63) : lN a = lN b ↔ a = b := by
  constructor
  · intro h
    have h1 : (BitVec.ofNat 64 a).toNat = (BitVec.ofNat 64 b).toNat := congrArg (fun x : Int64 => x.toBitVec.toNat) h
    rw [BitVec.toNat_ofNat, BitVec.toNat_ofNat, Nat.mod_eq_of_lt (by omega), Nat.mod_eq_of_lt (by omega)] at h1
    exact h1
  · rintro rfl; rfl
theorem fb_bit_nat (n j : Nat) : n &&& 2 ^ j = 0 ↔ n.testBit j = false := by
  constructor
  · intro h
    have h1 : (n &&& 2 ^ j).testBit j = false := by rw [h]; simp
    rw [Nat.testBit_and] at h1
    simpa using h1
  · intro h
    apply Nat.eq_of_testBit_eq
    intro i
    rw [Nat.testBit_and]
    by_cases hi : j = i
    · subst hi; simp [h]
    · first | (simp [Nat.testBit_two_pow, hi]; done) | (simp [Nat.testBit_two_pow_of_ne hi]; done)
/-- one bit of a long -/
theorem fb_bitL {n j : Nat} (hj : j < 63) : lN n &&& lN (2 ^ j) = 0 ↔ n.testBit j = false := by
  have h2 : (2 : Nat) ^ j < 2 ^ 63 := Nat.pow_lt_pow_right (by decide) hj
  have hle : n &&& 2 ^ j ≤ 2 ^ j := Nat.and_le_right
  rw [fb_andL, ← fb_bit_nat, show (0 : Int64) = lN 0 from rfl]
  exact fb_lN_inj (by omega) (by decide)
/-- a bit set, a bit taken off -/
theorem fb_bit_set (n j i : Nat) : (n ||| 2 ^ j).testBit i = (n.testBit i || decide (i = j)) := by
  rw [Nat.testBit_or]
  by_cases h : j = i
  · subst h; simp
  · have h2 : ¬ i = j := fun e => h e.symm
    first | (simp [Nat.testBit_two_pow, h, h2]; done) | (simp [Nat.testBit_two_pow_of_ne h, h2]; done)
theorem fb_bit_flip (n j i : Nat) : (n ^^^ 2 ^ j).testBit i = (n.testBit i ^^ decide (i = j)) := by
  rw [Nat.testBit_xor]
  by_cases h : j = i
  · subst h; simp
  · have h2 : ¬ i = j := fun e => h e.symm
    first | (simp [Nat.testBit_two_pow, h, h2]; done) | (simp [Nat.testBit_two_pow_of_ne h, h2]; done)
/-! ===== a stretch of an array written over by a function ===== -/
def fb_put {α : Type} (f g : Nat → α) (a n : Nat) : Nat → α := fun k => if a ≤ k ∧ k < a + n then g (k - a) else f k
theorem fb_put_0 {α : Type} (f g : Nat → α) (a : Nat) : fb_put f g a 0 = f := funext fun k => if_neg (by omega)
theorem fb_put_in {α : Type} {f g : Nat → α} {a n k : Nat} (h1 : a ≤ k) (h2 : k < a + n) : fb_put f g a n k = g (k - a) := if_pos ⟨h1, h2⟩
theorem fb_put_out {α : Type} {f g : Nat → α} {a n k : Nat} (h : k < a ∨ a + n ≤ k) : fb_put f g a n k = f k := if_neg (by omega)
theorem fb_put_succ (f g : Nat → Int32) (a n : Nat) : upd (fb_put f g a n) (a + n) (g n) = fb_put f g a (n + 1) := by
  funext k
  by_cases h : k = a + n
  · subst h
    simp [upd, fb_put]
  · by_cases h1 : a ≤ k ∧ k < a + n
    · have h2 : a ≤ k ∧ k < a + (n + 1) := by omega
      simp only [upd, fb_put, if_neg h, if_pos h1, if_pos h2]
    · have h2 : ¬ (a ≤ k ∧ k < a + (n + 1)) := by omega
      simp only [upd, fb_put, if_neg h, if_neg h1, if_neg h2]
/-- .. from the far end down -/
theorem fb_put_down (f g : Nat → Int32) {a n m : Nat} (h : m < n) : upd (fb_put f (fun k => g (k + (m + 1))) (a + (m + 1)) (n - (m + 1))) (a + m) (g m) = fb_put f (fun k => g (k + m)) (a + m) (n - m) := by
  funext k
  by_cases h0 : k = a + m
  · subst h0
    simp only [upd, if_true]
    rw [fb_put_in (by omega) (by omega)]
    exact congrArg g (by omega)
  · simp only [upd, if_neg h0]
    by_cases h1 : a + (m + 1) ≤ k ∧ k < a + (m + 1) + (n - (m + 1))
    · rw [fb_put_in h1.1 h1.2, fb_put_in (by omega) (by omega)]
      exact congrArg g (by omega)
    · rw [fb_put_out (by omega), fb_put_out (by omega)]
theorem fb_put_cong {α : Type} {f f2 g g2 : Nat → α} {a n : Nat} (hf : ∀ k, (k < a ∨ a + n ≤ k) → f k = f2 k) (hg : ∀ k, k < n → g k = g2 k) : fb_put f g a n = fb_put f2 g2 a n := by
  funext k
  by_cases h : a ≤ k ∧ k < a + n
  · rw [fb_put_in h.1 h.2, fb_put_in h.1 h.2, hg _ (by omega)]
  · rw [fb_put_out (by omega), fb_put_out (by omega), hf _ (by omega)]
/-! ===== the least, the first, the best so far; that there is one alone ===== -/
theorem fb_first {p : Nat → Prop} [DecidablePred p] : ∀ {n : Nat}, (∃ i, i < n ∧ p i) → ∃ i, i < n ∧ p i ∧ ∀ j, j < i → ¬ p j
  | 0, h => by obtain ⟨i, hi, -⟩ := h; exact absurd hi (Nat.not_lt_zero i)
  | n + 1, h => by
    by_cases q : ∃ i, i < n ∧ p i
    · obtain ⟨i, h1, h2⟩ := fb_first q
      exact ⟨i, by omega, h2⟩
    · obtain ⟨i, h1, h2⟩ := h
      have e : i = n := by
        rcases Nat.lt_or_ge i n with r | r
        · exact absurd ⟨i, r, h2⟩ q
        · omega
      subst e
      exact ⟨i, by omega, h2, fun j hj hp => q ⟨j, hj, hp⟩⟩
theorem fb_first_one {p : Nat → Prop} {i j : Nat} (hi : p i) (hi2 : ∀ k, k < i → ¬ p k) (hj : p j) (hj2 : ∀ k, k < j → ¬ p k) : i = j := by
  rcases Nat.lt_trichotomy i j with q | q | q
  · exact absurd hi (hj2 i q)
  · exact q
  · exact absurd hj (hi2 j q)
theorem fb_last {p : Nat → Prop} [DecidablePred p] : ∀ {n : Nat}, (∃ i, i < n ∧ p i) → ∃ i, i < n ∧ p i ∧ ∀ j, i < j → j < n → ¬ p j
  | 0, h => by obtain ⟨i, hi, -⟩ := h; exact absurd hi (Nat.not_lt_zero i)
  | n + 1, h => by
    by_cases q : p n
    · exact ⟨n, by omega, q, fun j h1 h2 => by omega⟩
    · obtain ⟨i, h1, h2⟩ := h
      have hi : i < n := by
        rcases Nat.lt_or_ge i n with r | r
        · exact r
        · have e : i = n := by omega
          subst e
          exact absurd h2 q
      obtain ⟨i2, a1, a2, a3⟩ := fb_last (n := n) ⟨i, hi, h2⟩
      refine ⟨i2, by omega, a2, fun j b1 b2 => ?_⟩
      rcases Nat.lt_or_ge j n with r | r
      · exact a3 j b1 r
      · have e : j = n := by omega
        subst e
        exact q
/-- the first greatest -/
theorem fb_best (f : Nat → Int) : ∀ {n : Nat}, 0 < n → ∃ i, i < n ∧ (∀ j, j < n → f j ≤ f i) ∧ ∀ j, j < i → f j < f i
  | 0, h => absurd h (Nat.lt_irrefl 0)
  | 1, _ => ⟨0, by omega, fun j hj => by have e : j = 0 := by omega
                                         subst e; exact Int.le_refl _, fun j hj => absurd hj (Nat.not_lt_zero j)⟩
  | n + 2, _ => by
    obtain ⟨i, h1, h2, h3⟩ := fb_best f (n := n + 1) (by omega)
    by_cases q : f i < f (n + 1)
    · refine ⟨n + 1, by omega, fun j hj => ?_, fun j hj => ?_⟩
      · rcases Nat.lt_or_ge j (n + 1) with r | r
        · have := h2 j r; omega
        · have e : j = n + 1 := by omega
          subst e; exact Int.le_refl _
      · have := h2 j hj; omega
    · refine ⟨i, by omega, fun j hj => ?_, h3⟩
      rcases Nat.lt_or_ge j (n + 1) with r | r
      · exact h2 j r
      · have e : j = n + 1 := by omega
        subst e; omega
theorem fb_best_one {f : Nat → Int} {n i j : Nat} (hi : i < n) (hi2 : ∀ k, k < n → f k ≤ f i) (hi3 : ∀ k, k < i → f k < f i) (hj : j < n) (hj2 : ∀ k, k < n → f k ≤ f j) (hj3 : ∀ k, k < j → f k < f j) : i = j := by
  rcases Nat.lt_trichotomy i j with q | q | q
  · have a := hj3 i q
    have b := hi2 j hj
    omega
  · exact q
  · have a := hi3 j q
    have b := hj2 i hi
    omega
/-- the first least -/
theorem fb_low (f : Nat → Int) {n : Nat} (h : 0 < n) : ∃ i, i < n ∧ (∀ j, j < n → f i ≤ f j) ∧ ∀ j, j < i → f i < f j := by
  obtain ⟨i, h1, h2, h3⟩ := fb_best (fun k => -f k) h
  exact ⟨i, h1, fun j hj => by have := h2 j hj; omega, fun j hj => by have := h3 j hj; omega⟩
/-! ===== signed ints as whole numbers, within bounds ===== -/
theorem fb_rng (x : Int32) : -2147483648 ≤ x.toInt ∧ x.toInt < 2147483648 := by
  have h1 := Int32.le_toInt x
  have h2 := Int32.toInt_lt x
  omega
theorem fb_bmod {z : Int} (h1 : -2147483648 ≤ z) (h2 : z < 2147483648) : z.bmod (2 ^ 32) = z := by
  rw [Int.bmod_eq_of_le (by omega) (by omega)]
theorem fb_addI {x y : Int32} (h1 : -2147483648 ≤ x.toInt + y.toInt) (h2 : x.toInt + y.toInt < 2147483648) : (x + y).toInt = x.toInt + y.toInt := by
  rw [Int32.toInt_add, fb_bmod h1 h2]
theorem fb_subI {x y : Int32} (h1 : -2147483648 ≤ x.toInt - y.toInt) (h2 : x.toInt - y.toInt < 2147483648) : (x - y).toInt = x.toInt - y.toInt := by
  rw [Int32.toInt_sub, fb_bmod h1 h2]
theorem fb_mulI {x y : Int32} (h1 : -2147483648 ≤ x.toInt * y.toInt) (h2 : x.toInt * y.toInt < 2147483648) : (x * y).toInt = x.toInt * y.toInt := by
  rw [Int32.toInt_mul, fb_bmod h1 h2]
theorem fb_negI {x : Int32} (h : x.toInt ≠ -2147483648) : (-x).toInt = -x.toInt := by
  have := fb_rng x
  rw [Int32.toInt_neg, fb_bmod (by omega) (by omega)]
theorem fb_ofI {z : Int} (h1 : -2147483648 ≤ z) (h2 : z < 2147483648) : (Int32.ofInt z).toInt = z := by
  rw [Int32.toInt_ofInt, fb_bmod h1 h2]
theorem fb_asI (x : Int32) : Int32.ofInt x.toInt = x := Int32.ofInt_toInt x
theorem fb_rngL (x : Int64) : -9223372036854775808 ≤ x.toInt ∧ x.toInt < 9223372036854775808 := by
  have h1 := Int64.le_toInt x
  have h2 := Int64.toInt_lt x
  omega
theorem fb_bmodL {z : Int} (h1 : -9223372036854775808 ≤ z) (h2 : z < 9223372036854775808) : z.bmod (2 ^ 64) = z := by
  rw [Int.bmod_eq_of_le (by omega) (by omega)]
theorem fb_addL {x y : Int64} (h1 : -9223372036854775808 ≤ x.toInt + y.toInt) (h2 : x.toInt + y.toInt < 9223372036854775808) : (x + y).toInt = x.toInt + y.toInt := by
  rw [Int64.toInt_add, fb_bmodL h1 h2]
theorem fb_subL {x y : Int64} (h1 : -9223372036854775808 ≤ x.toInt - y.toInt) (h2 : x.toInt - y.toInt < 9223372036854775808) : (x - y).toInt = x.toInt - y.toInt := by
  rw [Int64.toInt_sub, fb_bmodL h1 h2]
theorem fb_mulL {x y : Int64} (h1 : -9223372036854775808 ≤ x.toInt * y.toInt) (h2 : x.toInt * y.toInt < 9223372036854775808) : (x * y).toInt = x.toInt * y.toInt := by
  rw [Int64.toInt_mul, fb_bmodL h1 h2]
/-! ===== cuts of what is narrow already ===== -/
theorem fb_byte {x : Int32} (h1 : -128 ≤ x.toInt) (h2 : x.toInt < 128) : x.toInt8.toInt32 = x := by
  apply Int32.toInt_inj.1
  rw [Int8.toInt_toInt32, Int32.toInt_toInt8, Int.bmod_eq_of_le (by omega) (by omega)]
theorem fb_short {x : Int32} (h1 : -32768 ≤ x.toInt) (h2 : x.toInt < 32768) : x.toInt16.toInt32 = x := by
  apply Int32.toInt_inj.1
  rw [Int16.toInt_toInt32, Int32.toInt_toInt16, Int.bmod_eq_of_le (by omega) (by omega)]
theorem fb_byte_rng (x : Int32) : -128 ≤ x.toInt8.toInt32.toInt ∧ x.toInt8.toInt32.toInt < 128 := by
  rw [Int8.toInt_toInt32]
  have h1 := Int8.le_toInt x.toInt8
  have h2 := Int8.toInt_lt x.toInt8
  omega
theorem fb_short_rng (x : Int32) : -32768 ≤ x.toInt16.toInt32.toInt ∧ x.toInt16.toInt32.toInt < 32768 := by
  rw [Int16.toInt_toInt32]
  have h1 := Int16.le_toInt x.toInt16
  have h2 := Int16.toInt_lt x.toInt16
  omega
theorem fb_byte_twice (x : Int32) : x.toInt8.toInt32.toInt8.toInt32 = x.toInt8.toInt32 := fb_byte (fb_byte_rng x).1 (fb_byte_rng x).2
theorem fb_short_twice (x : Int32) : x.toInt16.toInt32.toInt16.toInt32 = x.toInt16.toInt32 := fb_short (fb_short_rng x).1 (fb_short_rng x).2
theorem fb_char {n : Nat} (h : n < 65536) : (nI n).toUInt32.toUInt16.toUInt32.toInt32 = nI n := by
  apply Int32.toBitVec_inj.1
  apply BitVec.eq_of_toNat_eq
  have e1 : (nI n).toBitVec.toNat = n := by
    show (BitVec.ofNat 32 n).toNat = n
    rw [BitVec.toNat_ofNat, Nat.mod_eq_of_lt (by omega)]
  have e2 : ((nI n).toUInt32.toUInt16.toUInt32).toNat = n := by
    rw [UInt16.toNat_toUInt32, UInt32.toNat_toUInt16]
    show (nI n).toBitVec.toNat % 2 ^ 16 = n
    rw [e1, Nat.mod_eq_of_lt (by omega)]
  rw [e1]
  exact e2
/-! plain facts on numbers and arrays, to paste: each family by itself; over the kit's rows on nI and upd -/
/-! ===== order of ints, in all its forms, and through longs ===== -/
theorem fa_lt (a b : Int32) : a < b ↔ a.toInt < b.toInt := Int32.lt_iff_toInt_lt
theorem fa_le (a b : Int32) : a ≤ b ↔ a.toInt ≤ b.toInt := Int32.le_iff_toInt_le
theorem fa_eq (a b : Int32) : a = b ↔ a.toInt = b.toInt := Int32.toInt_inj.symm
theorem fa_lt64 (a b : Int64) : a < b ↔ a.toInt < b.toInt := Int64.lt_iff_toInt_lt
theorem fa_le64 (a b : Int64) : a ≤ b ↔ a.toInt ≤ b.toInt := Int64.le_iff_toInt_le
theorem fa_eq64 (a b : Int64) : a = b ↔ a.toInt = b.toInt := Int64.toInt_inj.symm
/-- a comparison of two ints taken as longs -/
theorem fa_wide_lt (a b : Int32) : a.toInt64 < b.toInt64 ↔ a < b := by rw [fa_lt64, fa_lt, Int32.toInt_toInt64, Int32.toInt_toInt64]
theorem fa_wide_le (a b : Int32) : a.toInt64 ≤ b.toInt64 ↔ a ≤ b := by rw [fa_le64, fa_le, Int32.toInt_toInt64, Int32.toInt_toInt64]
theorem fa_wide_eq (a b : Int32) : a.toInt64 = b.toInt64 ↔ a = b := by rw [fa_eq64, fa_eq, Int32.toInt_toInt64, Int32.toInt_toInt64]
/-- one strict comparison gives all the others -/
theorem fa_of_lt {a b : Int32} (h : a < b) : a ≤ b ∧ ¬ b ≤ a ∧ ¬ b < a ∧ a ≠ b ∧ b ≠ a := by
  rw [fa_lt] at h
  refine ⟨?_, ?_, ?_, ?_, ?_⟩
  · rw [fa_le]; omega
  · rw [fa_le]; omega
  · rw [fa_lt]; omega
  · intro e; rw [fa_eq] at e; omega
  · intro e; rw [fa_eq] at e; omega
theorem fa_of_nlt {a b : Int32} (h : ¬ a < b) : b ≤ a := by
  rw [fa_lt] at h
  rw [fa_le]
  omega
theorem fa_of_nle {a b : Int32} (h : ¬ a ≤ b) : b < a := by
  rw [fa_le] at h
  rw [fa_lt]
  omega
theorem fa_le_ne {a b : Int32} (h : a ≤ b) (h2 : a ≠ b) : a < b := by
  rw [fa_le] at h
  rw [fa_lt]
  have h3 : a.toInt ≠ b.toInt := fun e => h2 ((fa_eq a b).mpr e)
  omega
theorem fa_three (a b : Int32) : a < b ∨ a = b ∨ b < a := by
  rw [fa_lt, fa_lt, fa_eq]
  omega
theorem fa_trans {a b c : Int32} (h : a < b) (h2 : b ≤ c) : a < c := by
  rw [fa_lt] at *
  rw [fa_le] at h2
  omega
/-! ===== small literals as numbers ===== -/
theorem fa_lit (n : Nat) : (OfNat.ofNat n : Int32) = nI n := rfl
theorem fa_litL (n : Nat) : (OfNat.ofNat n : Int64) = lN n := rfl
/-! ===== bits of a number: 'or', masks, one bit ===== -/
theorem fa_and (a b : Nat) : nI a &&& nI b = nI (a &&& b) := by
  apply Int32.toBitVec_inj.1
  show BitVec.ofNat 32 a &&& BitVec.ofNat 32 b = BitVec.ofNat 32 (a &&& b)
  apply BitVec.eq_of_getLsbD_eq
  intro i hi
  simp [hi]
theorem fa_or (a b : Nat) : nI a ||| nI b = nI (a ||| b) := by
  apply Int32.toBitVec_inj.1
  show BitVec.ofNat 32 a ||| BitVec.ofNat 32 b = BitVec.ofNat 32 (a ||| b)
  apply BitVec.eq_of_getLsbD_eq
  intro i hi
  simp [hi]
/-- a remainder by a power of two, as a mask -/
theorem fa_mask (n k : Nat) : nI n &&& nI (2 ^ k - 1) = nI (n % 2 ^ k) := by rw [fa_and, Nat.and_two_pow_sub_one_eq_mod]
/-- 'or' of a high part and a low one that don't meet is their sum -/
theorem fa_or_sum {a k : Nat} (b : Nat) (h : a < 2 ^ k) : nI (2 ^ k * b) ||| nI a = nI (2 ^ k * b + a) := by rw [fa_or, Nat.two_pow_add_eq_or_of_lt h]
/-- one bit, by 'and' with a power of two -/
theorem fa_bit {n j : Nat} (hj : j < 31) : nI n &&& nI (2 ^ j) = 0 ↔ n.testBit j = false := by
  have h2 : (2 : Nat) ^ j < 2 ^ 31 := Nat.pow_lt_pow_right (by decide) hj
  have hle : n &&& 2 ^ j ≤ 2 ^ j := Nat.and_le_right
  have e : n &&& 2 ^ j = 0 ↔ n.testBit j = false := by
    constructor
    · intro h
      have h1 : (n &&& 2 ^ j).testBit j = false := by rw [h]; simp
      rw [Nat.testBit_and] at h1
      first | simpa using h1 | simpa [Nat.testBit_two_pow_self] using h1 | simpa [Nat.testBit_two_pow] using h1
    · intro h
      apply Nat.eq_of_testBit_eq
      intro i
      rw [Nat.testBit_and]
      by_cases hi : j = i
      · subst hi; simp [h]
      · first | (simp [Nat.testBit_two_pow, hi]; done) | (simp [Nat.testBit_two_pow_of_ne hi]; done)
  rw [fa_and]
  constructor
  · intro h
    apply e.mp
    rcases Nat.eq_zero_or_pos (n &&& 2 ^ j) with z | z
    · exact z
    · exact absurd h (nI_ne0 z (Nat.lt_of_le_of_lt hle h2))
  · intro h
    rw [e.mpr h]; exact nI_0
/-- a remainder by a power of two of a number that isn't negative, as Java divides -/
theorem fa_rem {a k : Nat} (ha : a < 2 ^ 31) (hk : k < 31) : nI a - nI a / nI (2 ^ k) * nI (2 ^ k) = nI (a % 2 ^ k) := pk_rem ha (Nat.two_pow_pos k) (Nat.pow_lt_pow_right (by decide) hk)
/-! ===== cuts to a byte, a short ===== -/
theorem fa_byte_xor (x y : Int32) : (x ^^^ y).toInt8 = x.toInt8 ^^^ y.toInt8 := by
  apply Int8.toBitVec_inj.1
  apply BitVec.eq_of_getLsbD_eq
  intro i hi
  first | (simp [hi]; done) | (simp [hi, BitVec.getLsbD_setWidth, BitVec.getLsbD_signExtend]; done)
theorem fa_short_xor (x y : Int32) : (x ^^^ y).toInt16 = x.toInt16 ^^^ y.toInt16 := by
  apply Int16.toBitVec_inj.1
  apply BitVec.eq_of_getLsbD_eq
  intro i hi
  first | (simp [hi]; done) | (simp [hi, BitVec.getLsbD_setWidth, BitVec.getLsbD_signExtend]; done)
/-- the cut to a byte sees the low byte alone -/
theorem fa_byte_low (x : Int32) : (x &&& 255).toInt8 = x.toInt8 := by
  apply Int8.toBitVec_inj.1
  apply BitVec.eq_of_getLsbD_eq
  intro i hi
  have h2 : (255 : Int32).toBitVec.getLsbD i = true := by
    have : ∀ j : Fin 8, (255 : Int32).toBitVec.getLsbD j.val = true := by decide +kernel
    exact this ⟨i, hi⟩
  have h4 : (x &&& 255).toBitVec.getLsbD i = x.toBitVec.getLsbD i := by
    show (x.toBitVec &&& (255 : Int32).toBitVec).getLsbD i = _
    rw [BitVec.getLsbD_and, h2, Bool.and_true]
  have h3 : i < 32 := by omega
  first
    | (show (((x &&& 255).toBitVec).signExtend 8).getLsbD i = (x.toBitVec.signExtend 8).getLsbD i; rw [BitVec.getLsbD_signExtend, BitVec.getLsbD_signExtend, if_pos h3, if_pos h3, h4])
    | (show (((x &&& 255).toBitVec).setWidth 8).getLsbD i = (x.toBitVec.setWidth 8).getLsbD i; rw [BitVec.getLsbD_setWidth, BitVec.getLsbD_setWidth, h4])
    | (simp [hi, h3, h4]; done)
theorem fa_short_low (x : Int32) : (x &&& 65535).toInt16 = x.toInt16 := by
  apply Int16.toBitVec_inj.1
  apply BitVec.eq_of_getLsbD_eq
  intro i hi
  have h2 : (65535 : Int32).toBitVec.getLsbD i = true := by
    have : ∀ j : Fin 16, (65535 : Int32).toBitVec.getLsbD j.val = true := by decide +kernel
    exact this ⟨i, hi⟩
  have h4 : (x &&& 65535).toBitVec.getLsbD i = x.toBitVec.getLsbD i := by
    show (x.toBitVec &&& (65535 : Int32).toBitVec).getLsbD i = _
    rw [BitVec.getLsbD_and, h2, Bool.and_true]
  have h3 : i < 32 := by omega
  first
    | (show (((x &&& 65535).toBitVec).signExtend 16).getLsbD i = (x.toBitVec.signExtend 16).getLsbD i; rw [BitVec.getLsbD_signExtend, BitVec.getLsbD_signExtend, if_pos h3, if_pos h3, h4])
    | (show (((x &&& 65535).toBitVec).setWidth 16).getLsbD i = (x.toBitVec.setWidth 16).getLsbD i; rw [BitVec.getLsbD_setWidth, BitVec.getLsbD_setWidth, h4])
    | (simp [hi, h3, h4]; done)
/-- a small number is its own byte, its own short -/
theorem fa_byte_small {n : Nat} (h : n < 128) : (nI n).toInt8.toInt32 = nI n := by
  have : ∀ j : Fin 128, (nI j.val).toInt8.toInt32 = nI j.val := by decide +kernel
  exact this ⟨n, h⟩
/-! ===== absolute difference ===== -/
theorem fa_absdiff {a b : Nat} (ha : a < 2 ^ 31) (hb : b < 2 ^ 31) : (if nI a < nI b then nI b - nI a else nI a - nI b) = nI (if a < b then b - a else a - b) := by
  by_cases h : a < b
  · rw [if_pos (nI_lt h hb), if_pos h]
    exact pk_sub (Nat.le_of_lt h)
  · rw [if_neg (nI_nlt (Nat.le_of_not_lt h) ha), if_neg h]
    exact pk_sub (Nat.le_of_not_lt h)
/-! ===== an array behind i stores, a conditional store, a row copied ===== -/
/-- f where k < i, what stood there else -/
def fa_fill {α : Type} (f g : Nat → α) (i : Nat) : Nat → α := fun k => if k < i then f k else g k
theorem fa_fill_0 {α : Type} (f g : Nat → α) : fa_fill f g 0 = g := funext fun k => if_neg (Nat.not_lt_zero k)
theorem fa_fill_in {α : Type} {f g : Nat → α} {i k : Nat} (h : k < i) : fa_fill f g i k = f k := if_pos h
theorem fa_fill_out {α : Type} {f g : Nat → α} {i k : Nat} (h : i ≤ k) : fa_fill f g i k = g k := if_neg (Nat.not_lt.mpr h)
theorem fa_fill_succ (f g : Nat → Int32) (i : Nat) : upd (fa_fill f g i) i (f i) = fa_fill f g (i + 1) := by
  funext k
  by_cases e : k = i
  · subst e
    rw [pk_us]
    exact (if_pos (Nat.lt_succ_self k)).symm
  · rw [pk_un e]
    by_cases h : k < i
    · rw [fa_fill_in h, fa_fill_in (Nat.lt_succ_of_lt h)]
    · rw [fa_fill_out (Nat.le_of_not_lt h), fa_fill_out (by omega)]
/-- a store that changes nothing -/
theorem fa_upd_same {f : Nat → Int32} {i : Nat} {x : Int32} (h : f i = x) : upd f i x = f := by
  funext k
  by_cases e : k = i
  · subst e
    rw [pk_us, h]
  · rw [pk_un e]
/-- a store under a condition, told as one -/
theorem fa_upd_if (c : Prop) [Decidable c] (f : Nat → Int32) (i : Nat) (x : Int32) : (if c then upd f i x else f) = upd f i (if c then x else f i) := by
  by_cases h : c
  · rw [if_pos h, if_pos h]
  · rw [if_neg h, if_neg h, fa_upd_same rfl]
/-- two stores at one place, at two -/
theorem fa_upd_twice (f : Nat → Int32) (i : Nat) (x y : Int32) : upd (upd f i x) i y = upd f i y := by
  funext k
  by_cases e : k = i
  · subst e
    rw [pk_us, pk_us]
  · rw [pk_un e, pk_un e, pk_un e]
theorem fa_upd_swap (f : Nat → Int32) {i j : Nat} (h : i ≠ j) (x y : Int32) : upd (upd f i x) j y = upd (upd f j y) i x := by
  funext k
  by_cases e : k = i
  · subst e
    rw [pk_un h, pk_us, pk_us]
  · by_cases e2 : k = j
    · subst e2
      rw [pk_us, pk_un e, pk_us]
    · rw [pk_un e2, pk_un e, pk_un e, pk_un e2]
/-! ===== the first index with a property; a count ===== -/
/-- the first k < n with p k, n if there is none -/
def fa_first (p : Nat → Bool) : Nat → Nat
  | 0 => 0
  | n + 1 => if fa_first p n < n then fa_first p n else if p n then n else n + 1
theorem fa_first_le (p : Nat → Bool) : ∀ n, fa_first p n ≤ n
  | 0 => Nat.le_refl 0
  | n + 1 => by
    have ih := fa_first_le p n
    unfold fa_first
    split
    · omega
    · split
      · omega
      · omega
theorem fa_first_no (p : Nat → Bool) : ∀ n k, k < fa_first p n → p k = false
  | 0, k, h => absurd h (Nat.not_lt_zero k)
  | n + 1, k, h => by
    have ih := fa_first_no p n
    have hl := fa_first_le p n
    unfold fa_first at h
    split at h
    · exact ih k h
    · rename_i h1
      split at h
      · exact ih k (by omega)
      · rename_i h2
        by_cases e : k = n
        · subst e
          exact Bool.eq_false_iff.mpr h2
        · exact ih k (by omega)
theorem fa_first_yes (p : Nat → Bool) : ∀ n, fa_first p n < n → p (fa_first p n) = true
  | 0, h => absurd h (Nat.not_lt_zero _)
  | n + 1, h => by
    have ih := fa_first_yes p n
    have hl := fa_first_le p n
    unfold fa_first at h ⊢
    split at h
    · rename_i h1
      rw [if_pos h1]
      exact ih h1
    · rename_i h1
      rw [if_neg h1]
      split at h
      · rename_i h2
        rw [if_pos h2]
        exact h2
      · omega
/-- how many k < n have p k -/
def fa_cnt (p : Nat → Bool) : Nat → Nat
  | 0 => 0
  | n + 1 => fa_cnt p n + if p n then 1 else 0
theorem fa_cnt_le (p : Nat → Bool) : ∀ n, fa_cnt p n ≤ n
  | 0 => Nat.le_refl 0
  | n + 1 => by
    have ih := fa_cnt_le p n
    unfold fa_cnt
    split
    · omega
    · omega
theorem fa_cnt_yes {p : Nat → Bool} {n : Nat} (h : p n = true) : fa_cnt p (n + 1) = fa_cnt p n + 1 := by rw [fa_cnt, if_pos h]
theorem fa_cnt_no {p : Nat → Bool} {n : Nat} (h : p n = false) : fa_cnt p (n + 1) = fa_cnt p n := by rw [fa_cnt, if_neg (by rw [h]; decide)]; rfl
theorem fa_cnt_cong {p q : Nat → Bool} : ∀ {n : Nat}, (∀ k, k < n → p k = q k) → fa_cnt p n = fa_cnt q n
  | 0, _ => rfl
  | n + 1, h => by rw [fa_cnt, fa_cnt, fa_cnt_cong (fun k hk => h k (Nat.lt_succ_of_lt hk)), h n (Nat.lt_succ_self n)]
/-! ===== an answer carried into a post; a branch on a boolean answer ===== -/
theorem fa_post {α : Type} {P : α → Prop} {x y : α} (h : x = y) (hp : P y) : P x := h ▸ hp
theorem fa_post2 {α β : Type} {P : α → β → Prop} {x y : α} {u v : β} (h : x = y) (h2 : u = v) (hp : P y v) : P x u := h ▸ h2 ▸ hp
theorem fa_bool {r : Int32} {b : Bool} (h : r = if b then 1 else 0) : (r = 0 ↔ b = false) ∧ (¬ r = 0 ↔ b = true) := by
  subst h
  cases b
  · exact ⟨⟨fun _ => rfl, fun _ => rfl⟩, ⟨fun h => absurd rfl h, fun h => absurd h (by decide)⟩⟩
  · exact ⟨⟨fun h => absurd h (by decide), fun h => absurd h (by decide)⟩, ⟨fun _ => rfl, fun _ => by decide⟩⟩
/-- a boolean's narrowing changes nothing -/
theorem fa_bool_and {r : Int32} (h : r = 0 ∨ r = 1) : r &&& 1 = r := by
  rcases h with rfl | rfl
  · decide
  · decide
theorem fa_bool_prop {c : Prop} [Decidable c] {r : Int32} (h : r = if c then 1 else 0) : (r = 0 ↔ ¬ c) ∧ (¬ r = 0 ↔ c) := by
  subst h
  by_cases hc : c
  · rw [if_pos hc]
    exact ⟨⟨fun h => absurd h (by decide), fun h => absurd hc h⟩, ⟨fun _ => hc, fun _ => by decide⟩⟩
  · rw [if_neg hc]
    exact ⟨⟨fun _ => hc, fun _ => rfl⟩, ⟨fun h => absurd rfl h, fun h => absurd h hc⟩⟩
/-! rows on bits, shifts and unsigned numbers, to paste: each family out of a closed proof of our own, whole with what it rests on; each by itself clean at Lean in its own claim (generation 39, form 5). Take a family whole -/
/-! ===== Int32 by its bits: bt x i ===== -/
def bt (x : Int32) (i : Nat) : Bool := x.toBitVec.getLsbD i
theorem b_ext {x y : Int32} (h : ∀ i, i < 32 → bt x i = bt y i) : x = y := Int32.toBitVec_inj.mp (BitVec.eq_of_getLsbD_eq (fun i hi => h i hi))
theorem b_or (x y : Int32) (i : Nat) : bt (x ||| y) i = (bt x i || bt y i) := by unfold bt; rw [Int32.toBitVec_or, BitVec.getLsbD_or]
theorem b_and (x y : Int32) (i : Nat) : bt (x &&& y) i = (bt x i && bt y i) := by unfold bt; rw [Int32.toBitVec_and, BitVec.getLsbD_and]
theorem b_xor (x y : Int32) (i : Nat) : bt (x ^^^ y) i = (bt x i ^^ bt y i) := by unfold bt; rw [Int32.toBitVec_xor, BitVec.getLsbD_xor]
theorem b_big {x : Int32} {i : Nat} (h : 32 ≤ i) : bt x i = false := BitVec.getLsbD_of_ge _ _ h
theorem b_255 (i : Nat) : bt 255 i = decide (i < 8) := by
  rcases Nat.lt_or_ge i 32 with h | h
  · exact (by decide +kernel : ∀ i, i < 32 → bt 255 i = decide (i < 8)) i h
  · rw [b_big h, decide_eq_false (by omega)]
theorem b_65535 (i : Nat) : bt 65535 i = decide (i < 16) := by
  rcases Nat.lt_or_ge i 32 with h | h
  · exact (by decide +kernel : ∀ i, i < 32 → bt 65535 i = decide (i < 16)) i h
  · rw [b_big h, decide_eq_false (by omega)]
theorem b_m1 : ∀ i, i < 32 → bt (-1) i = true := by decide +kernel
theorem b_0 (i : Nat) : bt 0 i = false := BitVec.getLsbD_zero
theorem s_l : ∀ n, n < 32 → ((nI n &&& 31).toBitVec.smod 32).toNat = n := by decide +kernel
theorem s_u : ∀ n, n < 32 → (((nI n).toUInt32 &&& Int32.toUInt32 31).toBitVec % 32).toNat = n := by decide +kernel
theorem b_shl (n : Nat) (hn : n < 32) (x : Int32) {i : Nat} (hi : i < 32) : bt (x <<< (nI n &&& 31)) i = (decide (n ≤ i) && bt x (i - n)) := by
  unfold bt
  rw [Int32.toBitVec_shiftLeft]
  show (x.toBitVec <<< ((nI n &&& 31).toBitVec.smod 32).toNat).getLsbD i = _
  rw [s_l n hn, BitVec.getLsbD_shiftLeft]
  rcases Nat.lt_or_ge i n with h | h
  · simp [h, Nat.not_le.mpr h]
  · simp [hi, h, Nat.not_lt.mpr h]
theorem b_ushr (n : Nat) (hn : n < 32) (x : Int32) (i : Nat) : bt ((x.toUInt32 >>> ((nI n).toUInt32 &&& Int32.toUInt32 31)).toInt32) i = bt x (n + i) := by
  show (x.toUInt32 >>> ((nI n).toUInt32 &&& Int32.toUInt32 31)).toBitVec.getLsbD i = x.toUInt32.toBitVec.getLsbD (n + i)
  rw [UInt32.toBitVec_shiftRight]
  show (x.toUInt32.toBitVec >>> (((nI n).toUInt32 &&& Int32.toUInt32 31).toBitVec % 32).toNat).getLsbD i = _
  rw [s_u n hn, BitVec.getLsbD_ushiftRight]
theorem b_sshr (n : Nat) (hn : n < 32) (x : Int32) {i : Nat} (hi : i < 32) : bt (x >>> (nI n &&& 31)) i = if n + i < 32 then bt x (n + i) else bt x 31 := by
  unfold bt
  rw [Int32.toBitVec_shiftRight]
  show (x.toBitVec.sshiftRight ((nI n &&& 31).toBitVec.smod 32).toNat).getLsbD i = _
  rw [s_l n hn, BitVec.getLsbD_sshiftRight, BitVec.msb_eq_getLsbD_last]
  simp [hi]
theorem b_shl8 (x : Int32) {i : Nat} (hi : i < 32) : bt (x <<< ((8 : Int32) &&& 31)) i = (decide (8 ≤ i) && bt x (i - 8)) := b_shl 8 (by omega) x hi
theorem b_shl16 (x : Int32) {i : Nat} (hi : i < 32) : bt (x <<< ((16 : Int32) &&& 31)) i = (decide (16 ≤ i) && bt x (i - 16)) := b_shl 16 (by omega) x hi
theorem b_shl24 (x : Int32) {i : Nat} (hi : i < 32) : bt (x <<< ((24 : Int32) &&& 31)) i = (decide (24 ≤ i) && bt x (i - 24)) := b_shl 24 (by omega) x hi
theorem b_sshr8 (x : Int32) {i : Nat} (hi : i < 32) : bt (x >>> ((8 : Int32) &&& 31)) i = if 8 + i < 32 then bt x (8 + i) else bt x 31 := b_sshr 8 (by omega) x hi
/-! ===== nI under and, xor, >>>, one bit, 65535 ===== -/
theorem nx_and (a b : Nat) : nI a &&& nI b = nI (a &&& b) := by
  apply Int32.toBitVec_inj.1
  show BitVec.ofNat 32 a &&& BitVec.ofNat 32 b = BitVec.ofNat 32 (a &&& b)
  apply BitVec.eq_of_getLsbD_eq
  intro i hi
  simp [hi]
theorem nx_xor (a b : Nat) : nI a ^^^ nI b = nI (a ^^^ b) := by
  apply Int32.toBitVec_inj.1
  show BitVec.ofNat 32 a ^^^ BitVec.ofNat 32 b = BitVec.ofNat 32 (a ^^^ b)
  apply BitVec.eq_of_getLsbD_eq
  intro i hi
  simp [hi]
theorem nx_cnt : ∀ j : Fin 32, (UInt32.ofNat j.val &&& Int32.toUInt32 31).toNat % 32 = j.val := by decide +kernel
theorem nx_ush {k j : Nat} (hk : k < 65536) (hj : j < 32) : ((nI k).toUInt32 >>> ((nI j).toUInt32 &&& Int32.toUInt32 31)).toInt32 = nI (k >>> j) := by
  have hs : k >>> j ≤ k := by
    rw [Nat.shiftRight_eq_div_pow]
    exact Nat.div_le_self _ _
  have e2 : UInt32.ofNat k >>> (UInt32.ofNat j &&& Int32.toUInt32 31) = UInt32.ofNat (k >>> j) := by
    apply UInt32.toNat_inj.1
    have h1 : (UInt32.ofNat k).toNat = k := Nat.mod_eq_of_lt (by omega)
    have h2 : (UInt32.ofNat (k >>> j)).toNat = k >>> j := Nat.mod_eq_of_lt (by omega)
    rw [UInt32.toNat_shiftRight, nx_cnt ⟨j, hj⟩, h1, h2]
  show (UInt32.ofNat k >>> (UInt32.ofNat j &&& Int32.toUInt32 31)).toInt32 = _
  rw [e2]
  rfl
theorem nx_bit {k j : Nat} (hk : k < 65536) (hj : j < 16) : (((nI k).toUInt32 >>> ((nI j).toUInt32 &&& Int32.toUInt32 31)).toInt32 &&& 1) = 0 ↔ k.testBit j = false := by
  rw [nx_ush hk (by omega)]
  show nI (k >>> j) &&& nI 1 = 0 ↔ _
  rw [nx_and, Nat.and_one_is_mod, ← nI_0, nI_eq (by omega) (by omega), Nat.testBit_eq_decide_div_mod_eq, Nat.shiftRight_eq_div_pow, decide_eq_false_iff_not]
  generalize k / 2 ^ j = z
  omega
theorem nx_mod (k : Nat) : nI k &&& 65535 = nI (k % 65536) := by
  show nI k &&& nI 65535 = _
  rw [nx_and, show (65535 : Nat) = 2 ^ 16 - 1 from rfl, Nat.and_two_pow_sub_one_eq_mod]
theorem nx_m16 {k : Nat} (h : k < 65536) : nI k &&& 65535 = nI k := by rw [nx_mod, Nat.mod_eq_of_lt h]
theorem nx_mask (x : Int32) : ∃ k, k < 65536 ∧ x &&& 65535 = nI k := by
  have e : x = nI x.toBitVec.toNat := by
    apply Int32.toBitVec_inj.1
    show x.toBitVec = BitVec.ofNat 32 x.toBitVec.toNat
    simp
  refine ⟨x.toBitVec.toNat % 65536, Nat.mod_lt _ (by omega), ?_⟩
  rw [← nx_mod, ← e]
/-! ===== Int32 as a set of bits: test, set ===== -/
def nf_M (m : Int32) : Nat := 4294967296 - m.toBitVec.toNat
theorem nf_sh : ∀ l, l < 32 → ((1 : Int32) <<< (nI l &&& 31)).toBitVec = BitVec.twoPow 32 l := by decide +kernel
theorem nf_sl : ∀ l, l < 32 → (((nI l).toUInt32 &&& Int32.toUInt32 31).toBitVec % 32).toNat = l := by decide +kernel
theorem nf_tp : ∀ l, l < 32 → BitVec.twoPow 32 l ≠ 0#32 := by decide +kernel
theorem nf_bit (m : Int32) (l : Nat) (hl : l < 32) : ((m.toUInt32 >>> ((nI l).toUInt32 &&& Int32.toUInt32 31)).toInt32 &&& 1) = 0 ↔ (m &&& ((1 : Int32) <<< (nI l &&& 31))) = 0 := by
  have e : ((m.toUInt32 >>> ((nI l).toUInt32 &&& Int32.toUInt32 31)).toInt32).toBitVec = m.toBitVec >>> l := by
    show m.toBitVec >>> (((nI l).toUInt32 &&& Int32.toUInt32 31).toBitVec % 32) = m.toBitVec >>> l
    rw [BitVec.ushiftRight_eq', nf_sl l hl]
  rw [← Int32.toBitVec_inj, ← Int32.toBitVec_inj, Int32.toBitVec_and, Int32.toBitVec_and, nf_sh l hl, e, BitVec.and_twoPow]
  show (m.toBitVec >>> l &&& 1#32) = 0#32 ↔ _ = 0#32
  rw [BitVec.and_one_eq_setWidth_ofBool_getLsbD, BitVec.getLsbD_ushiftRight, Nat.add_zero]
  cases hb : m.toBitVec.getLsbD l
  · exact ⟨fun _ => by simp, fun _ => by decide⟩
  · exact ⟨fun z => absurd z (by decide), fun z => absurd ((if_pos rfl).symm.trans z) (nf_tp l hl)⟩
theorem nf_gr (m k : Int32) (h : m &&& k = 0) (hk : k ≠ 0) : nf_M (m ||| k) < nf_M m := by
  have hm := m.toBitVec.isLt
  have hm' := (m ||| k).toBitVec.isLt
  have h1 : m.toBitVec.toNat ≤ (m ||| k).toBitVec.toNat := by
    rw [Int32.toBitVec_or, BitVec.toNat_or]
    exact Nat.left_le_or
  have h2 : m.toBitVec.toNat ≠ (m ||| k).toBitVec.toNat := by
    intro e
    have e2 : m = m ||| k := Int32.toBitVec_inj.mp (BitVec.eq_of_toNat_eq e)
    apply hk
    apply Int32.toBitVec_inj.mp
    show k.toBitVec = 0#32
    apply BitVec.eq_of_getLsbD_eq
    intro i hi
    have a : m.toBitVec.getLsbD i = (m.toBitVec.getLsbD i || k.toBitVec.getLsbD i) := by rw [← BitVec.getLsbD_or, ← Int32.toBitVec_or, ← e2]
    have b : (m.toBitVec.getLsbD i && k.toBitVec.getLsbD i) = false := by
      rw [← BitVec.getLsbD_and, ← Int32.toBitVec_and, h]
      exact BitVec.getLsbD_zero
    rw [BitVec.getLsbD_zero]
    revert a b
    cases m.toBitVec.getLsbD i <;> cases k.toBitVec.getLsbD i <;> simp
  unfold nf_M
  omega
/-! ===== a byte read unsigned ===== -/
theorem bp_b (x : Int32) : x.toInt8.toInt32 &&& 255 = x &&& 255 := by
  apply Int32.toBitVec_inj.mp
  rw [Int32.toBitVec_and, Int32.toBitVec_and, Int8.toBitVec_toInt32, Int32.toBitVec_toInt8]
  apply BitVec.eq_of_getLsbD_eq
  intro i hi
  rw [BitVec.getLsbD_and, BitVec.getLsbD_and]
  have hm : ∀ i < 32, 8 ≤ i → (255 : Int32).toBitVec.getLsbD i = false := by decide
  rcases Nat.lt_or_ge i 8 with z | z
  · rw [BitVec.getLsbD_signExtend, BitVec.getLsbD_signExtend, if_pos z, if_pos hi]
    simp only [z, hi, decide_true, Bool.true_and]
  · rw [hm i hi z]; simp
/-! ===== Int64 as a set of bits: test, set, clear ===== -/
theorem ts_nf {x : Bool} (h : ¬ x = false) : x = true := by cases x <;> first | rfl | exact absurd rfl h
theorem ts_nt {x : Bool} (h : ¬ x = true) : x = false := by cases x <;> first | rfl | exact absurd rfl h
theorem ts_bit {w : Int64} {s : UInt64} {j : Nat} (hj : j < 64) (hs : s.toNat = j) : ((w.toUInt64 >>> s).toInt64 &&& 1) = 0 ↔ w.toBitVec.getLsbD j = false := by
  have e : (w.toUInt64 >>> s).toInt64.toBitVec = w.toBitVec >>> j := by
    apply BitVec.eq_of_toNat_eq
    show (w.toUInt64 >>> s).toNat = _
    rw [UInt64.toNat_shiftRight, hs, Nat.mod_eq_of_lt hj, BitVec.toNat_ushiftRight]
    rfl
  rw [← Int64.toBitVec_inj, Int64.toBitVec_and, e]
  show w.toBitVec >>> j &&& 1#64 = 0#64 ↔ _
  constructor
  · intro h
    have t := congrArg (fun x => x.getLsbD 0) h
    simpa using t
  · intro h
    apply BitVec.eq_of_getLsbD_eq
    intro i hi
    cases i with
    | zero => simp [h]
    | succ i => simp
theorem ts_or {w m : Int64} {j : Nat} (hj : j < 64) (hm : m.toBitVec = BitVec.twoPow 64 j) : (w ||| m) = w ↔ w.toBitVec.getLsbD j = true := by
  rw [← Int64.toBitVec_inj, Int64.toBitVec_or, hm]
  constructor
  · intro h
    have t := congrArg (fun x => x.getLsbD j) h
    simp only [BitVec.getLsbD_or, BitVec.getLsbD_twoPow] at t
    simpa [hj] using t.symm
  · intro h
    apply BitVec.eq_of_getLsbD_eq
    intro i hi
    rw [BitVec.getLsbD_or, BitVec.getLsbD_twoPow]
    by_cases e : j = i
    · subst e; rw [h, Bool.true_or]
    · simp [e]
theorem ts_and {w m : Int64} {j : Nat} (hj : j < 64) (hm : m.toBitVec = BitVec.twoPow 64 j) : (w &&& (m ^^^ (-1))) = w ↔ w.toBitVec.getLsbD j = false := by
  have ha : (-1 : Int64).toBitVec = BitVec.allOnes 64 := by decide
  rw [← Int64.toBitVec_inj, Int64.toBitVec_and, Int64.toBitVec_xor, hm, ha]
  constructor
  · intro h
    have t := congrArg (fun x => x.getLsbD j) h
    simp only [BitVec.getLsbD_and, BitVec.getLsbD_xor, BitVec.getLsbD_twoPow, BitVec.getLsbD_allOnes] at t
    simpa [hj] using t.symm
  · intro h
    apply BitVec.eq_of_getLsbD_eq
    intro i hi
    rw [BitVec.getLsbD_and, BitVec.getLsbD_xor, BitVec.getLsbD_twoPow, BitVec.getLsbD_allOnes]
    by_cases e : j = i
    · subst e; rw [h, Bool.false_and]
    · simp [e, hi]
/-! ===== lN n to 2^64: shifts, and, or, masks, one bit ===== -/
theorem wb_tb (n : Nat) : (lN n).toBitVec = BitVec.ofNat 64 n := rfl
theorem wb_inj {a b : Int64} (h : a.toBitVec = b.toBitVec) : a = b := Int64.toBitVec_inj.mp h
theorem wb_tn {n : Nat} (h : n < 2 ^ 64) : (lN n).toBitVec.toNat = n := by rw [wb_tb, BitVec.toNat_ofNat, Nat.mod_eq_of_lt h]
theorem wb_of (x : Int64) : ∃ n, n < 2 ^ 64 ∧ x = lN n := ⟨x.toBitVec.toNat, x.toBitVec.isLt, wb_inj (by rw [wb_tb]; simp)⟩
theorem wb_of32 (x : Int32) : ∃ n, n < 2 ^ 32 ∧ x = nI n := ⟨x.toBitVec.toNat, x.toBitVec.isLt, Int32.toBitVec_inj.mp (by show _ = BitVec.ofNat 32 _; simp)⟩
theorem wb_c : ∀ k, k < 64 → ((nI k).toInt64 &&& 63) = lN k := by decide +kernel
theorem wb_cu : ∀ k, k < 64 → ((nI k).toInt64.toUInt64 &&& Int64.toUInt64 63) = UInt64.ofNat k := by decide +kernel
theorem wb_sm : ∀ k, k < 64 → (BitVec.ofNat 64 k).smod 64 = BitVec.ofNat 64 k := by decide +kernel
theorem wb_pw {a b : Nat} (h : a ≤ b) : 2 ^ b = 2 ^ a * 2 ^ (b - a) := by rw [← Nat.pow_add]; congr 1; omega
theorem wb_lt2 {a b : Nat} (h : a < b) : 2 ^ a < 2 ^ b := Nat.pow_lt_pow_right (by decide) h
theorem wb_mod (n : Nat) : lN n = lN (n % 2 ^ 64) := wb_inj (by rw [wb_tb, wb_tb]; apply BitVec.eq_of_toNat_eq; rw [BitVec.toNat_ofNat, BitVec.toNat_ofNat, Nat.mod_mod])
theorem wb_shr {n k : Nat} (hn : n < 2 ^ 64) (hk : k < 64) : ((lN n).toUInt64 >>> ((nI k).toInt64.toUInt64 &&& Int64.toUInt64 63)).toInt64 = lN (n / 2 ^ k) := by
  rw [wb_cu k hk]
  apply wb_inj
  apply BitVec.eq_of_toNat_eq
  show ((lN n).toUInt64 >>> UInt64.ofNat k).toNat = (BitVec.ofNat 64 _).toNat
  have h1 : (UInt64.ofNat k).toNat = k := by
    show (BitVec.ofNat 64 k).toNat = k
    rw [BitVec.toNat_ofNat, Nat.mod_eq_of_lt (by omega)]
  have h2 : (lN n).toUInt64.toNat = n := wb_tn hn
  rw [UInt64.toNat_shiftRight, h1, h2, Nat.mod_eq_of_lt hk, Nat.shiftRight_eq_div_pow, BitVec.toNat_ofNat, Nat.mod_eq_of_lt (Nat.lt_of_le_of_lt (Nat.div_le_self _ _) hn)]
theorem wb_shl (n : Nat) {k : Nat} (hk : k < 64) : lN n <<< ((nI k).toInt64 &&& 63) = lN (n * 2 ^ k) := by
  rw [wb_c k hk]
  apply wb_inj
  rw [Int64.toBitVec_shiftLeft, wb_tb, wb_tb, wb_tb, wb_sm k hk]
  apply BitVec.eq_of_toNat_eq
  rw [BitVec.shiftLeft_eq', BitVec.toNat_shiftLeft, BitVec.toNat_ofNat, BitVec.toNat_ofNat, BitVec.toNat_ofNat, Nat.mod_eq_of_lt (show k < 2 ^ 64 by omega), Nat.shiftLeft_eq, Nat.mul_mod, Nat.mod_mod, ← Nat.mul_mod]
theorem wb_and {a b : Nat} (ha : a < 2 ^ 64) (hb : b < 2 ^ 64) : lN a &&& lN b = lN (a &&& b) := by
  apply wb_inj
  rw [Int64.toBitVec_and, wb_tb, wb_tb, wb_tb]
  apply BitVec.eq_of_toNat_eq
  rw [BitVec.toNat_and, BitVec.toNat_ofNat, BitVec.toNat_ofNat, BitVec.toNat_ofNat, Nat.mod_eq_of_lt ha, Nat.mod_eq_of_lt hb, Nat.mod_eq_of_lt (Nat.and_lt_two_pow _ hb)]
theorem wb_or {a b : Nat} (ha : a < 2 ^ 64) (hb : b < 2 ^ 64) : lN a ||| lN b = lN (a ||| b) := by
  apply wb_inj
  rw [Int64.toBitVec_or, wb_tb, wb_tb, wb_tb]
  apply BitVec.eq_of_toNat_eq
  rw [BitVec.toNat_or, BitVec.toNat_ofNat, BitVec.toNat_ofNat, BitVec.toNat_ofNat, Nat.mod_eq_of_lt ha, Nat.mod_eq_of_lt hb, Nat.mod_eq_of_lt (Nat.or_lt_two_pow ha hb)]
theorem wb_mask {n k : Nat} (hn : n < 2 ^ 64) (hk : k < 64) : lN n &&& lN (2 ^ k - 1) = lN (n % 2 ^ k) := by
  rw [wb_and hn (by have := wb_lt2 hk; omega), Nat.and_two_pow_sub_one_eq_mod]
theorem wb_a1 {n : Nat} (hn : n < 2 ^ 64) : lN n &&& 1 = lN (n % 2) := wb_mask (k := 1) hn (by decide)
theorem wb_bit {n k : Nat} (hn : n < 2 ^ 64) (hk : k < 64) : ((lN n).toUInt64 >>> ((nI k).toInt64.toUInt64 &&& Int64.toUInt64 63)).toInt64 &&& 1 = lN (n / 2 ^ k % 2) := by
  rw [wb_shr hn hk, wb_a1 (Nat.lt_of_le_of_lt (Nat.div_le_self _ _) hn)]
theorem wb_xor {q k : Nat} (hk : k < 63) (h : 2 ^ k ≤ q) (h2 : q < 2 ^ (k + 1)) : lN q ^^^ lN (2 ^ k) = lN (q - 2 ^ k) := by
  obtain ⟨r, rfl⟩ : ∃ r, q = 2 ^ k + r := ⟨q - 2 ^ k, by omega⟩
  have hr : r < 2 ^ k := by rw [Nat.pow_succ] at h2; omega
  have hx : (2 ^ k + r) ^^^ 2 ^ k = r := by
    apply Nat.eq_of_testBit_eq
    intro i
    rw [Nat.testBit_xor, Nat.testBit_two_pow]
    rcases Nat.lt_trichotomy i k with h | h | h
    · rw [Nat.testBit_two_pow_add_gt h]
      simp [show ¬ k = i by omega]
    · subst h
      rw [Nat.testBit_two_pow_add_eq]
      simp
    · have a1 : 2 ^ (k + 1) ≤ 2 ^ i := Nat.pow_le_pow_right (by decide) h
      rw [Nat.testBit_lt_two_pow (show 2 ^ k + r < 2 ^ i by omega), Nat.testBit_lt_two_pow (show r < 2 ^ i by omega)]
      simp [show ¬ k = i by omega]
  have b1 := wb_lt2 (show k + 1 < 64 by omega)
  have b2 := wb_lt2 (show k < 64 by omega)
  apply wb_inj
  rw [Int64.toBitVec_xor, wb_tb, wb_tb, wb_tb]
  apply BitVec.eq_of_toNat_eq
  rw [BitVec.toNat_xor, BitVec.toNat_ofNat, BitVec.toNat_ofNat, BitVec.toNat_ofNat, Nat.mod_eq_of_lt (by omega : 2 ^ k + r < 2 ^ 64), Nat.mod_eq_of_lt b2, hx, Nat.add_sub_cancel_left, Nat.mod_eq_of_lt (by omega)]
/-! ===== lN: masks, 'or' of parts that don't overlap is a sum ===== -/
theorem u_tn {n : Nat} (h : n < 2 ^ 64) : (UInt64.ofNat n).toNat = n := Nat.mod_eq_of_lt h
theorem g_and {a b c : Nat} (ha : a < 2 ^ 64) (hb : b < 2 ^ 64) (hc : a &&& b = c) : lN a &&& lN b = lN c := by
  subst hc
  have h : UInt64.ofNat a &&& UInt64.ofNat b = UInt64.ofNat (a &&& b) := UInt64.toNat_inj.mp (by rw [UInt64.toNat_and, u_tn ha, u_tn hb, u_tn (Nat.and_lt_two_pow a hb)])
  have h2 := congrArg UInt64.toInt64 h
  exact h2
theorem g_and1 {a : Nat} (ha : a < 2 ^ 64) : lN a &&& 1 = lN (a % 2) := g_and (b := 1) ha (by decide) (Nat.and_two_pow_sub_one_eq_mod a 1)
theorem g_mask {a s p : Nat} (hp : 2 ^ s = p) (hs : s < 64) (ha : a < 2 ^ 64) : lN a &&& lN (p - 1) = lN (a % p) := by
  subst hp
  have := Nat.pow_lt_pow_right (show 1 < 2 by decide) hs
  exact g_and ha (by omega) (Nat.and_two_pow_sub_one_eq_mod a s)
theorem g_or {k p a b : Nat} (hp : 2 ^ k = p) (ha : a < p) (h : b * p + a < 2 ^ 64) : lN (b * p) ||| lN a = lN (b * p + a) := by
  subst hp
  have h1 : b * 2 ^ k ||| a = b * 2 ^ k + a := by rw [← Nat.shiftLeft_eq, Nat.shiftLeft_add_eq_or_of_lt ha]
  have h3 : UInt64.ofNat (b * 2 ^ k) ||| UInt64.ofNat a = UInt64.ofNat (b * 2 ^ k + a) := UInt64.toNat_inj.mp (by rw [UInt64.toNat_or, u_tn (by omega), u_tn (by omega), u_tn h, h1])
  have h2 := congrArg UInt64.toInt64 h3
  exact h2
theorem g_or' {k p a b : Nat} (hp : 2 ^ k = p) (ha : a < p) (h : a + b * p < 2 ^ 64) : lN a ||| lN (b * p) = lN (a + b * p) := by
  rw [Int64.or_comm, g_or hp ha (by omega), Nat.add_comm]
theorem g_ushr {a k p : Nat} {y : UInt64} (hy : y = UInt64.ofNat k) (hk : k < 64) (hp : 2 ^ k = p) (ha : a < 2 ^ 64) : ((lN a).toUInt64 >>> y).toInt64 = lN (a / p) := by
  subst hy hp
  have h : UInt64.ofNat a >>> UInt64.ofNat k = UInt64.ofNat (a / 2 ^ k) := UInt64.toNat_inj.mp (by rw [UInt64.toNat_shiftRight, u_tn ha, u_tn (by omega), u_tn (Nat.lt_of_le_of_lt (Nat.div_le_self _ _) ha), Nat.mod_eq_of_lt hk, Nat.shiftRight_eq_div_pow])
  have h2 := congrArg UInt64.toInt64 h
  exact h2
theorem g_shl {a k p : Nat} {y : Int64} (hy : y.toBitVec.smod 64 = BitVec.ofNat 64 k) (hk : k < 64) (hp : 2 ^ k = p) (ha : a < 2 ^ 64) : lN a <<< y = lN (a * p) := by
  subst hp
  apply Int64.toBitVec_inj.mp
  rw [Int64.toBitVec_shiftLeft, hy]
  apply BitVec.eq_of_toNat_eq
  have hb : (lN a).toBitVec.toNat = a := Nat.mod_eq_of_lt ha
  have hk' : (BitVec.ofNat 64 k).toNat = k := Nat.mod_eq_of_lt (by omega)
  have h : ((lN a).toBitVec <<< BitVec.ofNat 64 k).toNat = (a * 2 ^ k) % 2 ^ 64 := by simp only [BitVec.shiftLeft_eq', BitVec.toNat_shiftLeft, hb, hk', Nat.shiftLeft_eq]
  exact h
/-! ===== lN to 2^62 under >> and >>> ===== -/
theorem pf_lI {a : Nat} (h : a < 2 ^ 63) : (lN a).toInt = (a : Int) := lg_ofNat_toInt h
theorem pf_shr {a d : Nat} {D : Int64} (hD : (D.toBitVec.smod 64).toNat = d) (h : a < 2 ^ 62) : lN a >>> D = lN (a / 2 ^ d) := by
  have hd : a / 2 ^ d ≤ a := Nat.div_le_self _ _
  apply Int64.toInt_inj.mp
  have e : (lN a >>> D).toInt = (lN a).toInt >>> d := by
    rw [← hD]
    exact BitVec.toInt_sshiftRight ..
  rw [e, Int.shiftRight_eq_div_pow, pf_lI (by omega), pf_lI (by omega)]
  rfl
theorem pf_ushr {a d : Nat} {D : UInt64} (hD : D.toNat % 64 = d) (h : a < 2 ^ 62) : ((lN a).toUInt64 >>> D).toInt64 = lN (a / 2 ^ d) := by
  have hd : a / 2 ^ d ≤ a := Nat.div_le_self _ _
  have e : (lN a).toUInt64 >>> D = UInt64.ofNat (a / 2 ^ d) := UInt64.toNat_inj.mp (by
    rw [UInt64.toNat_shiftRight, hD, Nat.shiftRight_eq_div_pow, UInt64.toNat_ofNat']
    show (UInt64.ofNat a).toNat / 2 ^ d = _
    rw [UInt64.toNat_ofNat', Nat.mod_eq_of_lt (by omega), Nat.mod_eq_of_lt (by omega)])
  rw [e]
  rfl
theorem pf_andw (x : Int64) : ∃ m, m < 2 ^ 32 ∧ x &&& 4294967295 = lN m := ⟨x.toBitVec.toNat % 2 ^ 32, Nat.mod_lt _ (by decide), Int64.toBitVec_inj.mp (BitVec.eq_of_toNat_eq (by
  show (x.toBitVec &&& 4294967295#64).toNat = (BitVec.ofNat 64 (x.toBitVec.toNat % 2 ^ 32)).toNat
  rw [BitVec.toNat_and, show (4294967295#64).toNat = 2 ^ 32 - 1 from by decide, Nat.and_two_pow_sub_one_eq_mod, BitVec.toNat_ofNat]
  omega))⟩
/-! ===== Int64 as an unsigned number: uN x ===== -/
def uN (x : Int64) : Nat := x.toUInt64.toNat
theorem uN_lt (x : Int64) : uN x < 18446744073709551616 := x.toUInt64.toNat_lt
theorem uN_inj {x y : Int64} (h : uN x = uN y) : x = y := congrArg UInt64.toInt64 (UInt64.toNat_inj.mp h)
theorem uN_add (x y : Int64) : uN (x + y) = (uN x + uN y) % 18446744073709551616 := by
  show (x.toUInt64 + y.toUInt64).toNat = _
  exact UInt64.toNat_add _ _
theorem uN_mul (x y : Int64) : uN (x * y) = (uN x * uN y) % 18446744073709551616 := by
  show (x.toUInt64 * y.toUInt64).toNat = _
  exact UInt64.toNat_mul _ _
theorem uN_shl (x : Int64) : uN (x <<< ((1 : Int32).toInt64 &&& 63)) = (2 * uN x) % 18446744073709551616 := by
  have h : (((1 : Int32).toInt64 &&& 63).toBitVec.smod 64).toNat = 1 := by decide
  show (x.toBitVec <<< (((1 : Int32).toInt64 &&& 63).toBitVec.smod 64).toNat).toNat = _
  rw [h, BitVec.toNat_shiftLeft, Nat.shiftLeft_eq, Nat.mul_comm]
  rfl
theorem uN_shr (x : Int64) (s : UInt64) : uN (x.toUInt64 >>> s).toInt64 = uN x / 2 ^ (s.toNat % 64) := by
  show (x.toUInt64 >>> s).toNat = _
  rw [UInt64.toNat_shiftRight, Nat.shiftRight_eq_div_pow]
  rfl
theorem uN_s32 (x : Int64) : uN (x.toUInt64 >>> ((32 : Int32).toInt64.toUInt64 &&& Int64.toUInt64 63)).toInt64 = uN x / 4294967296 := by
  have h : ((32 : Int32).toInt64.toUInt64 &&& Int64.toUInt64 63).toNat % 64 = 32 := by decide
  rw [uN_shr, h]
theorem uN_s63 (x : Int64) : uN (x.toUInt64 >>> ((63 : Int32).toInt64.toUInt64 &&& Int64.toUInt64 63)).toInt64 = uN x / 9223372036854775808 := by
  have h : ((63 : Int32).toInt64.toUInt64 &&& Int64.toUInt64 63).toNat % 64 = 63 := by decide
  rw [uN_shr, h]
theorem uN_lo (x : Int64) : uN (x &&& 4294967295) = uN x % 4294967296 := by
  show (x.toUInt64 &&& Int64.toUInt64 4294967295).toNat = _
  rw [UInt64.toNat_and]
  exact Nat.and_two_pow_sub_one_eq_mod _ 32
theorem uN_bit (x : Int64) : (x &&& 1) = 0 ↔ uN x % 2 = 0 := by
  have h : uN (x &&& 1) = uN x % 2 := by
    show (x.toUInt64 &&& Int64.toUInt64 1).toNat = _
    rw [UInt64.toNat_and]
    exact Nat.and_two_pow_sub_one_eq_mod _ 1
  rw [← h]
  exact ⟨fun z => by rw [z]; rfl, fun z => uN_inj (z.trans rfl)⟩
theorem uN_or {x y : Int64} (hy : uN y < 2) : uN ((x <<< ((1 : Int32).toInt64 &&& 63)) ||| y) = (2 * uN x) % 18446744073709551616 + uN y := by
  have h1 : uN ((x <<< ((1 : Int32).toInt64 &&& 63)) ||| y) = uN (x <<< ((1 : Int32).toInt64 &&& 63)) ||| uN y := UInt64.toNat_or _ _
  have h2 : (2 * uN x) % 18446744073709551616 = 2 ^ 1 * (uN x % 9223372036854775808) := by omega
  rw [h1, uN_shl, h2]
  exact (Nat.two_pow_add_eq_or_of_lt (i := 1) hy _).symm
theorem nat_xor {a : Nat} (h : a < 18446744073709551616) : a ^^^ 2 ^ 63 = (a + 9223372036854775808) % 18446744073709551616 := by
  have h1 : (a ^^^ 2 ^ 63) % 2 ^ 63 = a % 2 ^ 63 := by rw [Nat.xor_mod_two_pow, Nat.mod_self, Nat.xor_zero]
  have h2 : (a ^^^ 2 ^ 63) / 2 ^ 63 = (a / 2 ^ 63) ^^^ 1 := by rw [Nat.xor_div_two_pow, Nat.div_self (Nat.two_pow_pos 63)]
  have h3 : a / 2 ^ 63 = 0 ∨ a / 2 ^ 63 = 1 := by omega
  generalize a ^^^ 2 ^ 63 = t at h1 h2
  rcases h3 with h3 | h3
  · rw [h3] at h2
    have h2 : t / 2 ^ 63 = 1 := h2
    omega
  · rw [h3] at h2
    have h2 : t / 2 ^ 63 = 0 := h2
    omega
theorem uN_xor (x : Int64) : uN (x ^^^ (-9223372036854775808)) = (uN x + 9223372036854775808) % 18446744073709551616 := by
  rw [← nat_xor (uN_lt x)]
  exact UInt64.toNat_xor _ _
theorem uN_int (x : Int64) : x.toInt = if 2 * uN x < 18446744073709551616 then (uN x : Int) else (uN x : Int) - 18446744073709551616 := BitVec.toInt_eq_toNat_cond _
theorem uN_le (x y : Int64) : (x ^^^ (-9223372036854775808)) ≤ (y ^^^ (-9223372036854775808)) ↔ uN x ≤ uN y := by
  have hx := uN_lt x
  have hy := uN_lt y
  rw [Int64.le_iff_toInt_le, uN_int, uN_int, uN_xor, uN_xor]
  omega
theorem uN_sk (x : Int64) {k : Nat} (hk : k < 64) : uN (x.toUInt64 >>> ((nI k).toInt64.toUInt64 &&& Int64.toUInt64 63)).toInt64 = uN x / 2 ^ k := by
  have h : ((nI k).toInt64.toUInt64 &&& Int64.toUInt64 63).toNat % 64 = k := by
    rw [nI_l (by omega), UInt64.toNat_and]
    have e : (lN k).toUInt64.toNat = k % 2 ^ 64 := rfl
    have e2 : (Int64.toUInt64 63).toNat = 2 ^ 6 - 1 := by decide
    rw [e, e2, Nat.and_two_pow_sub_one_eq_mod]
    omega
  rw [uN_shr, h]
/-! ===== unsigned comparison by xor with the least ===== -/
theorem lN_bv (n : Nat) : (lN n).toBitVec = BitVec.ofNat 64 n := rfl
theorem lN_nat {n : Nat} (h : n < 2 ^ 64) : (lN n).toBitVec.toNat = n := by rw [lN_bv, BitVec.toNat_ofNat]; exact Nat.mod_eq_of_lt h
theorem lN_xor (a b : Nat) : lN a ^^^ lN b = lN (a ^^^ b) := by
  apply Int64.toBitVec_inj.mp; rw [Int64.toBitVec_xor, lN_bv, lN_bv, lN_bv]; apply BitVec.eq_of_getLsbD_eq; intro i hi; simp [BitVec.getLsbD_ofNat, Nat.testBit_xor, hi]
theorem lN_ti {m : Nat} (h : m < 2 ^ 64) : (lN m).toInt = if m < 2 ^ 63 then (m : Int) else (m : Int) - 2 ^ 64 := by
  have c := BitVec.toInt_eq_toNat_cond (lN m).toBitVec
  rw [lN_nat h] at c
  show (lN m).toBitVec.toInt = _
  rw [c]
  split <;> split <;> omega
theorem xor63 {x : Nat} (h : x < 2 ^ 63) : x ^^^ 2 ^ 63 = 2 ^ 63 + x := by
  apply Nat.eq_of_testBit_eq
  intro i
  rw [Nat.testBit_xor, Nat.testBit_two_pow]
  rcases Nat.lt_trichotomy i 63 with z | z | z
  · rw [Nat.testBit_two_pow_add_gt z, decide_eq_false (by omega)]; simp
  · subst z; rw [Nat.testBit_two_pow_add_eq]; simp
  · have hp : 2 ^ 64 ≤ 2 ^ i := Nat.pow_le_pow_right (by decide) z
    rw [Nat.testBit_lt_two_pow (show x < 2 ^ i by omega), Nat.testBit_lt_two_pow (show 2 ^ 63 + x < 2 ^ i by omega), decide_eq_false (by omega)]; rfl
theorem xorS {a : Nat} (h : a < 2 ^ 64) : (lN a ^^^ (-9223372036854775808)).toInt = (a : Int) - 2 ^ 63 := by
  rw [show (-9223372036854775808 : Int64) = lN (2 ^ 63) from by decide +kernel, lN_xor]
  rcases Nat.lt_or_ge a (2 ^ 63) with z | z
  · rw [xor63 z, lN_ti (by omega), if_neg (by omega)]; omega
  · obtain ⟨x, rfl⟩ : ∃ x, a = 2 ^ 63 + x := ⟨a - 2 ^ 63, by omega⟩
    rw [← xor63 (by omega), Nat.xor_assoc, Nat.xor_self, Nat.xor_zero, lN_ti (by omega), if_pos (by omega), xor63 (by omega)]; omega
theorem ultL {a b : Nat} (ha : a < 2 ^ 64) (hb : b < 2 ^ 64) : ((lN b ^^^ (-9223372036854775808)) ≤ (lN a ^^^ (-9223372036854775808))) ↔ b ≤ a := by
  rw [Int64.le_iff_toInt_le, xorS ha, xorS hb]; omega
/-! ===== Int64 masks of n low bits ===== -/
theorem cr_bits (W U M : BitVec 64) : ((W &&& U) &&& (U &&& (M ^^^ BitVec.allOnes 64))) = 0#64 ↔ (W &&& U) &&& M = W &&& U := by
  constructor
  · intro h
    apply BitVec.eq_of_getLsbD_eq
    intro i hi
    have e := congrArg (fun x => BitVec.getLsbD x i) h
    simp only [BitVec.getLsbD_and, BitVec.getLsbD_xor, BitVec.getLsbD_allOnes, BitVec.getLsbD_zero, hi, decide_true] at e ⊢
    revert e
    cases W.getLsbD i <;> cases U.getLsbD i <;> cases M.getLsbD i <;> decide
  · intro h
    apply BitVec.eq_of_getLsbD_eq
    intro i hi
    have e := congrArg (fun x => BitVec.getLsbD x i) h
    simp only [BitVec.getLsbD_and, BitVec.getLsbD_xor, BitVec.getLsbD_allOnes, BitVec.getLsbD_zero, hi, decide_true] at e ⊢
    revert e
    cases W.getLsbD i <;> cases U.getLsbD i <;> cases M.getLsbD i <;> decide
theorem cr_mask (w U m : Int64) (n : Nat) (hm : m.toBitVec.toNat = 2 ^ n - 1) : ((w &&& U) &&& (U &&& (m ^^^ (-1)))) = 0 ↔ (w &&& U).toBitVec.toNat < 2 ^ n := by
  have e0 : (-1 : Int64).toBitVec = BitVec.allOnes 64 := by decide
  have z0 : (0 : Int64).toBitVec = 0#64 := by decide
  rw [← Int64.toBitVec_inj, z0, Int64.toBitVec_and, Int64.toBitVec_and, Int64.toBitVec_and, Int64.toBitVec_xor, e0, cr_bits]
  generalize w.toBitVec &&& U.toBitVec = T
  rw [← BitVec.toNat_inj, BitVec.toNat_and, hm, Nat.and_two_pow_sub_one_eq_mod]
  constructor
  · intro h
    have t := Nat.mod_lt T.toNat (Nat.two_pow_pos n)
    rw [h] at t
    exact t
  · exact Nat.mod_eq_of_lt
theorem cr_shr (t : Int64) (x : UInt64) (n : Nat) (hx : x.toNat % 64 = n) : (t.toUInt64 >>> x).toInt64 = 0 ↔ t.toBitVec.toNat < 2 ^ n := by
  rw [← Int64.toBitVec_inj, ← BitVec.toNat_inj]
  show (t.toUInt64 >>> x).toNat = 0 ↔ t.toUInt64.toNat < 2 ^ n
  rw [UInt64.toNat_shiftRight, hx, Nat.shiftRight_eq_div_pow]
  constructor
  · intro h
    have d : t.toUInt64.toNat / 2 ^ n < 1 := by
      rw [h]
      decide
    have e := (Nat.div_lt_iff_lt_mul (Nat.two_pow_pos n)).mp d
    rw [Nat.one_mul] at e
    exact e
  · exact Nat.div_eq_of_lt
theorem cr_amt (s : Int64) : ∃ n, n < 64 ∧ s &&& 63 = lN n ∧ (s.toUInt64 &&& Int64.toUInt64 63).toNat % 64 = n := by
  have e : (s.toUInt64 &&& Int64.toUInt64 63).toNat = s.toUInt64.toNat % 2 ^ 6 := by
    rw [UInt64.toNat_and, show (Int64.toUInt64 63).toNat = 2 ^ 6 - 1 from by decide, Nat.and_two_pow_sub_one_eq_mod]
  refine ⟨s.toUInt64.toNat % 2 ^ 6, by omega, ?_, by omega⟩
  rw [← Int64.toBitVec_inj, ← BitVec.toNat_inj]
  show (s.toUInt64 &&& Int64.toUInt64 63).toNat = (BitVec.ofNat 64 (s.toUInt64.toNat % 2 ^ 6)).toNat
  rw [e, BitVec.toNat_ofNat]
  omega
end
section
/-! the words of private members of nest mates, as one list; what the machine is for this claim; rows that speak of one cell -/
def nwL : List Cond := [.methodLinkNest "PieceSets" 9 ⟨"PieceSets$State", "<init>", "()V"⟩ "PieceSets", .methodLinkNest "PieceSets$State" 17 ⟨"PieceSets$Numbers", "<init>", "()V"⟩ "PieceSets", .fieldLinkNest "PieceSets" 169 "PieceSets$Numbers" "words" "[J" "PieceSets", .fieldLinkNest "PieceSets" 50 "PieceSets$State" "sets" "[LPieceSets$Numbers;" "PieceSets", .fieldLinkNest "PieceSets" 142 "PieceSets$State" "meetings" "[I" "PieceSets", .fieldLinkNest "PieceSets" 146 "PieceSets$State" "conversions" "[I" "PieceSets", .methodLinkNest "PieceSets" 26 ⟨"PieceSets$Buffer", "<init>", "()V"⟩ "PieceSets", .fieldLinkNest "PieceSets" 118 "PieceSets$Buffer" "length" "I" "PieceSets", .methodLinkNest "PieceSets" 33 ⟨"PieceSets$Numbers", "<init>", "()V"⟩ "PieceSets", .methodLinkNest "PieceSets" 163 ⟨"PieceSets$State", "become", "(LPieceSets$State;)V"⟩ "PieceSets", .methodLinkNest "PieceSets$State" 25 ⟨"PieceSets$Numbers", "become", "(LPieceSets$Numbers;)V"⟩ "PieceSets", .methodLinkNest "PieceSets" 54 ⟨"PieceSets$Numbers", "includeAll", "(II)V"⟩ "PieceSets", .methodLinkNest "PieceSets" 58 ⟨"PieceSets$State", "countConversions", "(LPieceSets$Numbers;LPieceSets$Numbers;)V"⟩ "PieceSets", .methodLinkNest "PieceSets$State" 35 ⟨"PieceSets$Numbers", "kindOf", "(I)I"⟩ "PieceSets", .methodLinkNest "PieceSets$State" 39 ⟨"PieceSets", "isKind", "(I)Z"⟩ "PieceSets", .methodLinkNest "PieceSets" 62 ⟨"PieceSets$Numbers", "count", "()I"⟩ "PieceSets", .methodLinkNest "PieceSets" 66 ⟨"PieceSets$Numbers", "excludeAll", "(II)V"⟩ "PieceSets", .methodLinkNest "PieceSets" 69 ⟨"PieceSets$Numbers", "turnAll", "(II)V"⟩ "PieceSets", .methodLinkNest "PieceSets" 72 ⟨"PieceSets$Numbers", "countIn", "(II)I"⟩ "PieceSets", .methodLinkNest "PieceSets" 77 ⟨"PieceSets$Numbers", "include", "(I)V"⟩ "PieceSets", .methodLinkNest "PieceSets$Numbers" 37 ⟨"PieceSets", "isNumber", "(I)Z"⟩ "PieceSets", .methodLinkNest "PieceSets" 81 ⟨"PieceSets$Numbers", "becomeJoin", "(ILPieceSets$Numbers;LPieceSets$Numbers;)V"⟩ "PieceSets", .methodLinkNest "PieceSets" 85 ⟨"PieceSets$State", "countMeetings", "(LPieceSets$Numbers;LPieceSets$Numbers;)V"⟩ "PieceSets", .methodLinkNest "PieceSets" 88 ⟨"PieceSets$Numbers", "becomeMoved", "(LPieceSets$Numbers;I)V"⟩ "PieceSets", .methodLinkNest "PieceSets" 92 ⟨"PieceSets$Numbers", "holds", "(I)Z"⟩ "PieceSets", .methodLinkNest "PieceSets" 95 ⟨"PieceSets$Numbers", "nth", "(I)I"⟩ "PieceSets", .methodLinkNest "PieceSets" 99 ⟨"PieceSets$Numbers", "countRuns", "(II)I"⟩ "PieceSets", .methodLinkNest "PieceSets" 106 ⟨"PieceSets$Numbers", "detail", "(II)I"⟩ "PieceSets", .methodLinkNest "PieceSets" 109 ⟨"PieceSets$Numbers", "costOf", "(I)I"⟩ "PieceSets", .methodLinkNest "PieceSets" 112 ⟨"PieceSets$Numbers", "writtenByte", "(II)I"⟩ "PieceSets", .methodLinkNest "PieceSets" 115 ⟨"PieceSets$Buffer", "append", "(I)Z"⟩ "PieceSets", .methodLinkNest "PieceSets" 121 ⟨"PieceSets$Buffer", "parse", "(LPieceSets$Numbers;)I"⟩ "PieceSets", .methodLinkNest "PieceSets$Buffer" 19 ⟨"PieceSets$Numbers", "becomeEmpty", "()V"⟩ "PieceSets", .methodLinkNest "PieceSets$Buffer" 24 ⟨"PieceSets", "isKind", "(I)Z"⟩ "PieceSets", .methodLinkNest "PieceSets$Buffer" 46 ⟨"PieceSets$Numbers", "include", "(I)V"⟩ "PieceSets", .methodLinkNest "PieceSets$Buffer" 50 ⟨"PieceSets$Numbers", "includeAll", "(II)V"⟩ "PieceSets", .methodLinkNest "PieceSets$Buffer" 32 ⟨"PieceSets$Numbers", "kindOf", "(I)I"⟩ "PieceSets", .methodLinkNest "PieceSets" 125 ⟨"PieceSets$Numbers", "become", "(LPieceSets$Numbers;)V"⟩ "PieceSets", .methodLinkNest "PieceSets" 166 ⟨"PieceSets$Numbers", "countInPiece", "(I)I"⟩ "PieceSets"]
set_option maxRecDepth 20000 in
theorem nwL_shape : ∀ w ∈ nwL, (∃ a i b n d h, w = .fieldLinkNest a i b n d h) ∨ (∃ a i x h, w = .methodLinkNest a i x h) := List.forall_mem_cons.mpr ⟨Or.inr ⟨_, _, _, _, rfl⟩, List.forall_mem_cons.mpr ⟨Or.inr ⟨_, _, _, _, rfl⟩, List.forall_mem_cons.mpr ⟨Or.inl ⟨_, _, _, _, _, _, rfl⟩, List.forall_mem_cons.mpr ⟨Or.inl ⟨_, _, _, _, _, _, rfl⟩, List.forall_mem_cons.mpr ⟨Or.inl ⟨_, _, _, _, _, _, rfl⟩, List.forall_mem_cons.mpr ⟨Or.inl ⟨_, _, _, _, _, _, rfl⟩, List.forall_mem_cons.mpr ⟨Or.inr ⟨_, _, _, _, rfl⟩, List.forall_mem_cons.mpr ⟨Or.inl ⟨_, _, _, _, _, _, rfl⟩, List.forall_mem_cons.mpr ⟨Or.inr ⟨_, _, _, _, rfl⟩, List.forall_mem_cons.mpr ⟨Or.inr ⟨_, _, _, _, rfl⟩, List.forall_mem_cons.mpr ⟨Or.inr ⟨_, _, _, _, rfl⟩, List.forall_mem_cons.mpr ⟨Or.inr ⟨_, _, _, _, rfl⟩, List.forall_mem_cons.mpr ⟨Or.inr ⟨_, _, _, _, rfl⟩, List.forall_mem_cons.mpr ⟨Or.inr ⟨_, _, _, _, rfl⟩, List.forall_mem_cons.mpr ⟨Or.inr ⟨_, _, _, _, rfl⟩, List.forall_mem_cons.mpr ⟨Or.inr ⟨_, _, _, _, rfl⟩, List.forall_mem_cons.mpr ⟨Or.inr ⟨_, _, _, _, rfl⟩, List.forall_mem_cons.mpr ⟨Or.inr ⟨_, _, _, _, rfl⟩, List.forall_mem_cons.mpr ⟨Or.inr ⟨_, _, _, _, rfl⟩, List.forall_mem_cons.mpr ⟨Or.inr ⟨_, _, _, _, rfl⟩, List.forall_mem_cons.mpr ⟨Or.inr ⟨_, _, _, _, rfl⟩, List.forall_mem_cons.mpr ⟨Or.inr ⟨_, _, _, _, rfl⟩, List.forall_mem_cons.mpr ⟨Or.inr ⟨_, _, _, _, rfl⟩, List.forall_mem_cons.mpr ⟨Or.inr ⟨_, _, _, _, rfl⟩, List.forall_mem_cons.mpr ⟨Or.inr ⟨_, _, _, _, rfl⟩, List.forall_mem_cons.mpr ⟨Or.inr ⟨_, _, _, _, rfl⟩, List.forall_mem_cons.mpr ⟨Or.inr ⟨_, _, _, _, rfl⟩, List.forall_mem_cons.mpr ⟨Or.inr ⟨_, _, _, _, rfl⟩, List.forall_mem_cons.mpr ⟨Or.inr ⟨_, _, _, _, rfl⟩, List.forall_mem_cons.mpr ⟨Or.inr ⟨_, _, _, _, rfl⟩, List.forall_mem_cons.mpr ⟨Or.inr ⟨_, _, _, _, rfl⟩, List.forall_mem_cons.mpr ⟨Or.inr ⟨_, _, _, _, rfl⟩, List.forall_mem_cons.mpr ⟨Or.inr ⟨_, _, _, _, rfl⟩, List.forall_mem_cons.mpr ⟨Or.inr ⟨_, _, _, _, rfl⟩, List.forall_mem_cons.mpr ⟨Or.inr ⟨_, _, _, _, rfl⟩, List.forall_mem_cons.mpr ⟨Or.inr ⟨_, _, _, _, rfl⟩, List.forall_mem_cons.mpr ⟨Or.inr ⟨_, _, _, _, rfl⟩, List.forall_mem_cons.mpr ⟨Or.inr ⟨_, _, _, _, rfl⟩, List.forall_mem_cons.mpr ⟨Or.inr ⟨_, _, _, _, rfl⟩, fun _ h => absurd h List.not_mem_nil⟩⟩⟩⟩⟩⟩⟩⟩⟩⟩⟩⟩⟩⟩⟩⟩⟩⟩⟩⟩⟩⟩⟩⟩⟩⟩⟩⟩⟩⟩⟩⟩⟩⟩⟩⟩⟩⟩⟩
def NW (U : State) : Prop := ∀ w ∈ nwL, va_Nw w U
theorem NW.warm {s U : State} (hW : s.WarmedH U.vm) (h : NW s) : NW U := fun w hw => by
  rcases nwL_shape w hw with ⟨a, i, b, n, d, k, rfl⟩ | ⟨a, i, x, k, rfl⟩
  · exact va_Nw.warmF hW (h _ hw)
  · exact va_Nw.warmM hW (h _ hw)
theorem NW.same {u U : State} (e : u.vm = U.vm) (h : NW u) : NW U := fun w hw => by
  rcases nwL_shape w hw with ⟨a, i, b, n, d, k, rfl⟩ | ⟨a, i, x, k, rfl⟩
  · exact va_Nw.same rfl e (h _ hw)
  · exact va_Nw.same rfl e (h _ hw)
theorem NW.m {s : State} {args : Array Value} (h : NW s) (k : Nat) {a : String} {i : Nat} {x : MethodName} {t : String} (hk : nwL[k]? = some (.methodLinkNest a i x t)) : va_Nw (.methodLinkNest a i x t) s := h _ (List.mem_of_getElem? hk)
theorem NW.f {s : State} {args : Array Value} (h : NW s) (k : Nat) {a : String} {i : Nat} {b n d t : String} (hk : nwL[k]? = some (.fieldLinkNest a i b n d t)) : (Cond.fieldLinkNest a i b n d t).before args s = true := va_Nw.use rfl (h _ (List.mem_of_getElem? hk))
/-- the classes of the arrays: of ints, of longs, of Numbers, of States -/
abbrev tyz (T : Nat → ClassId) : List (ClassId × FieldType) := [(T 0, .int), (T 1, .long), (T 2, .object "PieceSets$Numbers"), (T 3, .object "PieceSets$State")]
/-- the machine as every method of this claim finds it -/
def KS (D : va_G) (T : Nat → ClassId) (U : State) : Prop := va_K D vwCl (tyz T) U ∧ NW U
theorem KS.warm {D : va_G} {T : Nat → ClassId} {s U : State} (hW : s.WarmedH U.vm) (h : KS D T s) : KS D T U := ⟨va_K.moved hW.alike h.1, h.2.warm hW⟩
theorem KS.call {D : va_G} {T : Nat → ClassId} {U : State} (g : JFrame) (mk : MethodId) (a : Array Value) (h : KS D T U) : KS D T (U.calling g mk a) := ⟨va_K.moved (u := U) (U := U.calling g mk a) (Vm.Alike.refl U.vm) h.1, NW.same (u := U) (U := U.calling g mk a) rfl h.2⟩
theorem pre_S {s : State} {H : Heap} {D : va_G} {T : Nat → ClassId} {Φ : Heap → Prop} {As : List Value} (hK : KS D T s) (hΦ : Φ H) : PreS s H (va_Pc As (fun U => KS D T U ∧ Φ U.heap)) As :=
  ⟨fun a _ g mk q => ⟨q.1, q.2.1.call g mk a, q.2.2⟩, fun U hU hW => ⟨rfl, hK.warm hW, by rw [hU]; exact hΦ⟩⟩
theorem pre_V {s : State} {H : Heap} {D : va_G} {T : Nat → ClassId} {Φ : Heap → Prop} {b ci : Nat} {fs As : List Value} {q : vw_C} (hK : KS D T s) (hr : va_at D vwCl (b, .inr (ci, fs)) H) (hc : vwCl[ci]? = some q) (hΦ : Φ H) : PreV s H q.1 b (va_Pc (.ref b :: As) (fun U => KS D T U ∧ Φ U.heap)) As :=
  ⟨fun a _ g mk w => ⟨w.1, w.2.1.call g mk a, w.2.2⟩, va_recv hK.1 (fun k x hx => by
    cases k with
    | zero => cases hx; exact hr
    | succ k => simp at hx) hc (show [(b, (.inr (ci, fs) : va_E))][0]? = _ from rfl), fun U hU hW => ⟨rfl, hK.warm hW, by rw [hU]; exact hΦ⟩⟩
theorem P1 {D : va_G} {q : Nat × va_E} {H : Heap} (h : va_at D vwCl q H) : va_P D vwCl [q] H := fun k x hx => by
  cases k with
  | zero => cases hx; exact h
  | succ k => simp at hx
theorem P2 {D : va_G} {q r : Nat × va_E} {H : Heap} (h : va_at D vwCl q H) (h2 : va_at D vwCl r H) : va_P D vwCl [q, r] H := fun k x hx => by
  cases k with
  | zero => cases hx; exact h
  | succ k =>
    cases k with
    | zero => cases hx; exact h2
    | succ k => simp at hx
theorem D1 {A : Nat → Prop} {q : Nat × va_E} (h : A q.1) : va_D A [q] := ⟨fun i j x y hi hj _ => by
  have h1 := (List.getElem?_eq_some_iff.mp hi).1
  have h2 := (List.getElem?_eq_some_iff.mp hj).1
  simp only [List.length_cons, List.length_nil] at h1 h2
  omega, fun k x hx => by
  have h1 := (List.getElem?_eq_some_iff.mp hx).1
  simp only [List.length_cons, List.length_nil] at h1
  have h0 : k = 0 := by omega
  subst h0
  cases hx
  exact h⟩
/-- the cells of rows: what a cell holds -/
abbrev eI (T : Nat → ClassId) (n : Nat) (f : Nat → Int32) : va_E := .inl (T 0, n, .inl f)
abbrev eJ (T : Nat → ClassId) (n : Nat) (f : Nat → Int64) : va_E := .inl (T 1, n, .inr (.inl f))
abbrev eR (T : Nat → ClassId) (k n : Nat) (f : Nat → Option Nat) : va_E := .inl (T k, n, .inr (.inr (.inr (.inr f))))
theorem arrV_cong {c : ClassId} {n : Nat} {f g : Nat → Value} (h : ∀ j, j < n → f j = g j) : arrV c n f = arrV c n g := by
  unfold arrV
  congr 1
  apply Array.ext
  · simp
  · intro i h1 h2
    simp at h1
    simp [h i h1]
theorem at_congI {D : va_G} {T : Nat → ClassId} {a n : Nat} {f g : Nat → Int32} {H : Heap} (h : va_at D vwCl (a, eI T n f) H) (e : ∀ j, j < n → f j = g j) : va_at D vwCl (a, eI T n g) H := by
  have h1 : H[a]? = some (arrV (T 0) n (fun j => .int (f j))) := h
  rw [arrV_cong (g := fun j => .int (g j)) (fun j hj => by rw [e j hj])] at h1
  exact h1
theorem at_congJ {D : va_G} {T : Nat → ClassId} {a n : Nat} {f g : Nat → Int64} {H : Heap} (h : va_at D vwCl (a, eJ T n f) H) (e : ∀ j, j < n → f j = g j) : va_at D vwCl (a, eJ T n g) H := by
  have h1 : H[a]? = some (arrV (T 1) n (fun j => .long (f j))) := h
  rw [arrV_cong (g := fun j => .long (g j)) (fun j hj => by rw [e j hj])] at h1
  exact h1
theorem at_congR {D : va_G} {T : Nat → ClassId} {a k n : Nat} {f g : Nat → Option Nat} {H : Heap} (h : va_at D vwCl (a, eR T k n f) H) (e : ∀ j, j < n → f j = g j) : va_at D vwCl (a, eR T k n g) H := by
  have h1 : H[a]? = some (arrV (T k) n (fun j => va_rf (f j))) := h
  rw [arrV_cong (g := fun j => va_rf (g j)) (fun j hj => by rw [e j hj])] at h1
  exact h1
/-- an object whose first field is a reference is no row of ints, none of longs; rows of ints are none of longs or references -/
theorem ne_oI {D : va_G} {T : Nat → ClassId} {o w ci n x : Nat} {fs : List Value} {f : Nat → Int32} {H : Heap} {q : vw_C} (hc : vwCl[ci]? = some q) (hq : 0 < q.2.2) (h : va_at D vwCl (o, .inr (ci, .ref x :: fs)) H) (h2 : va_at D vwCl (w, eI T n f) H) : o ≠ w := by
  intro e
  subst e
  obtain ⟨r, h1, cell, q1, q2, q3, q4⟩ := h
  cases hc.symm.trans h1
  have h3 : H[o]? = some (arrV (T 0) n (fun j => .int (f j))) := h2
  cases q1.symm.trans h3
  have h4 := q4 0 hq
  have hl := (Array.getElem?_eq_some_iff.mp h4).1
  rw [arrV_size] at hl
  rw [arrV_read _ _ hl] at h4
  simp [vp_V] at h4
theorem ne_oJ {D : va_G} {T : Nat → ClassId} {o w ci n x : Nat} {fs : List Value} {f : Nat → Int64} {H : Heap} {q : vw_C} (hc : vwCl[ci]? = some q) (hq : 0 < q.2.2) (h : va_at D vwCl (o, .inr (ci, .ref x :: fs)) H) (h2 : va_at D vwCl (w, eJ T n f) H) : o ≠ w := by
  intro e
  subst e
  obtain ⟨r, h1, cell, q1, q2, q3, q4⟩ := h
  cases hc.symm.trans h1
  have h3 : H[o]? = some (arrV (T 1) n (fun j => .long (f j))) := h2
  cases q1.symm.trans h3
  have h4 := q4 0 hq
  have hl := (Array.getElem?_eq_some_iff.mp h4).1
  rw [arrV_size] at hl
  rw [arrV_read _ _ hl] at h4
  simp [vp_V] at h4
theorem ne_IJ {D : va_G} {T : Nat → ClassId} {v w n m : Nat} {f : Nat → Int32} {g : Nat → Int64} {H : Heap} (hn : 0 < n) (h : va_at D vwCl (v, eI T n f) H) (h2 : va_at D vwCl (w, eJ T m g) H) : v ≠ w := by
  intro e
  subst e
  have h1 : H[v]? = some (arrV (T 0) n (fun j => .int (f j))) := h
  have h3 : H[v]? = some (arrV (T 1) m (fun j => .long (g j))) := h2
  have h4 := Option.some.inj (h1.symm.trans h3)
  have a1 := arrV_read (T 0) (fun j => Value.int (f j)) hn
  have hl : 0 < m := by
    have := (Array.getElem?_eq_some_iff.mp a1).1
    rw [h4, arrV_size] at this
    exact this
  rw [h4, arrV_read _ _ hl] at a1
  simp at a1
/-- Java's own operations, by names -/
def shlI (x y : Int32) : Int32 := x <<< (y &&& 31)
def shrI (x y : Int32) : Int32 := x >>> (y &&& 31)
def ushrI (x y : Int32) : Int32 := (x.toUInt32 >>> (y.toUInt32 &&& Int32.toUInt32 31)).toInt32
def shlL (x : Int64) (y : Int32) : Int64 := x <<< (y.toInt64 &&& 63)
def ushrL (x : Int64) (y : Int32) : Int64 := (x.toUInt64 >>> (y.toInt64.toUInt64 &&& Int64.toUInt64 63)).toInt64
def remI (x y : Int32) : Int32 := x - x / y * y
def b2i (b : Bool) : Int32 := if b = true then 1 else 0
theorem b2i_0 {b : Bool} : b2i b = 0 ↔ b = false := by cases b <;> decide
theorem b2i_n0 {b : Bool} : ¬ b2i b = 0 ↔ b = true := by cases b <;> decide
theorem b2i_1 {b : Bool} : b2i b = 1 ↔ b = true := by cases b <;> decide
theorem b2i_n1 {b : Bool} : ¬ b2i b = 1 ↔ b = false := by cases b <;> decide
theorem nb0 : narrow .boolean (.int (nI 0)) = .int (nI 0) := rfl
theorem nb1 : narrow .boolean (.int (nI 1)) = .int (nI 1) := rfl
theorem nbb (b : Bool) : narrow .boolean (.int (b2i b)) = .int (b2i b) := by cases b <;> rfl
theorem b2i_t : b2i true = 1 := rfl
theorem b2i_f : b2i false = 0 := rfl
theorem iinc_n (a n : Nat) : nI a + Int32.ofInt (n : Int) = nI (a + n) := nI_add a n
theorem iinc_m {a : Nat} (h : 1 ≤ a) : nI a + Int32.ofInt (-1) = nI (a - 1) := by
  obtain ⟨k, rfl⟩ : ∃ k, a = k + 1 := ⟨a - 1, by omega⟩
  rw [show k + 1 - 1 = k by omega]
  exact pk_m1 k
theorem nI_e0 {a : Nat} (h : a < 2 ^ 31) : nI a = 0 ↔ a = 0 := by rw [← nI_0]; exact nI_eq h (by decide)
theorem nI_le0 {a : Nat} (h : a < 2 ^ 31) : nI a ≤ 0 ↔ a = 0 := by rw [← nI_0, nI_leI h (by decide)]; omega
theorem nI_gt0 {a : Nat} (h : a < 2 ^ 31) : 0 < nI a ↔ 0 < a := by rw [← nI_0]; exact nI_ltI (by decide) h
section RB
variable {p : Program} {l : Launch} {e : Env} {R : Room} {s : State} {m : MethodId} {args : Array Value} {below : List Frame} {meth : Method} {c : Code} {H : Heap} {locs : List Loc} {cells slots : Nat} {Q : State → Prop}
variable {cc : ByteArray} {pc : Nat} {ls : Array Slot} {rest : List Value} {D : va_G} {T : Nat → ClassId} {A : Nat → Prop} {a : Nat} {H0 : Heap}
theorem top_i {x x' : Int32} (h : x = x') (k : W p l e R s m args below meth c H locs cells slots Q (F0 m pc ls (.int x' :: rest))) : W p l e R s m args below meth c H locs cells slots Q (F0 m pc ls (.int x :: rest)) := by
  subst h; exact k
theorem top_l {x x' : Int64} (h : x = x') (k : W p l e R s m args below meth c H locs cells slots Q (F0 m pc ls (.long x' :: rest))) : W p l e R s m args below meth c H locs cells slots Q (F0 m pc ls (.long x :: rest)) := by
  subst h; exact k
theorem W_gen {Q0 : State → Prop} {g : JFrame} (h : ∀ Q : State → Prop, Q = Q0 → W p l e R s m args below meth c H locs cells slots Q g) : W p l e R s m args below meth c H locs cells slots Q0 g := h Q0 rfl
theorem r_get (hexec : p.tables.exec = Jvm.exec) (hb : c.code = cc) {own C : String} {Tb : u_T} {N ci index : Nat} {Ts : List Cond} (hts : ∀ w ∈ Ts, w.before args s = true) (hin : ∀ w ∈ u_ws C Tb N, w ∈ Ts) (hown : s.vm.findClass own = some m.cls) (hK : KS D T s) {fs : List Value} (h : va_at D vwCl (a, .inr (ci, fs)) H) (hc : vwCl[ci]? = some (C, Tb, N)) (k : Nat) (hk : k < N) (hlink : (Cond.fieldLink own index C (Tb k).2.1 (Tb k).2.2.1).before args s = true) (hd : (Tb k).1 = C) {v : Value} (hv : fs[k]? = some v) (hdg : decode cc pc = .ok (.getfield index, 3))
    (kk : W p l e R s m args below meth c H locs cells slots Q (F0 m (pc + 3) ls (v :: rest))) : W p l e R s m args below meth c H locs cells slots Q (F0 m pc ls (.ref a :: rest)) :=
  va_get hexec hb hts hin hown hK.1 (P1 h) 0 rfl hc k hk hlink (fun x hx => by rw [hd] at hx; exact hx) hv hdg kk
theorem r_getN (hexec : p.tables.exec = Jvm.exec) (hb : c.code = cc) {own C host : String} {Tb : u_T} {N ci index : Nat} {Ts : List Cond} (hts : ∀ w ∈ Ts, w.before args s = true) (hin : ∀ w ∈ u_ws C Tb N, w ∈ Ts) (hown : s.vm.findClass own = some m.cls) (hK : KS D T s) {fs : List Value} (h : va_at D vwCl (a, .inr (ci, fs)) H) (hc : vwCl[ci]? = some (C, Tb, N)) (k : Nat) (hk : k < N) (hlink : (Cond.fieldLinkNest own index C (Tb k).2.1 (Tb k).2.2.1 host).before args s = true) (hd : (Tb k).1 = C) {v : Value} (hv : fs[k]? = some v) (hdg : decode cc pc = .ok (.getfield index, 3))
    (kk : W p l e R s m args below meth c H locs cells slots Q (F0 m (pc + 3) ls (v :: rest))) : W p l e R s m args below meth c H locs cells slots Q (F0 m pc ls (.ref a :: rest)) :=
  va_getN hexec hb hts hin hown hK.1 (P1 h) 0 rfl hc k hk hlink (fun x hx => by rw [hd] at hx; exact hx) hv hdg kk
theorem r_iald (hexec : p.tables.exec = Jvm.exec) (hb : c.code = cc) (hK : KS D T s) {n i : Nat} {f : Nat → Int32} (h : va_at D vwCl (a, eI T n f) H) (hi : i < n) (hn : n < 2 ^ 31) (hdg : decode cc pc = .ok (.iaload, 1))
    (kk : W p l e R s m args below meth c H locs cells slots Q (F0 m (pc + 1) ls (.int (f i) :: rest))) : W p l e R s m args below meth c H locs cells slots Q (F0 m pc ls (.int (nI i) :: .ref a :: rest)) := by
  refine va_iald hexec hb hK.1 (P1 h) 0 0 rfl rfl (vp_in_nI hi hn) hdg ?_
  rw [nI_clamp (Nat.lt_trans hi hn)]
  exact kk
theorem r_lald (hexec : p.tables.exec = Jvm.exec) (hb : c.code = cc) (hK : KS D T s) {n i : Nat} {f : Nat → Int64} (h : va_at D vwCl (a, eJ T n f) H) (hi : i < n) (hn : n < 2 ^ 31) (hdg : decode cc pc = .ok (.laload, 1))
    (kk : W p l e R s m args below meth c H locs cells slots Q (F0 m (pc + 1) ls (.long (f i) :: rest))) : W p l e R s m args below meth c H locs cells slots Q (F0 m pc ls (.int (nI i) :: .ref a :: rest)) := by
  refine va_lald hexec hb hK.1 (P1 h) 0 1 rfl rfl (vp_in_nI hi hn) hdg ?_
  rw [nI_clamp (Nat.lt_trans hi hn)]
  exact kk
theorem r_nald (hexec : p.tables.exec = Jvm.exec) (hb : c.code = cc) (hK : KS D T s) {n i : Nat} {f : Nat → Option Nat} (h : va_at D vwCl (a, eR T 2 n f) H) (hi : i < n) (hn : n < 2 ^ 31) {q : Nat} (hq : f i = some q) (hdg : decode cc pc = .ok (.aaload, 1))
    (kk : W p l e R s m args below meth c H locs cells slots Q (F0 m (pc + 1) ls (.ref q :: rest))) : W p l e R s m args below meth c H locs cells slots Q (F0 m pc ls (.int (nI i) :: .ref a :: rest)) := by
  refine va_aldq hexec hb hK.1 (P1 h) 0 2 rfl rfl (vp_in_nI hi hn) hdg ?_
  rw [nI_clamp (Nat.lt_trans hi hn), hq]
  exact kk
theorem r_sald (hexec : p.tables.exec = Jvm.exec) (hb : c.code = cc) (hK : KS D T s) {n i : Nat} {f : Nat → Option Nat} (h : va_at D vwCl (a, eR T 3 n f) H) (hi : i < n) (hn : n < 2 ^ 31) {q : Nat} (hq : f i = some q) (hdg : decode cc pc = .ok (.aaload, 1))
    (kk : W p l e R s m args below meth c H locs cells slots Q (F0 m (pc + 1) ls (.ref q :: rest))) : W p l e R s m args below meth c H locs cells slots Q (F0 m pc ls (.int (nI i) :: .ref a :: rest)) := by
  refine va_aldq hexec hb hK.1 (P1 h) 0 3 rfl rfl (vp_in_nI hi hn) hdg ?_
  rw [nI_clamp (Nat.lt_trans hi hn), hq]
  exact kk
theorem r_iast (hexec : p.tables.exec = Jvm.exec) (hb : c.code = cc) (hK : KS D T s) (hS : va_S A H0 H locs) (hA : A a) {n i : Nat} {f : Nat → Int32} {x : Int32} (h : va_at D vwCl (a, eI T n f) H) (hi : i < n) (hn : n < 2 ^ 31) (hdg : decode cc pc = .ok (.iastore, 1))
    (kk : ∀ (H1 : Heap) (locs1 : List Loc), va_at D vwCl (a, eI T n (upd f i x)) H1 → (∀ q, q ≠ a → H1[q]? = H[q]?) → va_S A H0 H1 locs1 → W p l e R s m args below meth c H1 locs1 cells slots Q (F0 m (pc + 1) ls rest)) : W p l e R s m args below meth c H locs cells slots Q (F0 m pc ls (.int x :: .int (nI i) :: .ref a :: rest)) := by
  have h1 : H[a]? = some (arrV (T 0) n (fun j => .int (f j))) := h
  refine W.iast hexec hb h1 ((hK.1.2 0 _ rfl).1 n (fun j => .int (f j))) (fun q => by cases q) (by rw [arrV_size]; exact vp_in_nI hi hn) rfl rfl hdg fun H1 e z oq => ?_
  refine kk H1 _ ?_ oq (hS.put z oq hA)
  rw [nI_clamp (Nat.lt_trans hi hn), arrV_store] at e
  show H1[a]? = some (arrV (T 0) n (fun j => .int (upd f i x j)))
  rw [e]
  congr 2
  funext q
  by_cases hq : q = i
  · subst hq; simp [updV, upd]
  · simp [updV, upd, hq]
theorem r_last (hexec : p.tables.exec = Jvm.exec) (hb : c.code = cc) (hK : KS D T s) (hS : va_S A H0 H locs) (hA : A a) {n i : Nat} {f : Nat → Int64} {x : Int64} (h : va_at D vwCl (a, eJ T n f) H) (hi : i < n) (hn : n < 2 ^ 31) (hdg : decode cc pc = .ok (.lastore, 1))
    (kk : ∀ (H1 : Heap) (locs1 : List Loc), va_at D vwCl (a, eJ T n (vp_updL f i x)) H1 → (∀ q, q ≠ a → H1[q]? = H[q]?) → va_S A H0 H1 locs1 → W p l e R s m args below meth c H1 locs1 cells slots Q (F0 m (pc + 1) ls rest)) : W p l e R s m args below meth c H locs cells slots Q (F0 m pc ls (.long x :: .int (nI i) :: .ref a :: rest)) := by
  have h1 : H[a]? = some (arrV (T 1) n (fun j => .long (f j))) := h
  refine W.last hexec hb h1 ((hK.1.2 1 _ rfl).1 n (fun j => .long (f j))) (fun q => by cases q) (by rw [arrV_size]; exact vp_in_nI hi hn) rfl rfl hdg fun H1 e z oq => ?_
  refine kk H1 _ ?_ oq (hS.put z oq hA)
  rw [nI_clamp (Nat.lt_trans hi hn), arrV_store] at e
  show H1[a]? = some (arrV (T 1) n (fun j => .long (vp_updL f i x j)))
  rw [e]
  congr 2
  funext q
  by_cases hq : q = i
  · subst hq; simp [updV, vp_updL]
  · simp [updV, vp_updL, hq]
end RB
/-- an object of Numbers o with its row w of 64 words f -/
def Num (D : va_G) (T : Nat → ClassId) (H : Heap) (o w : Nat) (f : Nat → Int64) : Prop := va_at D vwCl (o, .inr (1, [.ref w])) H ∧ va_at D vwCl (w, eJ T 64 f) H
theorem Num.ne {D : va_G} {T : Nat → ClassId} {H : Heap} {o w : Nat} {f : Nat → Int64} (h : Num D T H o w f) : o ≠ w := ne_oJ (q := (RX1, TX1, 1)) rfl (by decide) h.1 h.2
theorem Num.kept {D : va_G} {T : Nat → ClassId} {H H1 : Heap} {o w : Nat} {f : Nat → Int64} (h : Num D T H o w f) (h1 : H1[o]? = H[o]?) (h2 : H1[w]? = H[w]?) : Num D T H1 o w f := ⟨h.1.kept h1, h.2.kept h2⟩
theorem Num.set {D : va_G} {T : Nat → ClassId} {H H1 : Heap} {o w : Nat} {f g : Nat → Int64} (h : Num D T H o w f) (e : va_at D vwCl (w, eJ T 64 g) H1) (oq : ∀ q, q ≠ w → H1[q]? = H[q]?) : Num D T H1 o w g := ⟨h.1.kept (oq _ h.ne), e⟩
theorem Num.cong {D : va_G} {T : Nat → ClassId} {H : Heap} {o w : Nat} {f g : Nat → Int64} (h : Num D T H o w f) (e : ∀ j, j < 64 → f j = g j) : Num D T H o w g := ⟨h.1, at_congJ h.2 e⟩
theorem Num.lt {D : va_G} {T : Nat → ClassId} {H : Heap} {o w : Nat} {f : Nat → Int64} (h : Num D T H o w f) : o < H.size ∧ w < H.size := ⟨va_at.lt h.1, va_at.lt h.2⟩
end
section
/-! how many bits are set: the JDK's own steps, byte by byte -/
/-- a number by its bytes, the lowest first -/
def by_val (b : Nat → Nat) : Nat → Nat
  | 0 => 0
  | k + 1 => b 0 + 256 * by_val (fun i => b (i + 1)) k
def by_m (m : Nat) : Nat → Nat
  | 0 => 0
  | k + 1 => m + 256 * by_m m k
theorem by_and {a A m B : Nat} (ha : a < 256) (hm : m < 256) : (a + 256 * A) &&& (m + 256 * B) = (a &&& m) + 256 * (A &&& B) := by
  have h1 := Nat.and_mod_two_pow (a := a + 256 * A) (b := m + 256 * B) (n := 8)
  have h2 := Nat.and_div_two_pow (a := a + 256 * A) (b := m + 256 * B) (n := 8)
  rw [show (2 : Nat) ^ 8 = 256 from rfl] at h1 h2
  rw [show (a + 256 * A) % 256 = a by omega, show (m + 256 * B) % 256 = m by omega] at h1
  rw [show (a + 256 * A) / 256 = A by omega, show (m + 256 * B) / 256 = B by omega] at h2
  omega
theorem by_step2 : ∀ (k : Nat) (b : Nat → Nat), (∀ i, b i < 256) → (by_val b k / 2) &&& by_m 85 k = by_val (fun i => (b i / 2) &&& 85) k
  | 0, _, _ => by simp [by_val, by_m]
  | k + 1, b, h => by
    have ih := by_step2 k (fun i => b (i + 1)) (fun i => h (i + 1))
    have hb := h 0
    simp only [by_val, by_m]
    have e : (b 0 + 256 * by_val (fun i => b (i + 1)) k) / 2 = (b 0 / 2 + 128 * (by_val (fun i => b (i + 1)) k % 2)) + 256 * (by_val (fun i => b (i + 1)) k / 2) := by omega
    rw [e, by_and (by omega) (by omega), ih]
    have key : ∀ t, t < 128 → ∀ z, z < 2 → (t + 128 * z) &&& 85 = t &&& 85 := by decide +kernel
    rw [key _ (by omega) _ (by omega)]
theorem by_step4 : ∀ (k : Nat) (b : Nat → Nat), (∀ i, b i < 256) → (by_val b k / 4) &&& by_m 51 k = by_val (fun i => (b i / 4) &&& 51) k
  | 0, _, _ => by simp [by_val, by_m]
  | k + 1, b, h => by
    have ih := by_step4 k (fun i => b (i + 1)) (fun i => h (i + 1))
    have hb := h 0
    simp only [by_val, by_m]
    have e : (b 0 + 256 * by_val (fun i => b (i + 1)) k) / 4 = (b 0 / 4 + 64 * (by_val (fun i => b (i + 1)) k % 4)) + 256 * (by_val (fun i => b (i + 1)) k / 4) := by omega
    rw [e, by_and (by omega) (by omega), ih]
    have key : ∀ t, t < 64 → ∀ z, z < 4 → (t + 64 * z) &&& 51 = t &&& 51 := by decide +kernel
    rw [key _ (by omega) _ (by omega)]
theorem by_mask {m : Nat} (hm : m < 256) : ∀ (k : Nat) (b : Nat → Nat), (∀ i, b i < 256) → by_val b k &&& by_m m k = by_val (fun i => b i &&& m) k
  | 0, _, _ => by simp [by_val, by_m]
  | k + 1, b, h => by
    have ih := by_mask hm k (fun i => b (i + 1)) (fun i => h (i + 1))
    simp only [by_val, by_m]
    rw [by_and (h 0) hm, ih]
theorem by_add : ∀ (k : Nat) (b c : Nat → Nat), by_val b k + by_val c k = by_val (fun i => b i + c i) k
  | 0, _, _ => rfl
  | k + 1, b, c => by
    have ih := by_add k (fun i => b (i + 1)) (fun i => c (i + 1))
    simp only [by_val]
    omega
theorem by_sub : ∀ (k : Nat) (b c : Nat → Nat), (∀ i, c i ≤ b i) → by_val b k - by_val c k = by_val (fun i => b i - c i) k ∧ by_val c k ≤ by_val b k
  | 0, _, _, _ => ⟨rfl, Nat.le_refl _⟩
  | k + 1, b, c, h => by
    have ih := by_sub k (fun i => b (i + 1)) (fun i => c (i + 1)) (fun i => h (i + 1))
    have h0 := h 0
    simp only [by_val]
    omega
theorem by_step16 : ∀ (k : Nat) (b : Nat → Nat), (∀ i, b i ≤ 68 ∧ b i % 16 ≤ 4) → (by_val b k + by_val b k / 16) &&& by_m 15 k = by_val (fun i => (b i + b i / 16) % 16) k
  | 0, _, _ => by simp [by_val, by_m]
  | k + 1, b, h => by
    have ih := by_step16 k (fun i => b (i + 1)) (fun i => h (i + 1))
    have hb := h 0
    have hv : by_val (fun i => b (i + 1)) k % 16 ≤ 4 := by
      cases k with
      | zero => simp [by_val]
      | succ k => simp only [by_val, Nat.zero_add]; have := (h 1).2; omega
    simp only [by_val, by_m]
    have e : (b 0 + 256 * by_val (fun i => b (i + 1)) k) + (b 0 + 256 * by_val (fun i => b (i + 1)) k) / 16 = (b 0 + b 0 / 16 + 16 * (by_val (fun i => b (i + 1)) k % 16)) + 256 * (by_val (fun i => b (i + 1)) k + by_val (fun i => b (i + 1)) k / 16) := by omega
    rw [e, by_and (by omega) (by omega), ih]
    have key : ∀ t, t < 256 → t &&& 15 = t % 16 := by decide +kernel
    rw [key _ (by omega)]
    omega
theorem by_lt : ∀ (k : Nat) (b : Nat → Nat), (∀ i, b i < 256) → by_val b k < 256 ^ k
  | 0, _, _ => by simp [by_val]
  | k + 1, b, h => by
    have ih := by_lt k (fun i => b (i + 1)) (fun i => h (i + 1))
    have h0 := h 0
    simp only [by_val, Nat.pow_succ]
    omega
theorem by_of : ∀ (k X : Nat), X < 256 ^ k → X = by_val (fun i => X / 256 ^ i % 256) k
  | 0, X, h => by simp at h; simp [by_val, h]
  | k + 1, X, h => by
    have ih := by_of k (X / 256) (by rw [Nat.pow_succ] at h; omega)
    simp only [by_val, Nat.pow_zero, Nat.div_one]
    have e : (fun i => X / 256 / 256 ^ i % 256) = (fun i => X / 256 ^ (i + 1) % 256) := by
      funext i
      rw [Nat.div_div_eq_div_mul, Nat.pow_succ, Nat.mul_comm]
    rw [e] at ih
    omega
theorem by_ct : ∀ (k : Nat) (b : Nat → Nat), (∀ i, b i < 256) → fb_ct (fun j => (by_val b k).testBit j) (8 * k) = fb_sm (fun i => fb_ct (fun j => (b i).testBit j) 8) k
  | 0, _, _ => rfl
  | k + 1, b, h => by
    have ih := by_ct k (fun i => b (i + 1)) (fun i => h (i + 1))
    rw [show 8 * (k + 1) = 8 + 8 * k by omega, fb_ct_split]
    have h0 := h 0
    have e1 : fb_ct (fun j => (by_val b (k + 1)).testBit j) 8 = fb_ct (fun j => (b 0).testBit j) 8 := fb_ct_cong (fun j hj => by
      simp only [by_val]
      have := Nat.testBit_two_pow_mul_add (by_val (fun i => b (i + 1)) k) (b := b 0) (i := 8) (by omega) j
      rw [show 2 ^ 8 * by_val (fun i => b (i + 1)) k + b 0 = b 0 + 256 * by_val (fun i => b (i + 1)) k by omega] at this
      rw [this, if_pos hj])
    have e2 : fb_ct (fun j => (by_val b (k + 1)).testBit (8 + j)) (8 * k) = fb_ct (fun j => (by_val (fun i => b (i + 1)) k).testBit j) (8 * k) := fb_ct_cong (fun j _ => by
      simp only [by_val]
      have := Nat.testBit_two_pow_mul_add (by_val (fun i => b (i + 1)) k) (b := b 0) (i := 8) (by omega) (8 + j)
      rw [show 2 ^ 8 * by_val (fun i => b (i + 1)) k + b 0 = b 0 + 256 * by_val (fun i => b (i + 1)) k by omega] at this
      rw [this, if_neg (by omega), show 8 + j - 8 = j by omega])
    rw [e1, e2, ih]
    have e3 : ∀ (n : Nat) (g : Nat → Nat), fb_sm g (n + 1) = g 0 + fb_sm (fun i => g (i + 1)) n := by
      intro n
      induction n with
      | zero => intro g; simp [fb_sm]
      | succ n ihn => intro g; rw [fb_sm_succ, ihn, fb_sm_succ]; omega
    rw [e3]
/-- what becomes of one byte -/
def by_f (b : Nat) : Nat := (((b - (b / 2 &&& 85)) &&& 51) + ((b - (b / 2 &&& 85)) / 4 &&& 51))
theorem by_f_ok : ∀ b, b < 256 → (b / 2 &&& 85) ≤ b ∧ by_f b ≤ 68 ∧ by_f b % 16 ≤ 4 ∧ (by_f b + by_f b / 16) % 16 = fb_ct (fun j => b.testBit j) 8 := by decide +kernel
theorem by_last {p : Nat → Nat} (h : ∀ i, p i ≤ 8) {Z Z1 Z2 Z3 : Nat} (hZ : Z = by_val p 8) (h1 : Z1 = Z + Z / 256) (h2 : Z2 = Z1 + Z1 / 65536) (h3 : Z3 = Z2 + Z2 / 4294967296) : Z3 % 128 = fb_sm p 8 ∧ Z3 < 2 ^ 64 ∧ Z2 < 2 ^ 64 ∧ Z1 < 2 ^ 64 := by
  have a0 := h 0
  have a1 := h 1
  have a2 := h 2
  have a3 := h 3
  have a4 := h 4
  have a5 := h 5
  have a6 := h 6
  have a7 := h 7
  simp only [by_val] at hZ
  simp only [fb_sm]
  generalize p 0 = q0 at *
  generalize p 1 = q1 at *
  generalize p 2 = q2 at *
  generalize p 3 = q3 at *
  generalize p 4 = q4 at *
  generalize p 5 = q5 at *
  generalize p 6 = q6 at *
  generalize p 7 = q7 at *
  have e1 : Z / 256 = q1 + 256 * (q2 + 256 * (q3 + 256 * (q4 + 256 * (q5 + 256 * (q6 + 256 * q7))))) := by omega
  have f1 : Z1 = (q0 + q1) + 256 * ((q1 + q2) + 256 * ((q2 + q3) + 256 * ((q3 + q4) + 256 * ((q4 + q5) + 256 * ((q5 + q6) + 256 * ((q6 + q7) + 256 * q7)))))) := by omega
  have e2 : Z1 / 65536 = (q2 + q3) + 256 * ((q3 + q4) + 256 * ((q4 + q5) + 256 * ((q5 + q6) + 256 * ((q6 + q7) + 256 * q7)))) := by omega
  have f2 : Z2 = (q0 + q1 + q2 + q3) + 256 * ((q1 + q2 + q3 + q4) + 256 * ((q2 + q3 + q4 + q5) + 256 * ((q3 + q4 + q5 + q6) + 256 * ((q4 + q5 + q6 + q7) + 256 * ((q5 + q6 + q7) + 256 * ((q6 + q7) + 256 * q7)))))) := by omega
  have e3 : Z2 / 4294967296 = (q4 + q5 + q6 + q7) + 256 * ((q5 + q6 + q7) + 256 * ((q6 + q7) + 256 * q7)) := by omega
  omega
/-- the bits of a long that are set -/
def pop (x : Int64) : Nat := fb_ct (fun j => x.toBitVec.getLsbD j) 64
theorem pop_le (x : Int64) : pop x ≤ 64 := fb_ct_le _ _
theorem pop_uN (x : Int64) : pop x = fb_ct (fun j => (uN x).testBit j) 64 := fb_ct_cong (fun _ _ => rfl)
theorem uN_and (x y : Int64) : uN (x &&& y) = uN x &&& uN y := by
  show (x.toBitVec &&& y.toBitVec).toNat = _
  rw [BitVec.toNat_and]; rfl
theorem uN_sub' {x y : Int64} (h : uN y ≤ uN x) : uN (x - y) = uN x - uN y := by
  show (x.toBitVec - y.toBitVec).toNat = _
  rw [BitVec.toNat_sub]
  have h1 : x.toBitVec.toNat = uN x := rfl
  have h2 : y.toBitVec.toNat = uN y := rfl
  have := uN_lt x
  have := uN_lt y
  omega
theorem uN_ushr (x : Int64) {k : Nat} (hk : k < 64) : uN (ushrL x (nI k)) = uN x / 2 ^ k := uN_sk x hk
theorem uN_i32 (x : Int64) : x.toInt32 &&& 127 = nI (uN x % 128) := by
  rw [show (127 : Int32) = nI 127 by decide]
  have e : x.toInt32 = nI (uN x) := by
    apply Int32.toBitVec_inj.mp
    rw [Int64.toBitVec_toInt32, BitVec.signExtend_eq_setWidth_of_le _ (by decide)]
    show x.toBitVec.setWidth 32 = BitVec.ofNat 32 x.toBitVec.toNat
    apply BitVec.eq_of_toNat_eq
    simp
  rw [e, fa_and, show (127 : Nat) = 2 ^ 7 - 1 by decide, Nat.and_two_pow_sub_one_eq_mod]
theorem pop_steps (x y1 y2 y3 y4 y5 y6 : Int64) (h1 : y1 = x - (ushrL x (nI 1) &&& 6148914691236517205)) (h2 : y2 = (y1 &&& 3689348814741910323) + (ushrL y1 (nI 2) &&& 3689348814741910323)) (h3 : y3 = (y2 + ushrL y2 (nI 4)) &&& 1085102592571150095) (h4 : y4 = y3 + ushrL y3 (nI 8)) (h5 : y5 = y4 + ushrL y4 (nI 16)) (h6 : y6 = y5 + ushrL y5 (nI 32)) : y6.toInt32 &&& 127 = nI (pop x) := by
  have hX := by_of 8 (uN x) (by have := uN_lt x; omega)
  generalize hb : (fun i => uN x / 256 ^ i % 256) = b at hX
  have hb8 : ∀ i, b i < 256 := fun i => by rw [← hb]; exact Nat.mod_lt _ (by decide)
  have m5 : uN 6148914691236517205 = by_m 85 8 := by decide +kernel
  have m3 : uN 3689348814741910323 = by_m 51 8 := by decide +kernel
  have m0 : uN 1085102592571150095 = by_m 15 8 := by decide +kernel
  have s1 := by_sub 8 b (fun i => b i / 2 &&& 85) (fun i => (by_f_ok _ (hb8 i)).1)
  have u1 : uN y1 = by_val (fun i => b i - (b i / 2 &&& 85)) 8 := by
    have e : uN (ushrL x (nI 1) &&& 6148914691236517205) = by_val (fun i => b i / 2 &&& 85) 8 := by
      rw [uN_and, uN_ushr x (by decide), m5, hX, Nat.pow_one, by_step2 8 b hb8]
    rw [h1, uN_sub' (by rw [e, hX]; exact s1.2), e, hX, s1.1]
  have hc : ∀ i, b i - (b i / 2 &&& 85) < 256 := fun i => by have := hb8 i; omega
  have u2 : uN y2 = by_val (fun i => by_f (b i)) 8 := by
    have e1 : uN (y1 &&& 3689348814741910323) = by_val (fun i => (b i - (b i / 2 &&& 85)) &&& 51) 8 := by rw [uN_and, u1, m3, by_mask (by decide) 8 _ hc]
    have e2 : uN (ushrL y1 (nI 2) &&& 3689348814741910323) = by_val (fun i => (b i - (b i / 2 &&& 85)) / 4 &&& 51) 8 := by
      rw [uN_and, uN_ushr y1 (by decide), u1, m3, show 2 ^ 2 = 4 from rfl, by_step4 8 _ hc]
    have e3 := by_add 8 (fun i => (b i - (b i / 2 &&& 85)) &&& 51) (fun i => (b i - (b i / 2 &&& 85)) / 4 &&& 51)
    have hl := by_lt 8 (fun i => by_f (b i)) (fun i => by have := (by_f_ok _ (hb8 i)).2.1; omega)
    have e4 : (fun i => (b i - (b i / 2 &&& 85)) &&& 51) = (fun i => (b i - (b i / 2 &&& 85)) &&& 51) := rfl
    rw [h2, uN_add, e1, e2, e3]
    show by_val (fun i => by_f (b i)) 8 % 18446744073709551616 = _
    exact Nat.mod_eq_of_lt hl
  have u3 : uN y3 = by_val (fun i => (by_f (b i) + by_f (b i) / 16) % 16) 8 := by
    have hl := by_lt 8 (fun i => by_f (b i)) (fun i => by have := (by_f_ok _ (hb8 i)).2.1; omega)
    have hf : ∀ i, by_f (b i) ≤ 68 ∧ by_f (b i) % 16 ≤ 4 := fun i => ⟨(by_f_ok _ (hb8 i)).2.1, (by_f_ok _ (hb8 i)).2.2.1⟩
    have hv : by_val (fun i => by_f (b i)) 8 ≤ 68 * 72340172838076673 := by
      simp only [by_val, Nat.zero_add, Nat.reduceAdd]
      have a0 := (hf 0).1
      have a1 := (hf 1).1
      have a2 := (hf 2).1
      have a3 := (hf 3).1
      have a4 := (hf 4).1
      have a5 := (hf 5).1
      have a6 := (hf 6).1
      have a7 := (hf 7).1
      omega
    have e : uN (y2 + ushrL y2 (nI 4)) = by_val (fun i => by_f (b i)) 8 + by_val (fun i => by_f (b i)) 8 / 16 := by
      rw [uN_add, uN_ushr y2 (by decide), u2, show 2 ^ 4 = 16 from rfl]
      exact Nat.mod_eq_of_lt (by omega)
    rw [h3, uN_and, e, m0, by_step16 8 _ hf]
  have hp : ∀ i, (by_f (b i) + by_f (b i) / 16) % 16 ≤ 8 := fun i => by
    rw [(by_f_ok _ (hb8 i)).2.2.2]
    exact fb_ct_le _ _
  obtain ⟨l1, l2, l3, l4⟩ := by_last hp u3 rfl rfl rfl
  have u4 : uN y4 = uN y3 + uN y3 / 256 := by
    rw [h4, uN_add, uN_ushr y3 (by decide), show 2 ^ 8 = 256 from rfl]
    exact Nat.mod_eq_of_lt l4
  have u5 : uN y5 = uN y4 + uN y4 / 65536 := by
    rw [h5, uN_add, uN_ushr y4 (by decide), u4, show 2 ^ 16 = 65536 from rfl]
    exact Nat.mod_eq_of_lt l3
  have u6 : uN y6 = uN y5 + uN y5 / 4294967296 := by
    rw [h6, uN_add, uN_ushr y5 (by decide), u5, u4, show 2 ^ 32 = 4294967296 from rfl]
    exact Nat.mod_eq_of_lt l2
  rw [uN_i32, u6, u5, u4, l1, pop_uN, hX]
  have hct := by_ct 8 b hb8
  rw [show 8 * 8 = 64 from rfl] at hct
  rw [hct]
  congr 1
  exact fb_sm_cong (fun i _ => (by_f_ok _ (hb8 i)).2.2.2)
end
section
/-! what the words of an object of Numbers are as a set -/
def bitL (f : Nat → Int64) (x : Nat) : Bool := (f (x / 64)).toBitVec.getLsbD (x % 64)
/-- how many of p are there from a on, n places long -/
def ct (p : Nat → Bool) (a n : Nat) : Nat := fb_ct (fun j => p (a + j)) n
theorem ct_0 (p : Nat → Bool) (a : Nat) : ct p a 0 = 0 := rfl
theorem ct_le (p : Nat → Bool) (a n : Nat) : ct p a n ≤ n := fb_ct_le _ _
theorem ct_add (p : Nat → Bool) (a m n : Nat) : ct p a (m + n) = ct p a m + ct p (a + m) n := by
  unfold ct
  rw [fb_ct_split]
  congr 1
  exact fb_ct_cong (fun k _ => by rw [Nat.add_assoc])
theorem ct_cong {p q : Nat → Bool} {a n : Nat} (h : ∀ x, a ≤ x → x < a + n → p x = q x) : ct p a n = ct q a n := fb_ct_cong (fun k hk => h _ (by omega) (by omega))
theorem bitL_at (f : Nat → Int64) (w : Nat) {j : Nat} (hj : j < 64) : bitL f (64 * w + j) = (f w).toBitVec.getLsbD j := by
  unfold bitL
  rw [show (64 * w + j) / 64 = w by omega, show (64 * w + j) % 64 = j by omega]
theorem pop_ct (f : Nat → Int64) (w : Nat) : pop (f w) = ct (bitL f) (64 * w) 64 := fb_ct_cong (fun j hj => (bitL_at f w hj).symm)
def wAt (f : Nat → Int64) (x : Int32) : Int64 := if ¬ x < 0 ∧ x < nI 64 then f x.toNatClampNeg else 0
theorem wAt_n (f : Nat → Int64) {j : Nat} (h : j < 64) : wAt f (nI j) = f j := by
  unfold wAt
  rw [if_pos ⟨nI_pos (by omega), (nI_ltI (by omega) (by omega)).mpr h⟩, nI_clamp (by omega)]
theorem wAt_neg (f : Nat → Int64) {x : Int32} (h : x < 0 ∨ ¬ x < nI 64) : wAt f x = 0 := if_neg (fun q => h.elim q.1 (fun z => z q.2))
theorem nI_cl {x : Int32} (h : ¬ x < 0) : x = nI x.toNatClampNeg := by
  obtain ⟨j, hj, rfl⟩ := nI_of h
  rw [nI_clamp hj]
theorem cl_lt {x : Int32} {n : Nat} (hn : n < 2 ^ 31) (h0 : ¬ x < 0) (h : x < nI n) : x.toNatClampNeg < n := by
  obtain ⟨j, hj, rfl⟩ := nI_of h0
  rw [nI_clamp hj]
  exact (nI_ltI hj hn).mp h
theorem r1 {b : Bool} (h : b = true) : nI 1 = b2i b := by subst h; rfl
theorem r0 {b : Bool} (h : b = false) : nI 0 = b2i b := by subst h; rfl
/-! bits of longs under Java's shifts -/
def lb (x : Int64) (j : Nat) : Bool := x.toBitVec.getLsbD j
theorem lb_and (x y : Int64) (j : Nat) : lb (x &&& y) j = (lb x j && lb y j) := by unfold lb; rw [Int64.toBitVec_and, BitVec.getLsbD_and]
theorem lb_or (x y : Int64) (j : Nat) : lb (x ||| y) j = (lb x j || lb y j) := by unfold lb; rw [Int64.toBitVec_or, BitVec.getLsbD_or]
theorem lb_xor (x y : Int64) (j : Nat) : lb (x ^^^ y) j = (lb x j ^^ lb y j) := by unfold lb; rw [Int64.toBitVec_xor, BitVec.getLsbD_xor]
theorem lb_0 (j : Nat) : lb 0 j = false := BitVec.getLsbD_zero
theorem lb_m1 : ∀ j, j < 64 → lb (-1) j = true := by decide +kernel
theorem lb_big {x : Int64} {j : Nat} (h : 64 ≤ j) : lb x j = false := BitVec.getLsbD_of_ge _ _ h
theorem lb_not (x : Int64) {j : Nat} (h : j < 64) : lb (x ^^^ (-1)) j = !lb x j := by rw [lb_xor, lb_m1 j h, Bool.xor_true]
theorem lb_ushr (x : Int64) {k : Nat} (hk : k < 64) (j : Nat) : lb (ushrL x (nI k)) j = lb x (k + j) := by
  unfold lb ushrL
  rw [wb_cu k hk]
  show (x.toUInt64 >>> UInt64.ofNat k).toBitVec.getLsbD j = _
  rw [UInt64.toBitVec_shiftRight]
  have e : ((UInt64.ofNat k).toBitVec % 64).toNat = k := by
    have h64 : ∀ k, k < 64 → (BitVec.ofNat 64 k % 64#64).toNat = k := by decide +kernel
    exact h64 k hk
  show (x.toBitVec >>> ((UInt64.ofNat k).toBitVec % 64).toNat).getLsbD j = _
  rw [e, BitVec.getLsbD_ushiftRight]
theorem lb_shl (x : Int64) {k j : Nat} (hk : k < 64) (hj : j < 64) : lb (shlL x (nI k)) j = (decide (k ≤ j) && lb x (j - k)) := by
  unfold lb shlL
  rw [wb_c k hk, Int64.toBitVec_shiftLeft, wb_tb, wb_sm k hk]
  show (x.toBitVec <<< (BitVec.ofNat 64 k).toNat).getLsbD j = _
  rw [BitVec.toNat_ofNat, Nat.mod_eq_of_lt (by omega), BitVec.getLsbD_shiftLeft]
  rcases Nat.lt_or_ge j k with h | h
  · simp [h, Nat.not_le.mpr h]
  · simp [hj, h, Nat.not_lt.mpr h]
theorem lb_ext {x y : Int64} (h : ∀ j, j < 64 → lb x j = lb y j) : x = y := Int64.toBitVec_inj.mp (BitVec.eq_of_getLsbD_eq (fun i hi => h i hi))
theorem bitL_lb (f : Nat → Int64) (w : Nat) {j : Nat} (hj : j < 64) : bitL f (64 * w + j) = lb (f w) j := bitL_at f w hj
theorem bitL_dm (f : Nat → Int64) (x : Nat) : bitL f x = lb (f (x / 64)) (x % 64) := rfl
theorem lb_1 : ∀ j, j < 64 → lb 1 j = decide (j = 0) := by decide +kernel
theorem n_63 (a : Nat) : nI a &&& nI 63 = nI (a % 64) := fa_mask a 6
theorem nI_shr {a k : Nat} (ha : a < 2 ^ 31) (hk : k < 32) : shrI (nI a) (nI k) = nI (a / 2 ^ k) := pk_shrN ha _ k (s_l k hk)
/-- joins -/
def jn (o : Nat) (a b : Int64) : Int64 := if o = 0 then a &&& b else if o = 1 then a ||| b else if o = 2 then a ^^^ b else a &&& (b ^^^ (-1))
def jb (o : Nat) (a b : Bool) : Bool := if o = 0 then a && b else if o = 1 then a || b else if o = 2 then a ^^ b else a && !b
theorem lb_jn (o : Nat) (a b : Int64) {j : Nat} (hj : j < 64) : lb (jn o a b) j = jb o (lb a j) (lb b j) := by
  unfold jn jb
  by_cases h0 : o = 0
  · rw [if_pos h0, if_pos h0, lb_and]
  · by_cases h1 : o = 1
    · rw [if_neg h0, if_neg h0, if_pos h1, if_pos h1, lb_or]
    · by_cases h2 : o = 2
      · rw [if_neg h0, if_neg h0, if_neg h1, if_neg h1, if_pos h2, if_pos h2, lb_xor]
      · rw [if_neg h0, if_neg h0, if_neg h1, if_neg h1, if_neg h2, if_neg h2, lb_and, lb_not b hj]
theorem tab_out {x : Int32} (n : Nat) (hn : n < 2 ^ 31) (h : ∀ k, k ≤ n → ¬ x = nI k) : x.toInt < (0 : Int) ∨ (n : Int) < x.toInt := by
  by_cases h0 : x < 0
  · exact Or.inl (by rw [Int32.lt_iff_toInt_lt] at h0; exact h0)
  · obtain ⟨j, hj, rfl⟩ := nI_of h0
    rw [nI_toInt hj]
    rcases Nat.lt_or_ge n j with q | q
    · exact Or.inr (by omega)
    · exact absurd rfl (h j q)
/-- masks of the numbers from x to y in word k -/
def mlo (k : Nat) (x : Int32) : Int32 := if x < nI (64 * k) then nI (64 * k) else x
def mhi (k : Nat) (y : Int32) : Int32 := if nI (64 * k + 63) < y then nI (64 * k + 63) else y
def mk (k : Nat) (x y : Int32) : Int64 := if mlo k x ≤ mhi k y then shlL (-1) (mlo k x &&& nI 63) &&& ushrL (-1) (nI 63 - (mhi k y &&& nI 63)) else 0
def inr (x y : Int32) (j : Nat) : Bool := decide (x ≤ nI j ∧ nI j ≤ y)
theorem lb_mk {k j : Nat} (hk : k < 64) (hj : j < 64) (x y : Int32) : lb (mk k x y) j = inr x y (64 * k + j) := by
  have hx : x ≤ nI (64 * k + j) ↔ x.toInt ≤ ((64 * k + j : Nat) : Int) := by rw [Int32.le_iff_toInt_le, nI_toInt (by omega)]
  have hy : nI (64 * k + j) ≤ y ↔ ((64 * k + j : Nat) : Int) ≤ y.toInt := by rw [Int32.le_iff_toInt_le, nI_toInt (by omega)]
  have e1 : (x < nI (64 * k)) ↔ x.toInt < ((64 * k : Nat) : Int) := by rw [Int32.lt_iff_toInt_lt, nI_toInt (by omega)]
  have e2 : (nI (64 * k + 63) < y) ↔ ((64 * k + 63 : Nat) : Int) < y.toInt := by rw [Int32.lt_iff_toInt_lt, nI_toInt (by omega)]
  unfold inr
  by_cases hle : mlo k x ≤ mhi k y
  · have hlo0 : ¬ mlo k x < 0 := by
      unfold mlo
      split
      · exact nI_pos (by omega)
      · rename_i h
        rw [e1] at h
        rw [Int32.lt_iff_toInt_lt, Int32.toInt_zero]
        omega
    obtain ⟨a, ha, ea⟩ := nI_of hlo0
    have hhi0 : ¬ mhi k y < 0 := by
      rw [ea, Int32.le_iff_toInt_le, nI_toInt ha] at hle
      rw [Int32.lt_iff_toInt_lt, Int32.toInt_zero]
      omega
    obtain ⟨b, hb, eb⟩ := nI_of hhi0
    have ha2 : ((a : Int) = if x.toInt < ((64 * k : Nat) : Int) then ((64 * k : Nat) : Int) else x.toInt) := by
      have h := congrArg Int32.toInt ea
      rw [nI_toInt ha] at h
      unfold mlo at h
      by_cases q : x < nI (64 * k)
      · rw [if_pos q, nI_toInt (by omega)] at h
        rw [if_pos (e1.mp q)]
        omega
      · rw [if_neg q] at h
        rw [if_neg (fun z => q (e1.mpr z))]
        omega
    have hb2 : ((b : Int) = if ((64 * k + 63 : Nat) : Int) < y.toInt then ((64 * k + 63 : Nat) : Int) else y.toInt) := by
      have h := congrArg Int32.toInt eb
      rw [nI_toInt hb] at h
      unfold mhi at h
      by_cases q : nI (64 * k + 63) < y
      · rw [if_pos q, nI_toInt (by omega)] at h
        rw [if_pos (e2.mp q)]
        omega
      · rw [if_neg q] at h
        rw [if_neg (fun z => q (e2.mpr z))]
        omega
    have hab : a ≤ b := by
      rw [ea, eb, nI_leI ha hb] at hle
      exact hle
    have hak : 64 * k ≤ a := by split at ha2 <;> omega
    have hbk : b ≤ 64 * k + 63 := by split at hb2 <;> omega
    unfold mk
    rw [if_pos hle, ea, eb, n_63, n_63, pk_sub (by omega), lb_and, lb_shl _ (by omega) hj, lb_ushr _ (by omega)]
    rw [show decide (x ≤ nI (64 * k + j) ∧ nI (64 * k + j) ≤ y) = decide (a % 64 ≤ j ∧ 63 - b % 64 + j < 64) from decide_eq_decide.mpr (by
      rw [hx, hy]
      split at ha2 <;> split at hb2 <;> omega)]
    by_cases q1 : a % 64 ≤ j
    · by_cases q2 : 63 - b % 64 + j < 64
      · rw [lb_m1 _ (by omega), lb_m1 _ q2, decide_eq_true q1, decide_eq_true ⟨q1, q2⟩]; rfl
      · rw [lb_big (x := -1) (j := 63 - b % 64 + j) (by omega), Bool.and_false, decide_eq_false (fun z => q2 z.2)]
    · rw [decide_eq_false q1, Bool.false_and, Bool.false_and, decide_eq_false (fun z => q1 z.1)]
  · unfold mk
    rw [if_neg hle, lb_0]
    refine (decide_eq_false (fun z => hle ?_)).symm
    rw [hx, hy] at z
    rw [Int32.le_iff_toInt_le]
    unfold mlo mhi
    split <;> split <;> (try rw [nI_toInt (by omega)]) <;> (try rw [nI_toInt (by omega)]) <;> (rename_i q1 q2; (try rw [e1] at q1); (try rw [e2] at q2); (try omega))
/-- how many of a set are from x to y -/
def ctr (b : Nat → Bool) (x y : Int32) : Nat := ct (fun j => b j && inr x y j) 0 4096
/-- where runs begin, of the numbers from a on -/
def rsG (b : Nat → Bool) (a x : Nat) : Bool := b x && (decide (x = a) || !b (x - 1))
def hlt (b : Nat → Bool) (x : Int32) : Bool := decide (¬ x < 0 ∧ x < nI 4096) && b x.toNatClampNeg
theorem hlt_n (b : Nat → Bool) {j : Nat} (h : j < 4096) : hlt b (nI j) = b j := by
  unfold hlt
  rw [decide_eq_true ⟨nI_pos (by omega), (nI_ltI (by omega) (by omega)).mpr h⟩, nI_clamp (by omega), Bool.true_and]
/-- the n-th of them from x on, k places are looked at -/
def nthF (b : Nat → Bool) : Nat → Nat → Nat → Int32
  | 0, _, _ => -9
  | k + 1, x, n => if b x = true then (if n = 0 then nI x else nthF b k (x + 1) (n - 1)) else nthF b k (x + 1) n
def nthA (b : Nat → Bool) (i : Int32) : Int32 := if i < 0 then -9 else nthF b 4096 0 i.toNatClampNeg
theorem ct_1 (b : Nat → Bool) (x k : Nat) : ct b x (k + 1) = (if b x = true then 1 else 0) + ct b (x + 1) k := by
  rw [show k + 1 = 1 + k by omega, ct_add]
  congr 1
  show 0 + (if b (x + 0) = true then 1 else 0) = _
  rw [Nat.zero_add, Nat.add_zero]
theorem nthF_add (b : Nat → Bool) : ∀ (m k x n : Nat), nthF b (m + k) x n = if n < ct b x m then nthF b m x n else nthF b k (x + m) (n - ct b x m)
  | 0, k, x, n => by rw [ct_0, if_neg (by omega), Nat.zero_add, Nat.add_zero, Nat.sub_zero]
  | m + 1, k, x, n => by
    rw [show m + 1 + k = (m + k) + 1 by omega, ct_1]
    show (if b x = true then (if n = 0 then nI x else nthF b (m + k) (x + 1) (n - 1)) else nthF b (m + k) (x + 1) n) = if _ then (if b x = true then (if n = 0 then nI x else nthF b m (x + 1) (n - 1)) else nthF b m (x + 1) n) else _
    by_cases hb : b x = true
    · rw [if_pos hb, if_pos hb, if_pos hb]
      by_cases hn : n = 0
      · rw [if_pos hn, if_pos hn, if_pos (by omega)]
      · rw [if_neg hn, if_neg hn, nthF_add b m k (x + 1) (n - 1)]
        by_cases hc : n - 1 < ct b (x + 1) m
        · rw [if_pos hc, if_pos (by omega)]
        · rw [if_neg hc, if_neg (by omega), show x + 1 + m = x + (m + 1) by omega, show n - 1 - ct b (x + 1) m = n - (1 + ct b (x + 1) m) by omega]
    · rw [if_neg hb, if_neg hb, if_neg hb, nthF_add b m k (x + 1) n]
      by_cases hc : n < ct b (x + 1) m
      · rw [if_pos hc, if_pos (by omega)]
      · rw [if_neg hc, if_neg (by omega), show x + 1 + m = x + (m + 1) by omega, show n - ct b (x + 1) m = n - (0 + ct b (x + 1) m) by omega]
theorem nthF_shift {b c : Nat → Bool} {a : Nat} : ∀ (k x n : Nat), (∀ j, x ≤ j → j < x + k → c (a + j) = b j) → nthF b k x n = -9 ∧ nthF c k (a + x) n = -9 ∨ ∃ j, x ≤ j ∧ j < x + k ∧ nthF b k x n = nI j ∧ nthF c k (a + x) n = nI (a + j)
  | 0, x, n, _ => Or.inl ⟨rfl, rfl⟩
  | k + 1, x, n, h => by
    have ih := fun n => nthF_shift k (x + 1) n (fun j h1 h2 => h j (by omega) (by omega))
    have h0 := h x (Nat.le_refl _) (by omega)
    simp only [nthF, h0]
    by_cases hb : b x = true
    · by_cases hn : n = 0
      · exact Or.inr ⟨x, Nat.le_refl _, by omega, by simp [hb, hn], by simp [hb, hn]⟩
      · rcases ih (n - 1) with h1 | ⟨j, h1, h2, h3, h4⟩
        · exact Or.inl (by simp only [hb, hn, if_true, if_false]; exact h1)
        · exact Or.inr ⟨j, by omega, by omega, by simp only [hb, hn, if_true, if_false]; exact h3, by simp only [hb, hn, if_true, if_false]; exact h4⟩
    · rcases ih n with h1 | ⟨j, h1, h2, h3, h4⟩
      · exact Or.inl (by simp only [hb, if_false]; exact h1)
      · exact Or.inr ⟨j, by omega, by omega, by simp only [hb, if_false]; exact h3, by simp only [hb, if_false]; exact h4⟩
/-- in the first m places there are more than n: the search ends there -/
theorem nthF_in {b : Nat → Bool} : ∀ (k x n : Nat), n < ct b x k → ∃ j, x ≤ j ∧ j < x + k ∧ nthF b k x n = nI j
  | 0, x, n, h => by rw [ct_0] at h; omega
  | k + 1, x, n, h => by
    rw [ct_1] at h
    simp only [nthF]
    by_cases hb : b x = true
    · by_cases hn : n = 0
      · exact ⟨x, Nat.le_refl _, by omega, by simp [hb, hn]⟩
      · rw [if_pos hb] at h
        obtain ⟨j, h1, h2, h3⟩ := nthF_in (b := b) k (x + 1) (n - 1) (by omega)
        exact ⟨j, by omega, by omega, by simp only [hb, hn, if_true, if_false]; exact h3⟩
    · rw [if_neg hb] at h
      obtain ⟨j, h1, h2, h3⟩ := nthF_in (b := b) k (x + 1) n (by omega)
      exact ⟨j, by omega, by omega, by simp only [hb, if_false]; exact h3⟩
/-- kinds and bytes of a piece with n numbers in r runs -/
def kdN (n r : Nat) : Nat := if 2 + n ≤ 2 + 2 * r ∧ 2 + n ≤ 33 then 0 else if 2 + 2 * r ≤ 33 then 1 else 2
def kd (n r : Nat) : Int32 := if n = 0 then -9 else nI (kdN n r)
def cst (n r : Nat) : Nat := if n = 0 then 0 else if kdN n r = 0 then 2 + n else if kdN n r = 1 then 2 + 2 * r else 33
theorem kdN_lt (n r : Nat) : kdN n r < 3 := by unfold kdN; split; omega; split <;> omega
def pn (b : Nat → Bool) (k : Nat) : Nat := ct b (256 * k) 256
def pr (b : Nat → Bool) (k : Nat) : Nat := ct (rsG b (256 * k)) (256 * k) (256 * 1)
def pkd (b : Nat → Bool) (k : Nat) : Int32 := kd (pn b k) (pr b k)
def det (b : Nat → Bool) (k : Nat) (q : Int32) : Int32 := if q = nI 0 then pkd b k else if q = nI 1 then nI (pn b k) else if q = nI 2 then nI (pr b k) else if q = nI 3 then nI (cst (pn b k) (pr b k)) else -1
end
section
set_option maxHeartbeats 4000000 in
set_option maxRecDepth 100000 in
theorem k_J13_bitCount_95d88 (l : Launch) (D : va_G) (T : Nat → ClassId) (x : Int64) : Met l yJ13_bitCount_95d88 wsJ13_bitCount_95d88 ({ frames := 0, cells := 0, slots := 0, locals := 0 }) (va_Pc [.long x] (fun U => KS D T U ∧ True)) (vp_Si (fun r => r = (nI (pop x)))) 0 0 (fun _ => False) := by
  refine Met.ofW (cc := cJ13_bitCount_95d88) (maxL := 2) (ret := (some .int)) (by decide) rfl ?_
  intro pg ev s m args below meth c s₁ B hml hv
  obtain ⟨rfl, hK, hH⟩ := hv
  have hx := B.exec
  have hb := B.bytes
  have hr := B.returns
  have hts := atoms_spec (ws := wsJ13_bitCount_95d88) B.pre
  have hown : s.vm.findClass RJ13 = some m.cls := findClass_of_methodNamed B.named
  have hlocks := B.notSynchronized
  have hl := lv_entry ([.long x]) (n := 2) (Nat.le_of_ble_eq_true rfl)
  rw [lg_entry_eq]
  generalize (lg_sl ([.long x]) ++ List.replicate (2 - (lg_sl ([.long x])).length) Slot.unset).toArray = ls at hl ⊢
  have hl : lv_has ls 2 [(0, .long x)] := hl
  refine W_gen (fun Q hQ => ?_)
  refine lv_lload_n hx hb dJ13_bitCount_95d88_0 rfl (lv_at hl 0 rfl) ?_
  refine lv_lload_n hx hb dJ13_bitCount_95d88_1 rfl (lv_at hl 0 rfl) ?_
  refine lv_iconst (v := (nI 1)) hx hb dJ13_bitCount_95d88_2 (by decide) ?_
  refine lv_lushr (v := (ushrL x (nI 1))) hx hb dJ13_bitCount_95d88_3 rfl ?_
  refine lv_ldc2 hx hb hown (hts (.constantLong RJ13 314 (6148914691236517205)) (by decide +kernel)) dJ13_bitCount_95d88_4 ?_
  refine lv_land hx hb dJ13_bitCount_95d88_7 ?_
  refine lv_lsub hx hb dJ13_bitCount_95d88_8 ?_
  refine lv_topl (fun y_1 ey_1 => ?_)
  refine lv_lstore_n (lv' := [(0, .long y_1)]) hx hb dJ13_bitCount_95d88_9 rfl hl (by decide) rfl (fun ls hl => ?_)
  refine lv_lload_n hx hb dJ13_bitCount_95d88_10 rfl (lv_at hl 0 rfl) ?_
  refine lv_ldc2 hx hb hown (hts (.constantLong RJ13 316 (3689348814741910323)) (by decide +kernel)) dJ13_bitCount_95d88_11 ?_
  refine lv_land hx hb dJ13_bitCount_95d88_14 ?_
  refine lv_lload_n hx hb dJ13_bitCount_95d88_15 rfl (lv_at hl 0 rfl) ?_
  refine lv_iconst (v := (nI 2)) hx hb dJ13_bitCount_95d88_16 (by decide) ?_
  refine lv_lushr (v := (ushrL y_1 (nI 2))) hx hb dJ13_bitCount_95d88_17 rfl ?_
  refine lv_ldc2 hx hb hown (hts (.constantLong RJ13 316 (3689348814741910323)) (by decide +kernel)) dJ13_bitCount_95d88_18 ?_
  refine lv_land hx hb dJ13_bitCount_95d88_21 ?_
  refine lv_ladd hx hb dJ13_bitCount_95d88_22 ?_
  refine lv_topl (fun y_2 ey_2 => ?_)
  refine lv_lstore_n (lv' := [(0, .long y_2)]) hx hb dJ13_bitCount_95d88_23 rfl hl (by decide) rfl (fun ls hl => ?_)
  refine lv_lload_n hx hb dJ13_bitCount_95d88_24 rfl (lv_at hl 0 rfl) ?_
  refine lv_lload_n hx hb dJ13_bitCount_95d88_25 rfl (lv_at hl 0 rfl) ?_
  refine lv_iconst (v := (nI 4)) hx hb dJ13_bitCount_95d88_26 (by decide) ?_
  refine lv_lushr (v := (ushrL y_2 (nI 4))) hx hb dJ13_bitCount_95d88_27 rfl ?_
  refine lv_ladd hx hb dJ13_bitCount_95d88_28 ?_
  refine lv_ldc2 hx hb hown (hts (.constantLong RJ13 318 (1085102592571150095)) (by decide +kernel)) dJ13_bitCount_95d88_29 ?_
  refine lv_land hx hb dJ13_bitCount_95d88_32 ?_
  refine lv_topl (fun y_3 ey_3 => ?_)
  refine lv_lstore_n (lv' := [(0, .long y_3)]) hx hb dJ13_bitCount_95d88_33 rfl hl (by decide) rfl (fun ls hl => ?_)
  refine lv_lload_n hx hb dJ13_bitCount_95d88_34 rfl (lv_at hl 0 rfl) ?_
  refine lv_lload_n hx hb dJ13_bitCount_95d88_35 rfl (lv_at hl 0 rfl) ?_
  refine lv_bipush (v := (nI 8)) hx hb dJ13_bitCount_95d88_36 (by decide) ?_
  refine lv_lushr (v := (ushrL y_3 (nI 8))) hx hb dJ13_bitCount_95d88_38 rfl ?_
  refine lv_ladd hx hb dJ13_bitCount_95d88_39 ?_
  refine lv_topl (fun y_4 ey_4 => ?_)
  refine lv_lstore_n (lv' := [(0, .long y_4)]) hx hb dJ13_bitCount_95d88_40 rfl hl (by decide) rfl (fun ls hl => ?_)
  refine lv_lload_n hx hb dJ13_bitCount_95d88_41 rfl (lv_at hl 0 rfl) ?_
  refine lv_lload_n hx hb dJ13_bitCount_95d88_42 rfl (lv_at hl 0 rfl) ?_
  refine lv_bipush (v := (nI 16)) hx hb dJ13_bitCount_95d88_43 (by decide) ?_
  refine lv_lushr (v := (ushrL y_4 (nI 16))) hx hb dJ13_bitCount_95d88_45 rfl ?_
  refine lv_ladd hx hb dJ13_bitCount_95d88_46 ?_
  refine lv_topl (fun y_5 ey_5 => ?_)
  refine lv_lstore_n (lv' := [(0, .long y_5)]) hx hb dJ13_bitCount_95d88_47 rfl hl (by decide) rfl (fun ls hl => ?_)
  refine lv_lload_n hx hb dJ13_bitCount_95d88_48 rfl (lv_at hl 0 rfl) ?_
  refine lv_lload_n hx hb dJ13_bitCount_95d88_49 rfl (lv_at hl 0 rfl) ?_
  refine lv_bipush (v := (nI 32)) hx hb dJ13_bitCount_95d88_50 (by decide) ?_
  refine lv_lushr (v := (ushrL y_5 (nI 32))) hx hb dJ13_bitCount_95d88_52 rfl ?_
  refine lv_ladd hx hb dJ13_bitCount_95d88_53 ?_
  refine lv_topl (fun y_6 ey_6 => ?_)
  refine lv_lstore_n (lv' := [(0, .long y_6)]) hx hb dJ13_bitCount_95d88_54 rfl hl (by decide) rfl (fun ls hl => ?_)
  refine lv_lload_n hx hb dJ13_bitCount_95d88_55 rfl (lv_at hl 0 rfl) ?_
  refine lv_l2i (v := y_6.toInt32) hx hb dJ13_bitCount_95d88_56 rfl ?_
  refine lv_bipush (v := (nI 127)) hx hb dJ13_bitCount_95d88_57 (by decide) ?_
  refine lv_iand hx hb dJ13_bitCount_95d88_59 ?_
  subst hQ
  refine W.iret (v := (y_6.toInt32 &&& (nI 127))) hx hb hr (fun t ht hW => ⟨(y_6.toInt32 &&& (nI 127)), rfl, ?_, ht⟩) (fun q h => absurd h List.not_mem_nil) dJ13_bitCount_95d88_60
  exact pop_steps x _ _ _ _ _ _ ey_1 ey_2 ey_3 ey_4 ey_5 ey_6
set_option maxHeartbeats 4000000 in
set_option maxRecDepth 100000 in
theorem k_X3_isSet (l : Launch) (D : va_G) (T : Nat → ClassId) (x : Int32) : Met l yX3_isSet wsX3_isSet ({ frames := 0, cells := 0, slots := 0, locals := 0 }) (va_Pc [.int x] (fun U => KS D T U ∧ True)) (vp_Si (fun r => r = (b2i (decide (¬ x < 0 ∧ x < nI 6))))) 0 0 (fun _ => False) := by
  refine Met.ofW (cc := cX3_isSet) (maxL := 1) (ret := (some .boolean)) (by decide) rfl ?_
  intro pg ev s m args below meth c s₁ B hml hv
  obtain ⟨rfl, hK, hH⟩ := hv
  have hx := B.exec
  have hb := B.bytes
  have hr := B.returns
  have hts := atoms_spec (ws := wsX3_isSet) B.pre
  have hown : s.vm.findClass RX3 = some m.cls := findClass_of_methodNamed B.named
  have hlocks := B.notSynchronized
  have hl := lv_entry ([.int x]) (n := 1) (Nat.le_of_ble_eq_true rfl)
  rw [lg_entry_eq]
  generalize (lg_sl ([.int x]) ++ List.replicate (1 - (lg_sl ([.int x])).length) Slot.unset).toArray = ls at hl ⊢
  have hl : lv_has ls 1 [(0, .int x)] := hl
  refine W_gen (fun Q hQ => ?_)
  refine lv_iload_n hx hb dX3_isSet_0 rfl (lv_at hl 0 rfl) ?_
  refine lv_if_lt (tgt := 14) hx hb dX3_isSet_1 (by decide) (fun c_1 => ?_) (fun c_1 => ?_)
  · skip
    refine lv_iconst (v := (nI 0)) hx hb dX3_isSet_14 (by decide) ?_
    subst hQ
    refine W.zret (v := (nI 0)) hx hb hr nb0 (fun t ht hW => ⟨(nI 0), rfl, ?_, ht⟩) (fun q h => absurd h List.not_mem_nil) dX3_isSet_15
    first | exact r0 (decide_eq_false (fun z => z.1 c_1)) | exact r0 (decide_eq_false (fun z => Int32.not_le.mpr z.2 c_2))
  · skip
    refine lv_iload_n hx hb dX3_isSet_4 rfl (lv_at hl 0 rfl) ?_
    refine lv_bipush (v := (nI 6)) hx hb dX3_isSet_5 (by decide) ?_
    refine lv_icmp_ge (tgt := 14) hx hb dX3_isSet_7 (by decide) (fun c_2 => ?_) (fun c_2 => ?_)
    · skip
      refine lv_iconst (v := (nI 0)) hx hb dX3_isSet_14 (by decide) ?_
      subst hQ
      refine W.zret (v := (nI 0)) hx hb hr nb0 (fun t ht hW => ⟨(nI 0), rfl, ?_, ht⟩) (fun q h => absurd h List.not_mem_nil) dX3_isSet_15
      first | exact r0 (decide_eq_false (fun z => z.1 c_1)) | exact r0 (decide_eq_false (fun z => Int32.not_le.mpr z.2 c_2))
    · skip
      refine lv_iconst (v := (nI 1)) hx hb dX3_isSet_10 (by decide) ?_
      refine lv_goto (tgt := 15) hx hb dX3_isSet_11 (by decide) ?_
      subst hQ
      refine W.zret (v := (nI 1)) hx hb hr nb1 (fun t ht hW => ⟨(nI 1), rfl, ?_, ht⟩) (fun q h => absurd h List.not_mem_nil) dX3_isSet_15
      exact r1 (decide_eq_true ⟨c_1, Int32.not_le.mp c_2⟩)
set_option maxHeartbeats 4000000 in
set_option maxRecDepth 100000 in
theorem k_X3_isNumber (l : Launch) (D : va_G) (T : Nat → ClassId) (x : Int32) : Met l yX3_isNumber wsX3_isNumber ({ frames := 0, cells := 0, slots := 0, locals := 0 }) (va_Pc [.int x] (fun U => KS D T U ∧ True)) (vp_Si (fun r => r = (b2i (decide (¬ x < 0 ∧ x < nI 4096))))) 0 0 (fun _ => False) := by
  refine Met.ofW (cc := cX3_isNumber) (maxL := 1) (ret := (some .boolean)) (by decide) rfl ?_
  intro pg ev s m args below meth c s₁ B hml hv
  obtain ⟨rfl, hK, hH⟩ := hv
  have hx := B.exec
  have hb := B.bytes
  have hr := B.returns
  have hts := atoms_spec (ws := wsX3_isNumber) B.pre
  have hown : s.vm.findClass RX3 = some m.cls := findClass_of_methodNamed B.named
  have hlocks := B.notSynchronized
  have hl := lv_entry ([.int x]) (n := 1) (Nat.le_of_ble_eq_true rfl)
  rw [lg_entry_eq]
  generalize (lg_sl ([.int x]) ++ List.replicate (1 - (lg_sl ([.int x])).length) Slot.unset).toArray = ls at hl ⊢
  have hl : lv_has ls 1 [(0, .int x)] := hl
  refine W_gen (fun Q hQ => ?_)
  refine lv_iload_n hx hb dX3_isNumber_0 rfl (lv_at hl 0 rfl) ?_
  refine lv_if_lt (tgt := 15) hx hb dX3_isNumber_1 (by decide) (fun c_1 => ?_) (fun c_1 => ?_)
  · skip
    refine lv_iconst (v := (nI 0)) hx hb dX3_isNumber_15 (by decide) ?_
    subst hQ
    refine W.zret (v := (nI 0)) hx hb hr nb0 (fun t ht hW => ⟨(nI 0), rfl, ?_, ht⟩) (fun q h => absurd h List.not_mem_nil) dX3_isNumber_16
    first | exact r0 (decide_eq_false (fun z => z.1 c_1)) | exact r0 (decide_eq_false (fun z => Int32.not_le.mpr z.2 c_2))
  · skip
    refine lv_iload_n hx hb dX3_isNumber_4 rfl (lv_at hl 0 rfl) ?_
    refine lv_sipush (v := (nI 4096)) hx hb dX3_isNumber_5 (by decide) ?_
    refine lv_icmp_ge (tgt := 15) hx hb dX3_isNumber_8 (by decide) (fun c_2 => ?_) (fun c_2 => ?_)
    · skip
      refine lv_iconst (v := (nI 0)) hx hb dX3_isNumber_15 (by decide) ?_
      subst hQ
      refine W.zret (v := (nI 0)) hx hb hr nb0 (fun t ht hW => ⟨(nI 0), rfl, ?_, ht⟩) (fun q h => absurd h List.not_mem_nil) dX3_isNumber_16
      first | exact r0 (decide_eq_false (fun z => z.1 c_1)) | exact r0 (decide_eq_false (fun z => Int32.not_le.mpr z.2 c_2))
    · skip
      refine lv_iconst (v := (nI 1)) hx hb dX3_isNumber_11 (by decide) ?_
      refine lv_goto (tgt := 16) hx hb dX3_isNumber_12 (by decide) ?_
      subst hQ
      refine W.zret (v := (nI 1)) hx hb hr nb1 (fun t ht hW => ⟨(nI 1), rfl, ?_, ht⟩) (fun q h => absurd h List.not_mem_nil) dX3_isNumber_16
      exact r1 (decide_eq_true ⟨c_1, Int32.not_le.mp c_2⟩)
set_option maxHeartbeats 4000000 in
set_option maxRecDepth 100000 in
theorem k_X3_isKind (l : Launch) (D : va_G) (T : Nat → ClassId) (x : Int32) : Met l yX3_isKind wsX3_isKind ({ frames := 0, cells := 0, slots := 0, locals := 0 }) (va_Pc [.int x] (fun U => KS D T U ∧ True)) (vp_Si (fun r => r = (b2i (decide (¬ x < 0 ∧ x < nI 3))))) 0 0 (fun _ => False) := by
  refine Met.ofW (cc := cX3_isKind) (maxL := 1) (ret := (some .boolean)) (by decide) rfl ?_
  intro pg ev s m args below meth c s₁ B hml hv
  obtain ⟨rfl, hK, hH⟩ := hv
  have hx := B.exec
  have hb := B.bytes
  have hr := B.returns
  have hts := atoms_spec (ws := wsX3_isKind) B.pre
  have hown : s.vm.findClass RX3 = some m.cls := findClass_of_methodNamed B.named
  have hlocks := B.notSynchronized
  have hl := lv_entry ([.int x]) (n := 1) (Nat.le_of_ble_eq_true rfl)
  rw [lg_entry_eq]
  generalize (lg_sl ([.int x]) ++ List.replicate (1 - (lg_sl ([.int x])).length) Slot.unset).toArray = ls at hl ⊢
  have hl : lv_has ls 1 [(0, .int x)] := hl
  refine W_gen (fun Q hQ => ?_)
  refine lv_iload_n hx hb dX3_isKind_0 rfl (lv_at hl 0 rfl) ?_
  refine lv_if_lt (tgt := 13) hx hb dX3_isKind_1 (by decide) (fun c_1 => ?_) (fun c_1 => ?_)
  · skip
    refine lv_iconst (v := (nI 0)) hx hb dX3_isKind_13 (by decide) ?_
    subst hQ
    refine W.zret (v := (nI 0)) hx hb hr nb0 (fun t ht hW => ⟨(nI 0), rfl, ?_, ht⟩) (fun q h => absurd h List.not_mem_nil) dX3_isKind_14
    first | exact r0 (decide_eq_false (fun z => z.1 c_1)) | exact r0 (decide_eq_false (fun z => Int32.not_le.mpr z.2 c_2))
  · skip
    refine lv_iload_n hx hb dX3_isKind_4 rfl (lv_at hl 0 rfl) ?_
    refine lv_iconst (v := (nI 3)) hx hb dX3_isKind_5 (by decide) ?_
    refine lv_icmp_ge (tgt := 13) hx hb dX3_isKind_6 (by decide) (fun c_2 => ?_) (fun c_2 => ?_)
    · skip
      refine lv_iconst (v := (nI 0)) hx hb dX3_isKind_13 (by decide) ?_
      subst hQ
      refine W.zret (v := (nI 0)) hx hb hr nb0 (fun t ht hW => ⟨(nI 0), rfl, ?_, ht⟩) (fun q h => absurd h List.not_mem_nil) dX3_isKind_14
      first | exact r0 (decide_eq_false (fun z => z.1 c_1)) | exact r0 (decide_eq_false (fun z => Int32.not_le.mpr z.2 c_2))
    · skip
      refine lv_iconst (v := (nI 1)) hx hb dX3_isKind_9 (by decide) ?_
      refine lv_goto (tgt := 14) hx hb dX3_isKind_10 (by decide) ?_
      subst hQ
      refine W.zret (v := (nI 1)) hx hb hr nb1 (fun t ht hW => ⟨(nI 1), rfl, ?_, ht⟩) (fun q h => absurd h List.not_mem_nil) dX3_isKind_14
      exact r1 (decide_eq_true ⟨c_1, Int32.not_le.mp c_2⟩)
set_option maxHeartbeats 4000000 in
set_option maxRecDepth 100000 in
theorem k_X1_wordAt (l : Launch) (D : va_G) (T : Nat → ClassId) (h0 : Nat) (w0 : Nat) (f : Nat → Int64) (x : Int32) : Met l yX1_wordAt wsX1_wordAt ({ frames := 0, cells := 0, slots := 0, locals := 0 }) (va_Pc [.ref h0, .int x] (fun U => KS D T U ∧ Num D T U.heap h0 w0 f)) (vp_Sl (fun r => r = (wAt f x))) 0 0 (fun _ => False) := by
  refine Met.ofW (cc := cX1_wordAt) (maxL := 2) (ret := (some .long)) (by decide) rfl ?_
  intro pg ev s m args below meth c s₁ B hml hv
  obtain ⟨rfl, hK, hH⟩ := hv
  have hx := B.exec
  have hb := B.bytes
  have hr := B.returns
  have hts := atoms_spec (ws := wsX1_wordAt) B.pre
  have hown : s.vm.findClass RX1 = some m.cls := findClass_of_methodNamed B.named
  have hlocks := B.notSynchronized
  have in_wsX10 : ∀ w ∈ wsX10, w ∈ wsX1_wordAt := fun w h => List.mem_cons_of_mem _ (List.mem_append_right _ h)
  have hl := lv_entry ([.ref h0, .int x]) (n := 2) (Nat.le_of_ble_eq_true rfl)
  rw [lg_entry_eq]
  generalize (lg_sl ([.ref h0, .int x]) ++ List.replicate (2 - (lg_sl ([.ref h0, .int x])).length) Slot.unset).toArray = ls at hl ⊢
  have hl : lv_has ls 2 [(0, .ref h0), (1, .int x)] := hl
  refine W_gen (fun Q hQ => ?_)
  have hN := hH
  refine lv_iload_n hx hb dX1_wordAt_0 rfl (lv_at hl 1 rfl) ?_
  refine lv_if_lt (tgt := 19) hx hb dX1_wordAt_1 (by decide) (fun c_1 => ?_) (fun c_1 => ?_)
  · skip
    refine lv_lconst (v := 0) hx hb dX1_wordAt_19 rfl ?_
    subst hQ
    refine W.lret (v := 0) hx hb hr (fun t ht hW => ⟨0, rfl, ?_, ht⟩) (fun q h => absurd h List.not_mem_nil) dX1_wordAt_20
    first | exact (if_pos ⟨c_1, Int32.not_le.mp c_2⟩).symm | exact (wAt_neg f (Or.inl c_1)).symm | exact (wAt_neg f (Or.inr (Int32.not_lt.mpr c_2))).symm
  · skip
    refine lv_iload_n hx hb dX1_wordAt_4 rfl (lv_at hl 1 rfl) ?_
    refine lv_bipush (v := (nI 64)) hx hb dX1_wordAt_5 (by decide) ?_
    refine lv_icmp_ge (tgt := 19) hx hb dX1_wordAt_7 (by decide) (fun c_2 => ?_) (fun c_2 => ?_)
    · skip
      refine lv_lconst (v := 0) hx hb dX1_wordAt_19 rfl ?_
      subst hQ
      refine W.lret (v := 0) hx hb hr (fun t ht hW => ⟨0, rfl, ?_, ht⟩) (fun q h => absurd h List.not_mem_nil) dX1_wordAt_20
      first | exact (if_pos ⟨c_1, Int32.not_le.mp c_2⟩).symm | exact (wAt_neg f (Or.inl c_1)).symm | exact (wAt_neg f (Or.inr (Int32.not_lt.mpr c_2))).symm
    · skip
      refine lv_aload_n hx hb dX1_wordAt_10 rfl (lv_at hl 0 rfl) ?_
      refine r_get (C := RX1) (Tb := TX1) (N := 1) hx hb hts in_wsX10 hown hK (hN.1) rfl 0 (by decide) (hts (.fieldLink RX1 9 "PieceSets$Numbers" "words" "[J") (by decide +kernel)) rfl (v := .ref w0) rfl dX1_wordAt_11 ?_
      refine lv_iload_n hx hb dX1_wordAt_14 rfl (lv_at hl 1 rfl) ?_
      refine top_i (x' := (nI x.toNatClampNeg)) (nI_cl c_1) ?_
      refine r_lald hx hb hK (hN.2) (i := x.toNatClampNeg) (cl_lt (by decide) c_1 (Int32.not_le.mp c_2)) (by decide) dX1_wordAt_15 ?_
      refine lv_goto (tgt := 20) hx hb dX1_wordAt_16 (by decide) ?_
      subst hQ
      refine W.lret (v := (f x.toNatClampNeg)) hx hb hr (fun t ht hW => ⟨(f x.toNatClampNeg), rfl, ?_, ht⟩) (fun q h => absurd h List.not_mem_nil) dX1_wordAt_20
      first | exact (if_pos ⟨c_1, Int32.not_le.mp c_2⟩).symm | exact (wAt_neg f (Or.inl c_1)).symm | exact (wAt_neg f (Or.inr (Int32.not_lt.mpr c_2))).symm
set_option maxHeartbeats 4000000 in
set_option maxRecDepth 100000 in
theorem k_X1_countInPiece (l : Launch) (D : va_G) (T : Nat → ClassId) (h0 : Nat) (w0 : Nat) (f : Nat → Int64) (k : Nat) (hp : k < 16) : Met l yX1_countInPiece wsX1_countInPiece ({ frames := 1, cells := 0, slots := 0, locals := 21 }) (va_Pc [.ref h0, .int (nI k)] (fun U => KS D T U ∧ Num D T U.heap h0 w0 f)) (vp_Si (fun r => r = (nI (ct (bitL f) (256 * k) 256)))) 0 0 (fun _ => False) := by
  refine Met.ofW (cc := cX1_countInPiece) (maxL := 4) (ret := (some .int)) (by decide) rfl ?_
  intro pg ev s m args below meth c s₁ B hml hv
  obtain ⟨rfl, hK, hH⟩ := hv
  have hx := B.exec
  have hb := B.bytes
  have hr := B.returns
  have hts := atoms_spec (ws := wsX1_countInPiece) B.pre
  have hown : s.vm.findClass RX1 = some m.cls := findClass_of_methodNamed B.named
  have hlocks := B.notSynchronized
  have in_wsX10 : ∀ w ∈ wsX10, w ∈ wsX1_countInPiece := fun w h => List.mem_cons_of_mem _ (List.mem_append_right _ h)
  have hl := lv_entry ([.ref h0, .int (nI k)]) (n := 4) (Nat.le_of_ble_eq_true rfl)
  rw [lg_entry_eq]
  generalize (lg_sl ([.ref h0, .int (nI k)]) ++ List.replicate (4 - (lg_sl ([.ref h0, .int (nI k)])).length) Slot.unset).toArray = ls at hl ⊢
  have hl : lv_has ls 4 [(0, .ref h0), (1, .int (nI k))] := hl
  refine W_gen (fun Q hQ => ?_)
  have hN := hH
  refine lv_iconst (v := (nI 0)) hx hb dX1_countInPiece_0 (by decide) ?_
  refine lv_istore_n (lv' := [(2, .int (nI 0)), (0, .ref h0), (1, .int (nI k))]) hx hb dX1_countInPiece_1 rfl hl (by decide) rfl (fun ls hl => ?_)
  refine lv_iconst (v := (nI 0)) hx hb dX1_countInPiece_2 (by decide) ?_
  refine lv_istore_n (lv' := [(3, .int (nI 0)), (2, .int (nI 0)), (0, .ref h0), (1, .int (nI k))]) hx hb dX1_countInPiece_3 rfl hl (by decide) rfl (fun ls hl => ?_)
  have loop4 : ∀ (n : Nat) (i : Nat) (hi : i ≤ 4) (ls : Array Slot) (hl : lv_has ls 4 [(0, .ref h0), (1, .int (nI k)), (2, .int (nI (ct (bitL f) (256 * k) (64 * i)))), (3, .int (nI i))]) (hn : 4 - i < n), W pg l ev (headSpec wsX1_countInPiece ({ frames := 1, cells := 0, slots := 0, locals := 21 })).room s m ([.ref h0, .int (nI k)] : List Value).toArray below meth c s.heap [] 0 0 Q (F0 m 4 ls []) := by
    intro n
    induction n with
    | zero =>
      intro i hi ls hl hn
      exact absurd hn (Nat.not_lt_zero _)
    | succ n ih =>
      intro i hi ls hl hn
      have hc := ct_le (bitL f) (256 * k) (64 * i)
      refine lv_iload_n hx hb dX1_countInPiece_4 rfl (lv_at hl 3 rfl) ?_
      refine lv_iconst (v := (nI 4)) hx hb dX1_countInPiece_5 (by decide) ?_
      refine lv_icmp_ge (tgt := 30) hx hb dX1_countInPiece_6 (by decide) (fun c_1 => ?_) (fun c_1 => ?_)
      · skip
        have c_1 : 4 ≤ i := (nI_leI (a := 4) (b := i) (by omega) (by omega)).mp c_1
        refine lv_iload_n hx hb dX1_countInPiece_30 rfl (lv_at hl 2 rfl) ?_
        subst hQ
        refine W.iret (v := (nI (ct (bitL f) (256 * k) (64 * i)))) hx hb hr (fun t ht hW => ⟨(nI (ct (bitL f) (256 * k) (64 * i))), rfl, ?_, ht⟩) (fun q h => absurd h List.not_mem_nil) dX1_countInPiece_31
        rw [show 256 = 64 * i by omega]
      · skip
        have c_1 : ¬ (4 ≤ i) := fun z => c_1 ((nI_leI (a := 4) (b := i) (by omega) (by omega)).mpr z)
        refine lv_iload_n hx hb dX1_countInPiece_9 rfl (lv_at hl 2 rfl) ?_
        refine lv_aload_n hx hb dX1_countInPiece_10 rfl (lv_at hl 0 rfl) ?_
        refine lv_iconst (v := (nI 4)) hx hb dX1_countInPiece_11 (by decide) ?_
        refine lv_iload_n hx hb dX1_countInPiece_12 rfl (lv_at hl 1 rfl) ?_
        refine lv_imul hx hb dX1_countInPiece_13 ?_
        refine top_i (pk_mul 4 k) ?_
        refine lv_iload_n hx hb dX1_countInPiece_14 rfl (lv_at hl 3 rfl) ?_
        refine lv_iadd hx hb dX1_countInPiece_15 ?_
        refine top_i (nI_add (4 * k) i) ?_
        refine vp_callSl (va_Run.run (va_runV (As := [.int (nI ((4 * k) + i))]) (rest := [.int (nI (ct (bitL f) (256 * k) (64 * i)))]) ⟨hx, hb, hml, hown, hts⟩ (k_X1_wordAt l D T h0 w0 f (nI ((4 * k) + i)) ) (cwV 1 hts gX1_countInPiece_X1_wordAt rfl rfl rfl (by decide +kernel) ⟨Nat.le_of_ble_eq_true rfl, Nat.le_of_ble_eq_true rfl⟩) (pre_V (Φ := fun X => Num D T X h0 w0 f) hK (hN.1) rfl hN) rfl rfl hl.1 rfl (lv_room (Nat.le_of_ble_eq_true rfl)) dX1_countInPiece_16 ⟨Nat.le_of_ble_eq_true rfl, Nat.le_of_ble_eq_true rfl⟩)) (fun r_1 hr_1 => ?_)
        subst hr_1
        refine top_l (x' := (f (4 * k + i))) (wAt_n f (by omega)) ?_
        refine vp_callSi (va_Run.run (va_runS (As := [.long (f (4 * k + i))]) (rest := [.int (nI (ct (bitL f) (256 * k) (64 * i)))]) ⟨hx, hb, hml, hown, hts⟩ (k_J13_bitCount_95d88 l D T (f (4 * k + i)) ) (va_cwS 1 hts gX1_countInPiece_J13_bitCount_95d88 rfl rfl rfl (by decide +kernel) ⟨Nat.le_of_ble_eq_true rfl, Nat.le_of_ble_eq_true rfl⟩) (pre_S (Φ := fun X => True) hK trivial) rfl rfl hl.1 rfl (lv_room (Nat.le_of_ble_eq_true rfl)) dX1_countInPiece_19 ⟨Nat.le_of_ble_eq_true rfl, Nat.le_of_ble_eq_true rfl⟩)) (fun r_2 hr_2 => ?_)
        subst hr_2
        refine lv_iadd hx hb dX1_countInPiece_22 ?_
        refine top_i (nI_add (ct (bitL f) (256 * k) (64 * i)) (pop (f (4 * k + i)))) ?_
        refine lv_istore_n (lv' := [(2, .int (nI ((ct (bitL f) (256 * k) (64 * i)) + (pop (f (4 * k + i)))))), (0, .ref h0), (1, .int (nI k)), (3, .int (nI i))]) hx hb dX1_countInPiece_23 rfl hl (by decide) rfl (fun ls hl => ?_)
        refine lv_iinc (v := (nI (i + 1))) (lv' := [(3, .int (nI (i + 1))), (2, .int (nI ((ct (bitL f) (256 * k) (64 * i)) + (pop (f (4 * k + i)))))), (0, .ref h0), (1, .int (nI k))]) hx hb dX1_countInPiece_24 hl (k := 3) rfl (iinc_n i 1) (by decide) rfl (fun ls hl => ?_)
        refine lv_goto (tgt := 4) hx hb dX1_countInPiece_27 (by decide) ?_
        have hl := lv_sub hl (l' := [(0, .ref h0), (1, .int (nI k)), (2, .int (nI ((ct (bitL f) (256 * k) (64 * i)) + (pop (f (4 * k + i)))))), (3, .int (nI (i + 1)))]) [2, 3, 1, 0] rfl
        have q_1 : (nI ((ct (bitL f) (256 * k) (64 * i)) + (pop (f (4 * k + i))))) = (nI (ct (bitL f) (256 * k) (64 * (i + 1)))) := by rw [pop_ct, show 64 * (i + 1) = 64 * i + 64 by omega, ct_add, show 64 * (4 * k + i) = 256 * k + 64 * i by omega]
        have hl : lv_has ls 4 [(0, .ref h0), (1, .int (nI k)), (2, .int (nI (ct (bitL f) (256 * k) (64 * (i + 1))))), (3, .int (nI (i + 1)))] := by
          have h := hl
          rw [q_1] at h
          exact h
        exact ih (i + 1) (by omega) ls hl (by omega)
  have hl := lv_sub hl (l' := [(0, .ref h0), (1, .int (nI k)), (2, .int (nI 0)), (3, .int (nI 0))]) [2, 3, 1, 0] rfl
  have q_1 : (nI 0) = (nI (ct (bitL f) (256 * k) (64 * 0))) := rfl
  have hl : lv_has ls 4 [(0, .ref h0), (1, .int (nI k)), (2, .int (nI (ct (bitL f) (256 * k) (64 * 0)))), (3, .int (nI 0))] := by
    have h := hl
    rw [q_1] at h
    exact h
  exact loop4 (4 - 0 + 1) 0 (Nat.zero_le _) ls hl (Nat.lt_succ_self _)
set_option maxHeartbeats 4000000 in
set_option maxRecDepth 100000 in
theorem k_X1_join (l : Launch) (D : va_G) (T : Nat → ClassId) (o : Nat) (x : Int64) (y : Int64) (ho : o ≤ 3) : Met l yX1_join wsX1_join ({ frames := 0, cells := 0, slots := 0, locals := 0 }) (va_Pc [.int (nI o), .long x, .long y] (fun U => KS D T U ∧ True)) (vp_Sl (fun r => r = (jn o x y))) 0 0 (fun _ => False) := by
  refine Met.ofW (cc := cX1_join) (maxL := 5) (ret := (some .long)) (by decide) rfl ?_
  intro pg ev s m args below meth c s₁ B hml hv
  obtain ⟨rfl, hK, hH⟩ := hv
  have hx := B.exec
  have hb := B.bytes
  have hr := B.returns
  have hts := atoms_spec (ws := wsX1_join) B.pre
  have hown : s.vm.findClass RX1 = some m.cls := findClass_of_methodNamed B.named
  have hlocks := B.notSynchronized
  have hl := lv_entry ([.int (nI o), .long x, .long y]) (n := 5) (Nat.le_of_ble_eq_true rfl)
  rw [lg_entry_eq]
  generalize (lg_sl ([.int (nI o), .long x, .long y]) ++ List.replicate (5 - (lg_sl ([.int (nI o), .long x, .long y])).length) Slot.unset).toArray = ls at hl ⊢
  have hl : lv_has ls 5 [(0, .int (nI o)), (1, .long x), (3, .long y)] := hl
  refine W_gen (fun Q hQ => ?_)
  refine lv_iload_n hx hb dX1_join_0 rfl (lv_at hl 0 rfl) ?_
  by_cases c_1 : o = 0
  · skip
    refine top_i (x' := nI 0) (congrArg nI c_1) ?_
    refine lv_tableIn (tgt := 28) (off := 27) hx hb dX1_join_1 (by decide) (by decide) (by decide) (by decide) ?_
    refine lv_lload_n hx hb dX1_join_28 rfl (lv_at hl 1 rfl) ?_
    refine lv_lload_n hx hb dX1_join_29 rfl (lv_at hl 2 rfl) ?_
    refine lv_land hx hb dX1_join_30 ?_
    subst hQ
    refine W.lret (v := (x &&& y)) hx hb hr (fun t ht hW => ⟨(x &&& y), rfl, ?_, ht⟩) (fun q h => absurd h List.not_mem_nil) dX1_join_31
    exact (if_pos c_1).symm
  by_cases c_2 : o = 1
  · skip
    refine top_i (x' := nI 1) (congrArg nI c_2) ?_
    refine lv_tableIn (tgt := 32) (off := 31) hx hb dX1_join_1 (by decide) (by decide) (by decide) (by decide) ?_
    refine lv_lload_n hx hb dX1_join_32 rfl (lv_at hl 1 rfl) ?_
    refine lv_lload_n hx hb dX1_join_33 rfl (lv_at hl 2 rfl) ?_
    refine lv_lor hx hb dX1_join_34 ?_
    subst hQ
    refine W.lret (v := (x ||| y)) hx hb hr (fun t ht hW => ⟨(x ||| y), rfl, ?_, ht⟩) (fun q h => absurd h List.not_mem_nil) dX1_join_35
    exact ((if_neg c_1).trans (if_pos c_2)).symm
  by_cases c_3 : o = 2
  · skip
    refine top_i (x' := nI 2) (congrArg nI c_3) ?_
    refine lv_tableIn (tgt := 36) (off := 35) hx hb dX1_join_1 (by decide) (by decide) (by decide) (by decide) ?_
    refine lv_lload_n hx hb dX1_join_36 rfl (lv_at hl 1 rfl) ?_
    refine lv_lload_n hx hb dX1_join_37 rfl (lv_at hl 2 rfl) ?_
    refine lv_lxor hx hb dX1_join_38 ?_
    subst hQ
    refine W.lret (v := (x ^^^ y)) hx hb hr (fun t ht hW => ⟨(x ^^^ y), rfl, ?_, ht⟩) (fun q h => absurd h List.not_mem_nil) dX1_join_39
    exact ((if_neg c_1).trans ((if_neg c_2).trans (if_pos c_3))).symm
  refine lv_tableOut (tgt := 40) hx hb dX1_join_1 (by rw [nI_toInt (n := o) (by omega)]; omega) (by decide) ?_
  refine lv_lload_n hx hb dX1_join_40 rfl (lv_at hl 1 rfl) ?_
  refine lv_lload_n hx hb dX1_join_41 rfl (lv_at hl 2 rfl) ?_
  refine lv_ldc2 hx hb hown (hts (.constantLong RX1 31 (-1)) (by decide +kernel)) dX1_join_42 ?_
  refine lv_lxor hx hb dX1_join_45 ?_
  refine lv_land hx hb dX1_join_46 ?_
  subst hQ
  refine W.lret (v := (x &&& (y ^^^ (-1)))) hx hb hr (fun t ht hW => ⟨(x &&& (y ^^^ (-1))), rfl, ?_, ht⟩) (fun q h => absurd h List.not_mem_nil) dX1_join_47
  exact ((if_neg c_1).trans ((if_neg c_2).trans (if_neg c_3))).symm
set_option maxHeartbeats 4000000 in
set_option maxRecDepth 100000 in
theorem k_X1_mask (l : Launch) (D : va_G) (T : Nat → ClassId) (k : Nat) (x : Int32) (y : Int32) (hk : k < 64) : Met l yX1_mask wsX1_mask ({ frames := 1, cells := 0, slots := 0, locals := 40 }) (va_Pc [.int (nI k), .int x, .int y] (fun U => KS D T U ∧ True)) (vp_Sl (fun r => r = (mk k x y))) 0 0 (fun _ => False) := by
  refine Met.ofW (cc := cX1_mask) (maxL := 5) (ret := (some .long)) (by decide) rfl ?_
  intro pg ev s m args below meth c s₁ B hml hv
  obtain ⟨rfl, hK, hH⟩ := hv
  have hx := B.exec
  have hb := B.bytes
  have hr := B.returns
  have hts := atoms_spec (ws := wsX1_mask) B.pre
  have hown : s.vm.findClass RX1 = some m.cls := findClass_of_methodNamed B.named
  have hlocks := B.notSynchronized
  have hl := lv_entry ([.int (nI k), .int x, .int y]) (n := 5) (Nat.le_of_ble_eq_true rfl)
  rw [lg_entry_eq]
  generalize (lg_sl ([.int (nI k), .int x, .int y]) ++ List.replicate (5 - (lg_sl ([.int (nI k), .int x, .int y])).length) Slot.unset).toArray = ls at hl ⊢
  have hl : lv_has ls 5 [(0, .int (nI k)), (1, .int x), (2, .int y)] := hl
  refine W_gen (fun Q hQ => ?_)
  refine lv_iload_n hx hb dX1_mask_0 rfl (lv_at hl 1 rfl) ?_
  refine lv_bipush (v := (nI 64)) hx hb dX1_mask_1 (by decide) ?_
  refine lv_iload_n hx hb dX1_mask_3 rfl (lv_at hl 0 rfl) ?_
  refine lv_imul hx hb dX1_mask_4 ?_
  refine top_i (pk_mul 64 k) ?_
  refine va_mmax hx hb (hml.trans hl.1.symm) hown (hts (.methodLink RX1 45 Lib.Math.max.name) (by decide +kernel)) (hts (.static Lib.Math.max.name) (by decide +kernel)) (hts (.initialized "java/lang/Math") (by decide +kernel)) (hts (.code Lib.Math.max.name Lib.Math.max.code 2 (some .int)) (by decide +kernel)) (Nat.le_of_ble_eq_true rfl) (Nat.le_of_ble_eq_true rfl) (Nat.le_of_ble_eq_true rfl) (Nat.le_of_ble_eq_true rfl) dX1_mask_5 ?_
  refine lv_topi (fun y_1 ey_1 => ?_)
  refine lv_istore_n (lv' := [(3, .int y_1), (0, .int (nI k)), (1, .int x), (2, .int y)]) hx hb dX1_mask_8 rfl hl (by decide) rfl (fun ls hl => ?_)
  refine lv_iload_n hx hb dX1_mask_9 rfl (lv_at hl 3 rfl) ?_
  refine lv_bipush (v := (nI 64)) hx hb dX1_mask_10 (by decide) ?_
  refine lv_iload_n hx hb dX1_mask_12 rfl (lv_at hl 1 rfl) ?_
  refine lv_imul hx hb dX1_mask_13 ?_
  refine top_i (pk_mul 64 k) ?_
  refine lv_bipush (v := (nI 63)) hx hb dX1_mask_14 (by decide) ?_
  refine lv_iadd hx hb dX1_mask_16 ?_
  refine top_i (nI_add (64 * k) 63) ?_
  refine va_mmin hx hb (hml.trans hl.1.symm) hown (hts (.methodLink RX1 51 Lib.Math.min.name) (by decide +kernel)) (hts (.static Lib.Math.min.name) (by decide +kernel)) (hts (.initialized "java/lang/Math") (by decide +kernel)) (hts (.code Lib.Math.min.name Lib.Math.min.code 2 (some .int)) (by decide +kernel)) (Nat.le_of_ble_eq_true rfl) (Nat.le_of_ble_eq_true rfl) (Nat.le_of_ble_eq_true rfl) (Nat.le_of_ble_eq_true rfl) dX1_mask_17 ?_
  refine lv_topi (fun y_2 ey_2 => ?_)
  refine lv_istore (lv' := [(4, .int y_2), (3, .int y_1), (0, .int (nI k)), (1, .int x), (2, .int y)]) hx hb dX1_mask_20 hl (by decide) rfl (fun ls hl => ?_)
  refine lv_iload_n hx hb dX1_mask_22 rfl (lv_at hl 1 rfl) ?_
  refine lv_iload hx hb dX1_mask_23 (lv_at hl 0 rfl) ?_
  refine lv_icmp_le (tgt := 30) hx hb dX1_mask_25 (by decide) (fun c_1 => ?_) (fun c_1 => ?_)
  · skip
    refine lv_ldc2 hx hb hown (hts (.constantLong RX1 31 (-1)) (by decide +kernel)) dX1_mask_30 ?_
    refine lv_iload_n hx hb dX1_mask_33 rfl (lv_at hl 1 rfl) ?_
    refine lv_bipush (v := (nI 63)) hx hb dX1_mask_34 (by decide) ?_
    refine lv_iand hx hb dX1_mask_36 ?_
    refine lv_lshl (v := (shlL (-1) (y_1 &&& (nI 63)))) hx hb dX1_mask_37 rfl ?_
    refine lv_ldc2 hx hb hown (hts (.constantLong RX1 31 (-1)) (by decide +kernel)) dX1_mask_38 ?_
    refine lv_bipush (v := (nI 63)) hx hb dX1_mask_41 (by decide) ?_
    refine lv_iload hx hb dX1_mask_43 (lv_at hl 0 rfl) ?_
    refine lv_bipush (v := (nI 63)) hx hb dX1_mask_45 (by decide) ?_
    refine lv_iand hx hb dX1_mask_47 ?_
    refine lv_isub hx hb dX1_mask_48 ?_
    refine lv_lushr (v := (ushrL (-1) ((nI 63) - (y_2 &&& (nI 63))))) hx hb dX1_mask_49 rfl ?_
    refine lv_land hx hb dX1_mask_50 ?_
    subst hQ
    refine W.lret (v := ((shlL (-1) (y_1 &&& (nI 63))) &&& (ushrL (-1) ((nI 63) - (y_2 &&& (nI 63)))))) hx hb hr (fun t ht hW => ⟨((shlL (-1) (y_1 &&& (nI 63))) &&& (ushrL (-1) ((nI 63) - (y_2 &&& (nI 63))))), rfl, ?_, ht⟩) (fun q h => absurd h List.not_mem_nil) dX1_mask_51
    rw [ey_1, ey_2] at c_1 ⊢
    exact (if_pos c_1).symm
  · skip
    refine lv_lconst (v := 0) hx hb dX1_mask_28 rfl ?_
    subst hQ
    refine W.lret (v := 0) hx hb hr (fun t ht hW => ⟨0, rfl, ?_, ht⟩) (fun q h => absurd h List.not_mem_nil) dX1_mask_29
    exact (if_neg (fun z => c_1 (by rw [ey_1, ey_2]; exact z))).symm
end
section
/-! what the writers and readers of an object of Numbers do to its bits -/
def stepJ (F f : Nat → Int64) (k : Nat) : Nat → Int64 := fun j => if j < k then F j else f j
theorem stepJ_0 (F f : Nat → Int64) (j : Nat) : stepJ F f 0 j = f j := if_neg (Nat.not_lt_zero _)
theorem stepJ_at (F f : Nat → Int64) (k : Nat) : stepJ F f k k = f k := if_neg (Nat.lt_irrefl _)
theorem stepJ_upd {F f : Nat → Int64} {k : Nat} {v : Int64} (h : v = F k) (n : Nat) : ∀ j, j < n → vp_updL (stepJ F f k) k v j = stepJ F f (k + 1) j := fun j _ => by
  unfold vp_updL stepJ
  by_cases h1 : j = k
  · subst h1; rw [if_pos rfl, if_pos (by omega), h]
  · rw [if_neg h1]
    by_cases h2 : j < k
    · rw [if_pos h2, if_pos (by omega)]
    · rw [if_neg h2, if_neg (by omega)]
theorem stepJ_end {F f : Nat → Int64} {n : Nat} : ∀ j, j < n → stepJ F f n j = F j := fun j h => if_pos h
theorem Num.keep {D : va_G} {T : Nat → ClassId} {H H1 : Heap} {o w o' w' : Nat} {f g : Nat → Int64} (h : Num D T H o w f) (h' : Num D T H o' w' g) (hne : w ≠ w') (oq : ∀ q, q ≠ w' → H1[q]? = H[q]?) : Num D T H1 o w f :=
  h.kept (oq _ (ne_oJ (q := (RX1, TX1, 1)) rfl (by decide) h.1 h'.2)) (oq _ hne)
theorem bit_incl (f : Nat → Int64) {x : Nat} (hx : x < 4096) (y : Nat) (hy : y < 4096) : bitL (vp_updL f (x / 64) (f (x / 64) ||| shlL 1 (nI (x % 64)))) y = (bitL f y || decide (y = x)) := by
  rw [bitL_dm, bitL_dm]
  by_cases h : y / 64 = x / 64
  · rw [h, pk_uLs, lb_or, lb_shl _ (by omega) (by omega)]
    congr 1
    by_cases h2 : x % 64 ≤ y % 64
    · rw [decide_eq_true h2, Bool.true_and, lb_1 _ (by omega)]
      exact decide_eq_decide.mpr (by omega)
    · rw [decide_eq_false h2, Bool.false_and]
      exact (decide_eq_false (by omega)).symm
  · rw [pk_uLn h, decide_eq_false (by intro z; subst z; exact h rfl), Bool.or_false]
theorem bit_all {f : Nat → Int64} {G : Nat → Int64} {t : Bool → Bool → Bool} {x y : Int32} (h : ∀ k, k < 64 → ∀ j, j < 64 → lb (G k) j = t (lb (f k) j) (lb (mk k x y) j)) (q : Nat) (hq : q < 4096) : bitL G q = t (bitL f q) (inr x y q) := by
  have e := h (q / 64) (by omega) (q % 64) (by omega)
  rw [lb_mk (by omega) (by omega), show 64 * (q / 64) + q % 64 = q by omega] at e
  exact e
theorem pop_mk (f : Nat → Int64) (x y : Int32) {k : Nat} (hk : k < 64) : pop (f k &&& mk k x y) = ct (fun j => bitL f j && inr x y j) (64 * k) 64 := by
  refine fb_ct_cong (fun j hj => ?_)
  show lb (f k &&& mk k x y) j = (bitL f (64 * k + j) && inr x y (64 * k + j))
  rw [lb_and, lb_mk hk hj, bitL_lb f k hj]
def cy (f : Nat → Int64) (a i : Nat) : Int64 := if i = 0 then 0 else ushrL (f (a + i - 1)) (nI 63)
theorem cy_0 (f : Nat → Int64) (a : Nat) : 0 = cy f a 0 := (if_pos rfl).symm
theorem cy_s (f : Nat → Int64) (a i : Nat) : ushrL (f (a + i)) (nI 63) = cy f a (i + 1) := by
  unfold cy
  rw [if_neg (by omega), show a + (i + 1) - 1 = a + i by omega]
theorem pop_runs (f : Nat → Int64) (a i : Nat) : pop (f (a + i) &&& ((shlL (f (a + i)) (nI 1) ||| cy f a i) ^^^ (-1))) = ct (rsG (bitL f) (64 * a)) (64 * a + 64 * i) 64 := by
  refine fb_ct_cong (fun j hj => ?_)
  show lb (f (a + i) &&& ((shlL (f (a + i)) (nI 1) ||| cy f a i) ^^^ (-1))) j = rsG (bitL f) (64 * a) (64 * a + 64 * i + j)
  unfold rsG
  rw [lb_and, lb_not _ hj, lb_or, lb_shl _ (by omega) hj, show 64 * a + 64 * i + j = 64 * (a + i) + j by omega, bitL_lb f _ hj]
  congr 1
  by_cases h0 : j = 0
  · subst h0
    rw [decide_eq_false (by omega), Bool.false_and, Bool.false_or]
    unfold cy
    by_cases hi : i = 0
    · subst hi
      rw [if_pos rfl, lb_0, decide_eq_true (by omega)]; rfl
    · rw [if_neg hi, lb_ushr _ (by omega), decide_eq_false (by omega), Bool.false_or, show 64 * (a + i) + 0 - 1 = 64 * (a + i - 1) + 63 by omega, bitL_lb f _ (by omega)]
  · have hc : lb (cy f a i) j = false := by
      unfold cy
      by_cases hi : i = 0
      · rw [if_pos hi, lb_0]
      · rw [if_neg hi, lb_ushr _ (by omega), lb_big (by omega)]
    rw [hc, decide_eq_true (by omega), Bool.true_and, Bool.or_false, decide_eq_false (by omega), Bool.false_or, show 64 * (a + i) + j - 1 = 64 * (a + i) + (j - 1) by omega, bitL_lb f _ (by omega)]
theorem lcmp_bit (w : Int64) {j : Nat} (hj : j < 64) : lg_cmp (ushrL w (nI j) &&& 1) 0 = b2i (lb w j) := by
  have e : ushrL w (nI j) &&& 1 = if lb w j = true then 1 else 0 := by
    refine lb_ext (fun i hi => ?_)
    rw [lb_and, lb_ushr _ hj, lb_1 i hi]
    by_cases h : i = 0
    · subst h
      rw [Nat.add_zero]
      cases lb w j <;> decide +kernel
    · rw [decide_eq_false h, Bool.and_false]
      split
      · rw [lb_1 i hi, decide_eq_false h]
      · rw [lb_0]
  rw [e]
  cases lb w j <;> decide +kernel
theorem cl_b (x : Int32) : x.toNatClampNeg < 2 ^ 31 := by
  have := x.toInt_lt
  unfold Int32.toNatClampNeg
  omega
theorem kd_0 {n r : Nat} (h : n = 0) : kd n r = -9 := if_pos h
theorem kd_a {n r : Nat} (h : ¬ n = 0) (h1 : ¬ 2 + 2 * r < 2 + n) (h2 : ¬ 33 < 2 + n) : kd n r = nI 0 := by
  unfold kd kdN
  rw [if_neg h, if_pos ⟨by omega, by omega⟩]
theorem kd_r {n r : Nat} (h : ¬ n = 0) (h1 : 2 + 2 * r < 2 + n ∨ 33 < 2 + n) (h2 : ¬ 33 < 2 + 2 * r) : kd n r = nI 1 := by
  unfold kd kdN
  rw [if_neg h, if_neg (by omega), if_pos (by omega)]
theorem kd_b {n r : Nat} (h : ¬ n = 0) (h1 : 2 + 2 * r < 2 + n ∨ 33 < 2 + n) (h2 : 33 < 2 + 2 * r) : kd n r = nI 2 := by
  unfold kd kdN
  rw [if_neg h, if_neg (by omega), if_neg (by omega)]
theorem kd_inv (n r : Nat) : (n = 0 ∧ kd n r = -9) ∨ (n ≠ 0 ∧ kdN n r = 0 ∧ kd n r = nI 0) ∨ (n ≠ 0 ∧ kdN n r = 1 ∧ kd n r = nI 1) ∨ (n ≠ 0 ∧ kdN n r = 2 ∧ kd n r = nI 2) := by
  by_cases h : n = 0
  · exact Or.inl ⟨h, kd_0 h⟩
  · have h3 := kdN_lt n r
    rcases (show kdN n r = 0 ∨ kdN n r = 1 ∨ kdN n r = 2 by omega) with e | e | e
    · exact Or.inr (Or.inl ⟨h, e, by unfold kd; rw [if_neg h, e]⟩)
    · exact Or.inr (Or.inr (Or.inl ⟨h, e, by unfold kd; rw [if_neg h, e]⟩))
    · exact Or.inr (Or.inr (Or.inr ⟨h, e, by unfold kd; rw [if_neg h, e]⟩))
theorem cst_0 {n r : Nat} (h : kd n r = nI 0) : cst n r = 2 + n := by
  rcases kd_inv n r with ⟨h1, h2⟩ | ⟨h1, h2, h3⟩ | ⟨h1, h2, h3⟩ | ⟨h1, h2, h3⟩
  · rw [h2] at h; exact absurd h (by decide)
  · unfold cst; rw [if_neg h1, if_pos h2]
  · rw [h3] at h; exact absurd h (by decide)
  · rw [h3] at h; exact absurd h (by decide)
theorem cst_1 {n r : Nat} (h : kd n r = nI 1) : cst n r = 2 + 2 * r := by
  rcases kd_inv n r with ⟨h1, h2⟩ | ⟨h1, h2, h3⟩ | ⟨h1, h2, h3⟩ | ⟨h1, h2, h3⟩
  · rw [h2] at h; exact absurd h (by decide)
  · rw [h3] at h; exact absurd h (by decide)
  · unfold cst; rw [if_neg h1, if_neg (by omega), if_pos h2]
  · rw [h3] at h; exact absurd h (by decide)
theorem cst_2 {n r : Nat} (h : kd n r = nI 2) : cst n r = 33 := by
  rcases kd_inv n r with ⟨h1, h2⟩ | ⟨h1, h2, h3⟩ | ⟨h1, h2, h3⟩ | ⟨h1, h2, h3⟩
  · rw [h2] at h; exact absurd h (by decide)
  · rw [h3] at h; exact absurd h (by decide)
  · rw [h3] at h; exact absurd h (by decide)
  · unfold cst; rw [if_neg h1, if_neg (by omega), if_neg (by omega)]
theorem cst_n {n r : Nat} (h0 : ¬ kd n r = nI 0) (h1 : ¬ kd n r = nI 1) (h2 : ¬ kd n r = nI 2) : cst n r = 0 := by
  rcases kd_inv n r with ⟨e, -⟩ | ⟨-, -, e⟩ | ⟨-, -, e⟩ | ⟨-, -, e⟩
  · unfold cst; rw [if_pos e]
  · exact absurd e h0
  · exact absurd e h1
  · exact absurd e h2
/-- a set moved -/
def bz (b : Nat → Bool) (X : Int) : Bool := decide (0 ≤ X ∧ X < 4096) && b X.toNat
theorem lb_wAt (f : Nat → Int64) (q : Int32) {i : Nat} (hi : i < 64) : lb (wAt f q) i = bz (bitL f) (64 * q.toInt + i) := by
  unfold wAt bz
  by_cases h : ¬ q < 0 ∧ q < nI 64
  · rw [if_pos h]
    obtain ⟨j, hj, rfl⟩ := nI_of h.1
    have h2 : j < 64 := (nI_ltI hj (by decide)).mp h.2
    rw [nI_clamp hj, nI_toInt hj, decide_eq_true (by omega), Bool.true_and, show (64 * (j : Int) + (i : Int)).toNat = 64 * j + i by omega, bitL_lb f j hi]
  · rw [if_neg h, lb_0, decide_eq_false, Bool.false_and]
    intro z
    refine h ⟨fun z2 => ?_, ?_⟩
    · rw [Int32.lt_iff_toInt_lt, Int32.toInt_zero] at z2
      omega
    · rw [Int32.lt_iff_toInt_lt, nI_toInt (by decide)]
      omega
theorem shr6 (x : Int32) : (shrI x (nI 6)).toInt = x.toInt / 64 := by
  have h := pk_shr x (nI 6 &&& 31) 6 (s_l 6 (by decide))
  show (x >>> (nI 6 &&& 31)).toInt = _
  rw [h, Int.shiftRight_eq_div_pow]
  rfl
theorem and63 (x : Int32) : x &&& nI 63 = nI (x.toInt % 64).toNat := by
  rw [pk_and x 6 (by decide +kernel)]
  congr 1
  have h : x.toInt = x.toBitVec.toInt := rfl
  rw [h, BitVec.toInt_eq_toNat_cond]
  have := x.toBitVec.isLt
  split <;> omega
/-- a word of the set moved by y, from the words that it lies in -/
theorem moved_word (f : Nat → Int64) (x : Int32) (hx : -100000 ≤ x.toInt ∧ x.toInt ≤ 100000) {a : Nat} (ha : x &&& nI 63 = nI a) (ha64 : a < 64) {hi : Int64} (hh : hi = if a = 0 then 0 else shlL (wAt f (shrI x (nI 6) + nI 1)) (nI (64 - a))) {j : Nat} (hj : j < 64) : lb (ushrL (wAt f (shrI x (nI 6))) (nI a) ||| hi) j = bz (bitL f) (x.toInt + j) := by
  have e := and63 x
  rw [ha, nI_eq (by omega) (by omega)] at e
  have hq := shr6 x
  have hS : x.toInt = 64 * (x.toInt / 64) + (a : Int) := by omega
  have hq1 : (shrI x (nI 6) + nI 1).toInt = x.toInt / 64 + 1 := by
    rw [Int32.toInt_add, hq, nI_toInt (by decide)]
    exact Int.bmod_eq_of_le (by omega) (by omega)
  rw [lb_or, lb_ushr _ ha64, hh]
  rcases Nat.lt_or_ge (a + j) 64 with h | h
  · rw [lb_wAt f _ h, hq]
    have hz : lb (if a = 0 then 0 else shlL (wAt f (shrI x (nI 6) + nI 1)) (nI (64 - a))) j = false := by
      split
      · exact lb_0 _
      · rw [lb_shl _ (by omega) hj, decide_eq_false (by omega), Bool.false_and]
    rw [hz, Bool.or_false]
    congr 1
    omega
  · rw [lb_big h, Bool.false_or, if_neg (by omega), lb_shl _ (by omega) hj, decide_eq_true (by omega), Bool.true_and, lb_wAt f _ (by omega), hq1]
    congr 1
    omega
theorem nthF_s (b : Nat → Bool) (k x n : Nat) : nthF b (k + 1) x n = if b x = true then (if n = 0 then nI x else nthF b k (x + 1) (n - 1)) else nthF b k (x + 1) n := rfl
theorem nI_ne9 {y : Nat} (h : y < 2 ^ 31) : ¬ nI y = -9 := fun z => by
  have h1 := congrArg Int32.toInt z
  rw [nI_toInt h, show (-9 : Int32).toInt = -9 by decide] at h1
  omega
theorem nth_word (f : Nat → Int64) {j q : Nat} (hj : j < 64) (h : q < pop (f j)) : nI (64 * j) + nthF (lb (f j)) 64 0 q = nthF (bitL f) 64 (64 * j) q := by
  rw [pop_ct] at h
  obtain ⟨y, -, hy, he⟩ := nthF_in (b := bitL f) 64 (64 * j) q h
  rcases nthF_shift (b := lb (f j)) (c := bitL f) (a := 64 * j) 64 0 q (fun z _ hz => bitL_lb f j (by omega)) with ⟨g1, g2⟩ | ⟨z, -, -, g1, g2⟩
  · rw [Nat.add_zero, he] at g2
    exact absurd g2 (nI_ne9 (by omega))
  · rw [Nat.add_zero] at g2
    rw [g1, g2, nI_add]
end
section
set_option maxHeartbeats 4000000 in
set_option maxRecDepth 100000 in
theorem k_X1_include (l : Launch) (D : va_G) (T : Nat → ClassId) (h0 : Nat) (w0 : Nat) (f : Nat → Int64) (x : Nat) (hx1 : x < 4096) : Met l yX1_include wsX1_include ({ frames := 1, cells := 0, slots := 0, locals := 20 }) (va_Pc [.ref h0, .int (nI x)] (fun U => KS D T U ∧ Num D T U.heap h0 w0 f)) (va_Qv (fun (u : Nat → Int64) => ∀ y, y < 4096 → bitL u y = (bitL f y || decide (y = x))) (fun u t => Num D T t.heap h0 w0 u) (fun q => q = w0)) 0 0 (fun q => q = w0) := by
  refine Met.ofW (cc := cX1_include) (maxL := 2) (ret := none) (by decide) rfl ?_
  intro pg ev s m args below meth c s₁ B hml hv
  obtain ⟨rfl, hK, hH⟩ := hv
  have hx := B.exec
  have hb := B.bytes
  have hr := B.returns
  have hts := atoms_spec (ws := wsX1_include) B.pre
  have hown : s.vm.findClass RX1 = some m.cls := findClass_of_methodNamed B.named
  have hlocks := B.notSynchronized
  have in_wsX10 : ∀ w ∈ wsX10, w ∈ wsX1_include := fun w h => List.mem_cons_of_mem _ (List.mem_append_right _ h)
  have hS : va_S (fun q => q = w0) s.heap s.heap [] := va_S.rf
  have hl := lv_entry ([.ref h0, .int (nI x)]) (n := 2) (Nat.le_of_ble_eq_true rfl)
  rw [lg_entry_eq]
  generalize (lg_sl ([.ref h0, .int (nI x)]) ++ List.replicate (2 - (lg_sl ([.ref h0, .int (nI x)])).length) Slot.unset).toArray = ls at hl ⊢
  have hl : lv_has ls 2 [(0, .ref h0), (1, .int (nI x))] := hl
  refine W_gen (fun Q hQ => ?_)
  have hN := hH
  refine lv_iload_n hx hb dX1_include_0 rfl (lv_at hl 1 rfl) ?_
  refine vp_callSi (va_Run.run (va_runSN (As := [.int (nI x)]) (rest := []) ⟨hx, hb, hml, hown, hts⟩ (k_X3_isNumber l D T (nI x) ) (⟨va_cnB 1 hts ggX1_include_X3_isNumber rfl rfl rfl (hK.2.m (args := ([.ref h0, .int (nI x)] : List Value).toArray) 20 rfl) (hts (.initialized RX3) (by decide +kernel)) (by decide +kernel) ⟨Nat.le_of_ble_eq_true rfl, Nat.le_of_ble_eq_true rfl⟩, hts (.static yX3_isNumber) (by decide +kernel), trivial⟩) (pre_S (Φ := fun X => True) hK trivial) rfl rfl hl.1 rfl (lv_room (Nat.le_of_ble_eq_true rfl)) dX1_include_1 ⟨Nat.le_of_ble_eq_true rfl, Nat.le_of_ble_eq_true rfl⟩)) (fun r_1 hr_1 => ?_)
  subst hr_1
  refine lv_if_eq (tgt := 25) hx hb dX1_include_4 (by decide) (fun c_1 => ?_) (fun c_1 => ?_)
  · skip
    have c_1 : (decide (¬ (nI x) < 0 ∧ (nI x) < nI 4096)) = false := b2i_0.mp c_1
    have c_1 : ¬ (¬ (nI x) < 0 ∧ (nI x) < nI 4096) := of_decide_eq_false c_1
    exact absurd ⟨nI_pos (by omega), (nI_ltI (by omega) (by omega)).mpr hx1⟩ c_1
  · skip
    have c_1 : (decide (¬ (nI x) < 0 ∧ (nI x) < nI 4096)) = true := b2i_n0.mp c_1
    have c_1 : ¬ (nI x) < 0 ∧ (nI x) < nI 4096 := of_decide_eq_true c_1
    refine lv_aload_n hx hb dX1_include_7 rfl (lv_at hl 0 rfl) ?_
    refine r_get (C := RX1) (Tb := TX1) (N := 1) hx hb hts in_wsX10 hown hK (hN.1) rfl 0 (by decide) (hts (.fieldLink RX1 9 "PieceSets$Numbers" "words" "[J") (by decide +kernel)) rfl (v := .ref w0) rfl dX1_include_8 ?_
    refine lv_iload_n hx hb dX1_include_11 rfl (lv_at hl 1 rfl) ?_
    refine lv_bipush (v := (nI 6)) hx hb dX1_include_12 (by decide) ?_
    refine lv_ishr hx hb dX1_include_14 ?_
    refine top_i (x' := (shrI (nI x) (nI 6))) rfl ?_
    refine top_i (x' := (nI (x / 64))) (nI_shr (by omega) (by decide)) ?_
    refine lv_dup2_11 hx hb dX1_include_15 rfl rfl ?_
    refine r_lald hx hb hK (hN.2) (i := x / 64) (by omega) (by decide) dX1_include_16 ?_
    refine lv_lconst (v := 1) hx hb dX1_include_17 rfl ?_
    refine lv_iload_n hx hb dX1_include_18 rfl (lv_at hl 1 rfl) ?_
    refine lv_bipush (v := (nI 63)) hx hb dX1_include_19 (by decide) ?_
    refine lv_iand hx hb dX1_include_21 ?_
    refine top_i (x' := (nI (x % 64))) (n_63 x) ?_
    refine lv_lshl (v := (shlL 1 (nI (x % 64)))) hx hb dX1_include_22 rfl ?_
    refine lv_lor hx hb dX1_include_23 ?_
    refine r_last hx hb hK hS (rfl) (hN.2) (i := x / 64) (by omega) (by decide) dX1_include_24 (fun H_1 locs hat oq hS => ?_)
    have hN := hN.set hat oq
    subst hQ
    exact W.vret hx hb hr (fun t ht hW => ⟨⟨_, rfl, bit_incl f hx1, by have h9 := hN; rw [← ht] at h9; exact h9⟩, hS.F ht⟩) hS.2.2 dX1_include_25
set_option maxHeartbeats 4000000 in
set_option maxRecDepth 100000 in
theorem k_X1_holds (l : Launch) (D : va_G) (T : Nat → ClassId) (h0 : Nat) (w0 : Nat) (f : Nat → Int64) (x : Int32) : Met l yX1_holds wsX1_holds ({ frames := 1, cells := 0, slots := 0, locals := 20 }) (va_Pc [.ref h0, .int x] (fun U => KS D T U ∧ Num D T U.heap h0 w0 f)) (vp_Si (fun r => r = (b2i (hlt (bitL f) x)))) 0 0 (fun _ => False) := by
  refine Met.ofW (cc := cX1_holds) (maxL := 2) (ret := (some .boolean)) (by decide) rfl ?_
  intro pg ev s m args below meth c s₁ B hml hv
  obtain ⟨rfl, hK, hH⟩ := hv
  have hx := B.exec
  have hb := B.bytes
  have hr := B.returns
  have hts := atoms_spec (ws := wsX1_holds) B.pre
  have hown : s.vm.findClass RX1 = some m.cls := findClass_of_methodNamed B.named
  have hlocks := B.notSynchronized
  have in_wsX10 : ∀ w ∈ wsX10, w ∈ wsX1_holds := fun w h => List.mem_cons_of_mem _ (List.mem_append_right _ h)
  have hl := lv_entry ([.ref h0, .int x]) (n := 2) (Nat.le_of_ble_eq_true rfl)
  rw [lg_entry_eq]
  generalize (lg_sl ([.ref h0, .int x]) ++ List.replicate (2 - (lg_sl ([.ref h0, .int x])).length) Slot.unset).toArray = ls at hl ⊢
  have hl : lv_has ls 2 [(0, .ref h0), (1, .int x)] := hl
  refine W_gen (fun Q hQ => ?_)
  have hN := hH
  refine lv_iload_n hx hb dX1_holds_0 rfl (lv_at hl 1 rfl) ?_
  refine vp_callSi (va_Run.run (va_runSN (As := [.int x]) (rest := []) ⟨hx, hb, hml, hown, hts⟩ (k_X3_isNumber l D T x ) (⟨va_cnB 1 hts ggX1_holds_X3_isNumber rfl rfl rfl (hK.2.m (args := ([.ref h0, .int x] : List Value).toArray) 20 rfl) (hts (.initialized RX3) (by decide +kernel)) (by decide +kernel) ⟨Nat.le_of_ble_eq_true rfl, Nat.le_of_ble_eq_true rfl⟩, hts (.static yX3_isNumber) (by decide +kernel), trivial⟩) (pre_S (Φ := fun X => True) hK trivial) rfl rfl hl.1 rfl (lv_room (Nat.le_of_ble_eq_true rfl)) dX1_holds_1 ⟨Nat.le_of_ble_eq_true rfl, Nat.le_of_ble_eq_true rfl⟩)) (fun r_1 hr_1 => ?_)
  subst hr_1
  refine lv_if_eq (tgt := 32) hx hb dX1_holds_4 (by decide) (fun c_1 => ?_) (fun c_1 => ?_)
  · skip
    have c_1 : (decide (¬ x < 0 ∧ x < nI 4096)) = false := b2i_0.mp c_1
    have c_1 : ¬ (¬ x < 0 ∧ x < nI 4096) := of_decide_eq_false c_1
    refine lv_iconst (v := (nI 0)) hx hb dX1_holds_32 (by decide) ?_
    subst hQ
    refine W.zret (v := (nI 0)) hx hb hr nb0 (fun t ht hW => ⟨(nI 0), rfl, ?_, ht⟩) (fun q h => absurd h List.not_mem_nil) dX1_holds_33
    first | exact r0 (by unfold hlt; rw [decide_eq_false c_1]; rfl) | exact r0 (by unfold hlt; rw [decide_eq_true c_1, c_2]; rfl)
  · skip
    have c_1 : (decide (¬ x < 0 ∧ x < nI 4096)) = true := b2i_n0.mp c_1
    have c_1 : ¬ x < 0 ∧ x < nI 4096 := of_decide_eq_true c_1
    refine lv_aload_n hx hb dX1_holds_7 rfl (lv_at hl 0 rfl) ?_
    refine r_get (C := RX1) (Tb := TX1) (N := 1) hx hb hts in_wsX10 hown hK (hN.1) rfl 0 (by decide) (hts (.fieldLink RX1 9 "PieceSets$Numbers" "words" "[J") (by decide +kernel)) rfl (v := .ref w0) rfl dX1_holds_8 ?_
    have hcl : x.toNatClampNeg < 4096 := cl_lt (by decide) c_1.1 c_1.2
    refine lv_iload_n hx hb dX1_holds_11 rfl (lv_at hl 1 rfl) ?_
    refine top_i (x' := (nI x.toNatClampNeg)) (nI_cl c_1.1) ?_
    refine lv_bipush (v := (nI 6)) hx hb dX1_holds_12 (by decide) ?_
    refine lv_ishr hx hb dX1_holds_14 ?_
    refine top_i (x' := (shrI (nI x.toNatClampNeg) (nI 6))) rfl ?_
    refine top_i (x' := (nI (x.toNatClampNeg / 64))) (nI_shr (cl_b x) (by decide)) ?_
    refine r_lald hx hb hK (hN.2) (i := x.toNatClampNeg / 64) (by omega) (by decide) dX1_holds_15 ?_
    refine lv_iload_n hx hb dX1_holds_16 rfl (lv_at hl 1 rfl) ?_
    refine top_i (x' := (nI x.toNatClampNeg)) (nI_cl c_1.1) ?_
    refine lv_bipush (v := (nI 63)) hx hb dX1_holds_17 (by decide) ?_
    refine lv_iand hx hb dX1_holds_19 ?_
    refine top_i (x' := (nI (x.toNatClampNeg % 64))) (n_63 _) ?_
    refine lv_lushr (v := (ushrL (f (x.toNatClampNeg / 64)) (nI (x.toNatClampNeg % 64)))) hx hb dX1_holds_20 rfl ?_
    refine lv_lconst (v := 1) hx hb dX1_holds_21 rfl ?_
    refine lv_land hx hb dX1_holds_22 ?_
    refine lv_lconst (v := 0) hx hb dX1_holds_23 rfl ?_
    refine W.lcmp hx hb dX1_holds_24 ?_
    refine top_i (x' := (b2i (bitL f x.toNatClampNeg))) (lcmp_bit _ (by omega)) ?_
    refine lv_if_eq (tgt := 32) hx hb dX1_holds_25 (by decide) (fun c_2 => ?_) (fun c_2 => ?_)
    · skip
      have c_2 : bitL f x.toNatClampNeg = false := b2i_0.mp c_2
      refine lv_iconst (v := (nI 0)) hx hb dX1_holds_32 (by decide) ?_
      subst hQ
      refine W.zret (v := (nI 0)) hx hb hr nb0 (fun t ht hW => ⟨(nI 0), rfl, ?_, ht⟩) (fun q h => absurd h List.not_mem_nil) dX1_holds_33
      first | exact r0 (by unfold hlt; rw [decide_eq_false c_1]; rfl) | exact r0 (by unfold hlt; rw [decide_eq_true c_1, c_2]; rfl)
    · skip
      have c_2 : bitL f x.toNatClampNeg = true := b2i_n0.mp c_2
      refine lv_iconst (v := (nI 1)) hx hb dX1_holds_28 (by decide) ?_
      refine lv_goto (tgt := 33) hx hb dX1_holds_29 (by decide) ?_
      subst hQ
      refine W.zret (v := (nI 1)) hx hb hr nb1 (fun t ht hW => ⟨(nI 1), rfl, ?_, ht⟩) (fun q h => absurd h List.not_mem_nil) dX1_holds_33
      exact r1 (by unfold hlt; rw [decide_eq_true c_1, c_2]; rfl)
set_option maxHeartbeats 4000000 in
set_option maxRecDepth 100000 in
theorem k_X1_includeAll (l : Launch) (D : va_G) (T : Nat → ClassId) (h0 : Nat) (w0 : Nat) (f : Nat → Int64) (x : Int32) (y : Int32) : Met l yX1_includeAll wsX1_includeAll ({ frames := 2, cells := 0, slots := 0, locals := 64 }) (va_Pc [.ref h0, .int x, .int y] (fun U => KS D T U ∧ Num D T U.heap h0 w0 f)) (va_Qv (fun (u : Nat → Int64) => ∀ q, q < 4096 → bitL u q = (bitL f q || inr x y q)) (fun u t => Num D T t.heap h0 w0 u) (fun q => q = w0)) 0 0 (fun q => q = w0) := by
  refine Met.ofW (cc := cX1_includeAll) (maxL := 4) (ret := none) (by decide) rfl ?_
  intro pg ev s m args below meth c s₁ B hml hv
  obtain ⟨rfl, hK, hH⟩ := hv
  have hx := B.exec
  have hb := B.bytes
  have hr := B.returns
  have hts := atoms_spec (ws := wsX1_includeAll) B.pre
  have hown : s.vm.findClass RX1 = some m.cls := findClass_of_methodNamed B.named
  have hlocks := B.notSynchronized
  have in_wsX10 : ∀ w ∈ wsX10, w ∈ wsX1_includeAll := fun w h => List.mem_cons_of_mem _ (List.mem_append_right _ h)
  have hS : va_S (fun q => q = w0) s.heap s.heap [] := va_S.rf
  have hl := lv_entry ([.ref h0, .int x, .int y]) (n := 4) (Nat.le_of_ble_eq_true rfl)
  rw [lg_entry_eq]
  generalize (lg_sl ([.ref h0, .int x, .int y]) ++ List.replicate (4 - (lg_sl ([.ref h0, .int x, .int y])).length) Slot.unset).toArray = ls at hl ⊢
  have hl : lv_has ls 4 [(0, .ref h0), (1, .int x), (2, .int y)] := hl
  refine W_gen (fun Q hQ => ?_)
  have hN := hH
  refine lv_iconst (v := (nI 0)) hx hb dX1_includeAll_0 (by decide) ?_
  refine lv_istore_n (lv' := [(3, .int (nI 0)), (0, .ref h0), (1, .int x), (2, .int y)]) hx hb dX1_includeAll_1 rfl hl (by decide) rfl (fun ls hl => ?_)
  have loop2 : ∀ (n : Nat) (k : Nat) (hk : k ≤ 64) (H : Heap) (locs : List Loc) (hN : Num D T H h0 w0 (stepJ (fun j => f j ||| mk j x y) f k)) (hS : va_S (fun q => q = w0) s.heap H locs) (ls : Array Slot) (hl : lv_has ls 4 [(0, .ref h0), (1, .int x), (2, .int y), (3, .int (nI k))]) (hn : 64 - k < n), W pg l ev (headSpec wsX1_includeAll ({ frames := 2, cells := 0, slots := 0, locals := 64 })).room s m ([.ref h0, .int x, .int y] : List Value).toArray below meth c H locs 0 0 Q (F0 m 2 ls []) := by
    intro n
    induction n with
    | zero =>
      intro k hk H locs hN hS ls hl hn
      exact absurd hn (Nat.not_lt_zero _)
    | succ n ih =>
      intro k hk H locs hN hS ls hl hn
      refine lv_iload_n hx hb dX1_includeAll_2 rfl (lv_at hl 3 rfl) ?_
      refine lv_bipush (v := (nI 64)) hx hb dX1_includeAll_3 (by decide) ?_
      refine lv_icmp_ge (tgt := 29) hx hb dX1_includeAll_5 (by decide) (fun c_1 => ?_) (fun c_1 => ?_)
      · skip
        have c_1 : 64 ≤ k := (nI_leI (a := 64) (b := k) (by omega) (by omega)).mp c_1
        subst hQ
        exact W.vret hx hb hr (fun t ht hW => ⟨⟨(fun j => f j ||| mk j x y), rfl, bit_all (t := fun a b => (a || b)) (fun k _ j hj => lb_or _ _ _), by have h9 := (hN.cong (by rw [show k = 64 by omega]; exact stepJ_end)); rw [← ht] at h9; exact h9⟩, hS.F ht⟩) hS.2.2 dX1_includeAll_29
      · skip
        have c_1 : ¬ (64 ≤ k) := fun z => c_1 ((nI_leI (a := 64) (b := k) (by omega) (by omega)).mpr z)
        refine lv_aload_n hx hb dX1_includeAll_8 rfl (lv_at hl 0 rfl) ?_
        refine r_get (C := RX1) (Tb := TX1) (N := 1) hx hb hts in_wsX10 hown hK (hN.1) rfl 0 (by decide) (hts (.fieldLink RX1 9 "PieceSets$Numbers" "words" "[J") (by decide +kernel)) rfl (v := .ref w0) rfl dX1_includeAll_9 ?_
        refine lv_iload_n hx hb dX1_includeAll_12 rfl (lv_at hl 3 rfl) ?_
        refine lv_dup2_11 hx hb dX1_includeAll_13 rfl rfl ?_
        refine r_lald hx hb hK (hN.2) (i := k) (by omega) (by decide) dX1_includeAll_14 ?_
        refine lv_iload_n hx hb dX1_includeAll_15 rfl (lv_at hl 3 rfl) ?_
        refine lv_iload_n hx hb dX1_includeAll_16 rfl (lv_at hl 1 rfl) ?_
        refine lv_iload_n hx hb dX1_includeAll_17 rfl (lv_at hl 2 rfl) ?_
        refine vp_callSl (va_Run.run (va_runS (As := [.int (nI k), .int x, .int y]) (rest := [.long ((stepJ (fun j => f j ||| mk j x y) f k) k), .int (nI k), .ref w0]) ⟨hx, hb, hml, hown, hts⟩ (k_X1_mask l D T k x y (by omega)) (va_cwS 3 hts gX1_includeAll_X1_mask rfl rfl rfl (by decide +kernel) ⟨Nat.le_of_ble_eq_true rfl, Nat.le_of_ble_eq_true rfl⟩) (pre_S (Φ := fun X => True) hK trivial) rfl rfl hl.1 rfl (lv_room (Nat.le_of_ble_eq_true rfl)) dX1_includeAll_18 ⟨Nat.le_of_ble_eq_true rfl, Nat.le_of_ble_eq_true rfl⟩)) (fun r_1 hr_1 => ?_)
        subst hr_1
        refine lv_lor hx hb dX1_includeAll_21 ?_
        refine r_last hx hb hK hS (rfl) (hN.2) (i := k) (by omega) (by decide) dX1_includeAll_22 (fun H_1 locs hat oq hS => ?_)
        have hN := (hN.set hat oq).cong (stepJ_upd (by rw [stepJ_at]) 64)
        refine lv_iinc (v := (nI (k + 1))) (lv' := [(3, .int (nI (k + 1))), (0, .ref h0), (1, .int x), (2, .int y)]) hx hb dX1_includeAll_23 hl (k := 3) rfl (iinc_n k 1) (by decide) rfl (fun ls hl => ?_)
        refine lv_goto (tgt := 2) hx hb dX1_includeAll_26 (by decide) ?_
        have hl := lv_sub hl (l' := [(0, .ref h0), (1, .int x), (2, .int y), (3, .int (nI (k + 1)))]) [1, 2, 3, 0] rfl
        exact ih (k + 1) (by omega) H_1 _ hN hS ls hl (by omega)
  have hN := hN.cong (g := stepJ (fun j => f j ||| mk j x y) f 0) (fun j _ => (stepJ_0 _ _ j).symm)
  have hl := lv_sub hl (l' := [(0, .ref h0), (1, .int x), (2, .int y), (3, .int (nI 0))]) [1, 2, 3, 0] rfl
  exact loop2 (64 - 0 + 1) 0 (Nat.zero_le _) s.heap _ hN hS ls hl (Nat.lt_succ_self _)
set_option maxHeartbeats 4000000 in
set_option maxRecDepth 100000 in
theorem k_X1_excludeAll (l : Launch) (D : va_G) (T : Nat → ClassId) (h0 : Nat) (w0 : Nat) (f : Nat → Int64) (x : Int32) (y : Int32) : Met l yX1_excludeAll wsX1_excludeAll ({ frames := 2, cells := 0, slots := 0, locals := 64 }) (va_Pc [.ref h0, .int x, .int y] (fun U => KS D T U ∧ Num D T U.heap h0 w0 f)) (va_Qv (fun (u : Nat → Int64) => ∀ q, q < 4096 → bitL u q = (bitL f q && !inr x y q)) (fun u t => Num D T t.heap h0 w0 u) (fun q => q = w0)) 0 0 (fun q => q = w0) := by
  refine Met.ofW (cc := cX1_excludeAll) (maxL := 4) (ret := none) (by decide) rfl ?_
  intro pg ev s m args below meth c s₁ B hml hv
  obtain ⟨rfl, hK, hH⟩ := hv
  have hx := B.exec
  have hb := B.bytes
  have hr := B.returns
  have hts := atoms_spec (ws := wsX1_excludeAll) B.pre
  have hown : s.vm.findClass RX1 = some m.cls := findClass_of_methodNamed B.named
  have hlocks := B.notSynchronized
  have in_wsX10 : ∀ w ∈ wsX10, w ∈ wsX1_excludeAll := fun w h => List.mem_cons_of_mem _ (List.mem_append_right _ h)
  have hS : va_S (fun q => q = w0) s.heap s.heap [] := va_S.rf
  have hl := lv_entry ([.ref h0, .int x, .int y]) (n := 4) (Nat.le_of_ble_eq_true rfl)
  rw [lg_entry_eq]
  generalize (lg_sl ([.ref h0, .int x, .int y]) ++ List.replicate (4 - (lg_sl ([.ref h0, .int x, .int y])).length) Slot.unset).toArray = ls at hl ⊢
  have hl : lv_has ls 4 [(0, .ref h0), (1, .int x), (2, .int y)] := hl
  refine W_gen (fun Q hQ => ?_)
  have hN := hH
  refine lv_iconst (v := (nI 0)) hx hb dX1_excludeAll_0 (by decide) ?_
  refine lv_istore_n (lv' := [(3, .int (nI 0)), (0, .ref h0), (1, .int x), (2, .int y)]) hx hb dX1_excludeAll_1 rfl hl (by decide) rfl (fun ls hl => ?_)
  have loop2 : ∀ (n : Nat) (k : Nat) (hk : k ≤ 64) (H : Heap) (locs : List Loc) (hN : Num D T H h0 w0 (stepJ (fun j => f j &&& (mk j x y ^^^ (-1))) f k)) (hS : va_S (fun q => q = w0) s.heap H locs) (ls : Array Slot) (hl : lv_has ls 4 [(0, .ref h0), (1, .int x), (2, .int y), (3, .int (nI k))]) (hn : 64 - k < n), W pg l ev (headSpec wsX1_excludeAll ({ frames := 2, cells := 0, slots := 0, locals := 64 })).room s m ([.ref h0, .int x, .int y] : List Value).toArray below meth c H locs 0 0 Q (F0 m 2 ls []) := by
    intro n
    induction n with
    | zero =>
      intro k hk H locs hN hS ls hl hn
      exact absurd hn (Nat.not_lt_zero _)
    | succ n ih =>
      intro k hk H locs hN hS ls hl hn
      refine lv_iload_n hx hb dX1_excludeAll_2 rfl (lv_at hl 3 rfl) ?_
      refine lv_bipush (v := (nI 64)) hx hb dX1_excludeAll_3 (by decide) ?_
      refine lv_icmp_ge (tgt := 33) hx hb dX1_excludeAll_5 (by decide) (fun c_1 => ?_) (fun c_1 => ?_)
      · skip
        have c_1 : 64 ≤ k := (nI_leI (a := 64) (b := k) (by omega) (by omega)).mp c_1
        subst hQ
        exact W.vret hx hb hr (fun t ht hW => ⟨⟨(fun j => f j &&& (mk j x y ^^^ (-1))), rfl, bit_all (t := fun a b => (a && !b)) (fun k _ j hj => by rw [lb_and, lb_not _ hj]), by have h9 := (hN.cong (by rw [show k = 64 by omega]; exact stepJ_end)); rw [← ht] at h9; exact h9⟩, hS.F ht⟩) hS.2.2 dX1_excludeAll_33
      · skip
        have c_1 : ¬ (64 ≤ k) := fun z => c_1 ((nI_leI (a := 64) (b := k) (by omega) (by omega)).mpr z)
        refine lv_aload_n hx hb dX1_excludeAll_8 rfl (lv_at hl 0 rfl) ?_
        refine r_get (C := RX1) (Tb := TX1) (N := 1) hx hb hts in_wsX10 hown hK (hN.1) rfl 0 (by decide) (hts (.fieldLink RX1 9 "PieceSets$Numbers" "words" "[J") (by decide +kernel)) rfl (v := .ref w0) rfl dX1_excludeAll_9 ?_
        refine lv_iload_n hx hb dX1_excludeAll_12 rfl (lv_at hl 3 rfl) ?_
        refine lv_dup2_11 hx hb dX1_excludeAll_13 rfl rfl ?_
        refine r_lald hx hb hK (hN.2) (i := k) (by omega) (by decide) dX1_excludeAll_14 ?_
        refine lv_iload_n hx hb dX1_excludeAll_15 rfl (lv_at hl 3 rfl) ?_
        refine lv_iload_n hx hb dX1_excludeAll_16 rfl (lv_at hl 1 rfl) ?_
        refine lv_iload_n hx hb dX1_excludeAll_17 rfl (lv_at hl 2 rfl) ?_
        refine vp_callSl (va_Run.run (va_runS (As := [.int (nI k), .int x, .int y]) (rest := [.long ((stepJ (fun j => f j &&& (mk j x y ^^^ (-1))) f k) k), .int (nI k), .ref w0]) ⟨hx, hb, hml, hown, hts⟩ (k_X1_mask l D T k x y (by omega)) (va_cwS 3 hts gX1_excludeAll_X1_mask rfl rfl rfl (by decide +kernel) ⟨Nat.le_of_ble_eq_true rfl, Nat.le_of_ble_eq_true rfl⟩) (pre_S (Φ := fun X => True) hK trivial) rfl rfl hl.1 rfl (lv_room (Nat.le_of_ble_eq_true rfl)) dX1_excludeAll_18 ⟨Nat.le_of_ble_eq_true rfl, Nat.le_of_ble_eq_true rfl⟩)) (fun r_1 hr_1 => ?_)
        subst hr_1
        refine lv_ldc2 hx hb hown (hts (.constantLong RX1 31 (-1)) (by decide +kernel)) dX1_excludeAll_21 ?_
        refine lv_lxor hx hb dX1_excludeAll_24 ?_
        refine lv_land hx hb dX1_excludeAll_25 ?_
        refine r_last hx hb hK hS (rfl) (hN.2) (i := k) (by omega) (by decide) dX1_excludeAll_26 (fun H_1 locs hat oq hS => ?_)
        have hN := (hN.set hat oq).cong (stepJ_upd (by rw [stepJ_at]) 64)
        refine lv_iinc (v := (nI (k + 1))) (lv' := [(3, .int (nI (k + 1))), (0, .ref h0), (1, .int x), (2, .int y)]) hx hb dX1_excludeAll_27 hl (k := 3) rfl (iinc_n k 1) (by decide) rfl (fun ls hl => ?_)
        refine lv_goto (tgt := 2) hx hb dX1_excludeAll_30 (by decide) ?_
        have hl := lv_sub hl (l' := [(0, .ref h0), (1, .int x), (2, .int y), (3, .int (nI (k + 1)))]) [1, 2, 3, 0] rfl
        exact ih (k + 1) (by omega) H_1 _ hN hS ls hl (by omega)
  have hN := hN.cong (g := stepJ (fun j => f j &&& (mk j x y ^^^ (-1))) f 0) (fun j _ => (stepJ_0 _ _ j).symm)
  have hl := lv_sub hl (l' := [(0, .ref h0), (1, .int x), (2, .int y), (3, .int (nI 0))]) [1, 2, 3, 0] rfl
  exact loop2 (64 - 0 + 1) 0 (Nat.zero_le _) s.heap _ hN hS ls hl (Nat.lt_succ_self _)
set_option maxHeartbeats 4000000 in
set_option maxRecDepth 100000 in
theorem k_X1_turnAll (l : Launch) (D : va_G) (T : Nat → ClassId) (h0 : Nat) (w0 : Nat) (f : Nat → Int64) (x : Int32) (y : Int32) : Met l yX1_turnAll wsX1_turnAll ({ frames := 2, cells := 0, slots := 0, locals := 64 }) (va_Pc [.ref h0, .int x, .int y] (fun U => KS D T U ∧ Num D T U.heap h0 w0 f)) (va_Qv (fun (u : Nat → Int64) => ∀ q, q < 4096 → bitL u q = (bitL f q ^^ inr x y q)) (fun u t => Num D T t.heap h0 w0 u) (fun q => q = w0)) 0 0 (fun q => q = w0) := by
  refine Met.ofW (cc := cX1_turnAll) (maxL := 4) (ret := none) (by decide) rfl ?_
  intro pg ev s m args below meth c s₁ B hml hv
  obtain ⟨rfl, hK, hH⟩ := hv
  have hx := B.exec
  have hb := B.bytes
  have hr := B.returns
  have hts := atoms_spec (ws := wsX1_turnAll) B.pre
  have hown : s.vm.findClass RX1 = some m.cls := findClass_of_methodNamed B.named
  have hlocks := B.notSynchronized
  have in_wsX10 : ∀ w ∈ wsX10, w ∈ wsX1_turnAll := fun w h => List.mem_cons_of_mem _ (List.mem_append_right _ h)
  have hS : va_S (fun q => q = w0) s.heap s.heap [] := va_S.rf
  have hl := lv_entry ([.ref h0, .int x, .int y]) (n := 4) (Nat.le_of_ble_eq_true rfl)
  rw [lg_entry_eq]
  generalize (lg_sl ([.ref h0, .int x, .int y]) ++ List.replicate (4 - (lg_sl ([.ref h0, .int x, .int y])).length) Slot.unset).toArray = ls at hl ⊢
  have hl : lv_has ls 4 [(0, .ref h0), (1, .int x), (2, .int y)] := hl
  refine W_gen (fun Q hQ => ?_)
  have hN := hH
  refine lv_iconst (v := (nI 0)) hx hb dX1_turnAll_0 (by decide) ?_
  refine lv_istore_n (lv' := [(3, .int (nI 0)), (0, .ref h0), (1, .int x), (2, .int y)]) hx hb dX1_turnAll_1 rfl hl (by decide) rfl (fun ls hl => ?_)
  have loop2 : ∀ (n : Nat) (k : Nat) (hk : k ≤ 64) (H : Heap) (locs : List Loc) (hN : Num D T H h0 w0 (stepJ (fun j => f j ^^^ mk j x y) f k)) (hS : va_S (fun q => q = w0) s.heap H locs) (ls : Array Slot) (hl : lv_has ls 4 [(0, .ref h0), (1, .int x), (2, .int y), (3, .int (nI k))]) (hn : 64 - k < n), W pg l ev (headSpec wsX1_turnAll ({ frames := 2, cells := 0, slots := 0, locals := 64 })).room s m ([.ref h0, .int x, .int y] : List Value).toArray below meth c H locs 0 0 Q (F0 m 2 ls []) := by
    intro n
    induction n with
    | zero =>
      intro k hk H locs hN hS ls hl hn
      exact absurd hn (Nat.not_lt_zero _)
    | succ n ih =>
      intro k hk H locs hN hS ls hl hn
      refine lv_iload_n hx hb dX1_turnAll_2 rfl (lv_at hl 3 rfl) ?_
      refine lv_bipush (v := (nI 64)) hx hb dX1_turnAll_3 (by decide) ?_
      refine lv_icmp_ge (tgt := 29) hx hb dX1_turnAll_5 (by decide) (fun c_1 => ?_) (fun c_1 => ?_)
      · skip
        have c_1 : 64 ≤ k := (nI_leI (a := 64) (b := k) (by omega) (by omega)).mp c_1
        subst hQ
        exact W.vret hx hb hr (fun t ht hW => ⟨⟨(fun j => f j ^^^ mk j x y), rfl, bit_all (t := fun a b => (a ^^ b)) (fun k _ j hj => lb_xor _ _ _), by have h9 := (hN.cong (by rw [show k = 64 by omega]; exact stepJ_end)); rw [← ht] at h9; exact h9⟩, hS.F ht⟩) hS.2.2 dX1_turnAll_29
      · skip
        have c_1 : ¬ (64 ≤ k) := fun z => c_1 ((nI_leI (a := 64) (b := k) (by omega) (by omega)).mpr z)
        refine lv_aload_n hx hb dX1_turnAll_8 rfl (lv_at hl 0 rfl) ?_
        refine r_get (C := RX1) (Tb := TX1) (N := 1) hx hb hts in_wsX10 hown hK (hN.1) rfl 0 (by decide) (hts (.fieldLink RX1 9 "PieceSets$Numbers" "words" "[J") (by decide +kernel)) rfl (v := .ref w0) rfl dX1_turnAll_9 ?_
        refine lv_iload_n hx hb dX1_turnAll_12 rfl (lv_at hl 3 rfl) ?_
        refine lv_dup2_11 hx hb dX1_turnAll_13 rfl rfl ?_
        refine r_lald hx hb hK (hN.2) (i := k) (by omega) (by decide) dX1_turnAll_14 ?_
        refine lv_iload_n hx hb dX1_turnAll_15 rfl (lv_at hl 3 rfl) ?_
        refine lv_iload_n hx hb dX1_turnAll_16 rfl (lv_at hl 1 rfl) ?_
        refine lv_iload_n hx hb dX1_turnAll_17 rfl (lv_at hl 2 rfl) ?_
        refine vp_callSl (va_Run.run (va_runS (As := [.int (nI k), .int x, .int y]) (rest := [.long ((stepJ (fun j => f j ^^^ mk j x y) f k) k), .int (nI k), .ref w0]) ⟨hx, hb, hml, hown, hts⟩ (k_X1_mask l D T k x y (by omega)) (va_cwS 3 hts gX1_turnAll_X1_mask rfl rfl rfl (by decide +kernel) ⟨Nat.le_of_ble_eq_true rfl, Nat.le_of_ble_eq_true rfl⟩) (pre_S (Φ := fun X => True) hK trivial) rfl rfl hl.1 rfl (lv_room (Nat.le_of_ble_eq_true rfl)) dX1_turnAll_18 ⟨Nat.le_of_ble_eq_true rfl, Nat.le_of_ble_eq_true rfl⟩)) (fun r_1 hr_1 => ?_)
        subst hr_1
        refine lv_lxor hx hb dX1_turnAll_21 ?_
        refine r_last hx hb hK hS (rfl) (hN.2) (i := k) (by omega) (by decide) dX1_turnAll_22 (fun H_1 locs hat oq hS => ?_)
        have hN := (hN.set hat oq).cong (stepJ_upd (by rw [stepJ_at]) 64)
        refine lv_iinc (v := (nI (k + 1))) (lv' := [(3, .int (nI (k + 1))), (0, .ref h0), (1, .int x), (2, .int y)]) hx hb dX1_turnAll_23 hl (k := 3) rfl (iinc_n k 1) (by decide) rfl (fun ls hl => ?_)
        refine lv_goto (tgt := 2) hx hb dX1_turnAll_26 (by decide) ?_
        have hl := lv_sub hl (l' := [(0, .ref h0), (1, .int x), (2, .int y), (3, .int (nI (k + 1)))]) [1, 2, 3, 0] rfl
        exact ih (k + 1) (by omega) H_1 _ hN hS ls hl (by omega)
  have hN := hN.cong (g := stepJ (fun j => f j ^^^ mk j x y) f 0) (fun j _ => (stepJ_0 _ _ j).symm)
  have hl := lv_sub hl (l' := [(0, .ref h0), (1, .int x), (2, .int y), (3, .int (nI 0))]) [1, 2, 3, 0] rfl
  exact loop2 (64 - 0 + 1) 0 (Nat.zero_le _) s.heap _ hN hS ls hl (Nat.lt_succ_self _)
set_option maxHeartbeats 4000000 in
set_option maxRecDepth 100000 in
theorem k_X1_count (l : Launch) (D : va_G) (T : Nat → ClassId) (h0 : Nat) (w0 : Nat) (f : Nat → Int64) : Met l yX1_count wsX1_count ({ frames := 2, cells := 0, slots := 0, locals := 44 }) (va_Pc [.ref h0] (fun U => KS D T U ∧ Num D T U.heap h0 w0 f)) (vp_Si (fun r => r = (nI (ct (bitL f) 0 4096)))) 0 0 (fun _ => False) := by
  refine Met.ofW (cc := cX1_count) (maxL := 3) (ret := (some .int)) (by decide) rfl ?_
  intro pg ev s m args below meth c s₁ B hml hv
  obtain ⟨rfl, hK, hH⟩ := hv
  have hx := B.exec
  have hb := B.bytes
  have hr := B.returns
  have hts := atoms_spec (ws := wsX1_count) B.pre
  have hown : s.vm.findClass RX1 = some m.cls := findClass_of_methodNamed B.named
  have hlocks := B.notSynchronized
  have in_wsX10 : ∀ w ∈ wsX10, w ∈ wsX1_count := fun w h => List.mem_cons_of_mem _ (List.mem_append_right _ h)
  have hl := lv_entry ([.ref h0]) (n := 3) (Nat.le_of_ble_eq_true rfl)
  rw [lg_entry_eq]
  generalize (lg_sl ([.ref h0]) ++ List.replicate (3 - (lg_sl ([.ref h0])).length) Slot.unset).toArray = ls at hl ⊢
  have hl : lv_has ls 3 [(0, .ref h0)] := hl
  refine W_gen (fun Q hQ => ?_)
  have hN := hH
  refine lv_iconst (v := (nI 0)) hx hb dX1_count_0 (by decide) ?_
  refine lv_istore_n (lv' := [(1, .int (nI 0)), (0, .ref h0)]) hx hb dX1_count_1 rfl hl (by decide) rfl (fun ls hl => ?_)
  refine lv_iconst (v := (nI 0)) hx hb dX1_count_2 (by decide) ?_
  refine lv_istore_n (lv' := [(2, .int (nI 0)), (1, .int (nI 0)), (0, .ref h0)]) hx hb dX1_count_3 rfl hl (by decide) rfl (fun ls hl => ?_)
  have loop4 : ∀ (n : Nat) (i : Nat) (hi : i ≤ 16) (ls : Array Slot) (hl : lv_has ls 3 [(0, .ref h0), (1, .int (nI (ct (bitL f) 0 (256 * i)))), (2, .int (nI i))]) (hn : 16 - i < n), W pg l ev (headSpec wsX1_count ({ frames := 2, cells := 0, slots := 0, locals := 44 })).room s m ([.ref h0] : List Value).toArray below meth c s.heap [] 0 0 Q (F0 m 4 ls []) := by
    intro n
    induction n with
    | zero =>
      intro i hi ls hl hn
      exact absurd hn (Nat.not_lt_zero _)
    | succ n ih =>
      intro i hi ls hl hn
      refine lv_iload_n hx hb dX1_count_4 rfl (lv_at hl 2 rfl) ?_
      refine lv_bipush (v := (nI 16)) hx hb dX1_count_5 (by decide) ?_
      refine lv_icmp_ge (tgt := 24) hx hb dX1_count_7 (by decide) (fun c_1 => ?_) (fun c_1 => ?_)
      · skip
        have c_1 : 16 ≤ i := (nI_leI (a := 16) (b := i) (by omega) (by omega)).mp c_1
        refine lv_iload_n hx hb dX1_count_24 rfl (lv_at hl 1 rfl) ?_
        subst hQ
        refine W.iret (v := (nI (ct (bitL f) 0 (256 * i)))) hx hb hr (fun t ht hW => ⟨(nI (ct (bitL f) 0 (256 * i))), rfl, ?_, ht⟩) (fun q h => absurd h List.not_mem_nil) dX1_count_25
        rw [show 4096 = 256 * i by omega]
      · skip
        have c_1 : ¬ (16 ≤ i) := fun z => c_1 ((nI_leI (a := 16) (b := i) (by omega) (by omega)).mpr z)
        refine lv_iload_n hx hb dX1_count_10 rfl (lv_at hl 1 rfl) ?_
        refine lv_aload_n hx hb dX1_count_11 rfl (lv_at hl 0 rfl) ?_
        refine lv_iload_n hx hb dX1_count_12 rfl (lv_at hl 2 rfl) ?_
        refine vp_callSi (va_Run.run (va_runV (As := [.int (nI i)]) (rest := [.int (nI (ct (bitL f) 0 (256 * i)))]) ⟨hx, hb, hml, hown, hts⟩ (k_X1_countInPiece l D T h0 w0 f i (by omega)) (cwV 1 hts gX1_count_X1_countInPiece rfl rfl rfl (by decide +kernel) ⟨Nat.le_of_ble_eq_true rfl, Nat.le_of_ble_eq_true rfl⟩) (pre_V (Φ := fun X => Num D T X h0 w0 f) hK (hN.1) rfl hN) rfl rfl hl.1 rfl (lv_room (Nat.le_of_ble_eq_true rfl)) dX1_count_13 ⟨Nat.le_of_ble_eq_true rfl, Nat.le_of_ble_eq_true rfl⟩)) (fun r_1 hr_1 => ?_)
        subst hr_1
        refine lv_iadd hx hb dX1_count_16 ?_
        refine top_i (nI_add (ct (bitL f) 0 (256 * i)) (ct (bitL f) (256 * i) 256)) ?_
        refine lv_istore_n (lv' := [(1, .int (nI ((ct (bitL f) 0 (256 * i)) + (ct (bitL f) (256 * i) 256)))), (0, .ref h0), (2, .int (nI i))]) hx hb dX1_count_17 rfl hl (by decide) rfl (fun ls hl => ?_)
        refine lv_iinc (v := (nI (i + 1))) (lv' := [(2, .int (nI (i + 1))), (1, .int (nI ((ct (bitL f) 0 (256 * i)) + (ct (bitL f) (256 * i) 256)))), (0, .ref h0)]) hx hb dX1_count_18 hl (k := 2) rfl (iinc_n i 1) (by decide) rfl (fun ls hl => ?_)
        refine lv_goto (tgt := 4) hx hb dX1_count_21 (by decide) ?_
        have hl := lv_sub hl (l' := [(0, .ref h0), (1, .int (nI ((ct (bitL f) 0 (256 * i)) + (ct (bitL f) (256 * i) 256)))), (2, .int (nI (i + 1)))]) [2, 1, 0] rfl
        have q_1 : (nI ((ct (bitL f) 0 (256 * i)) + (ct (bitL f) (256 * i) 256))) = (nI (ct (bitL f) 0 (256 * (i + 1)))) := by rw [show 256 * (i + 1) = 256 * i + 256 by omega, ct_add, Nat.zero_add]
        have hl : lv_has ls 3 [(0, .ref h0), (1, .int (nI (ct (bitL f) 0 (256 * (i + 1))))), (2, .int (nI (i + 1)))] := by
          have h := hl
          rw [q_1] at h
          exact h
        exact ih (i + 1) (by omega) ls hl (by omega)
  have hl := lv_sub hl (l' := [(0, .ref h0), (1, .int (nI 0)), (2, .int (nI 0))]) [2, 1, 0] rfl
  have q_1 : (nI 0) = (nI (ct (bitL f) 0 (256 * 0))) := rfl
  have hl : lv_has ls 3 [(0, .ref h0), (1, .int (nI (ct (bitL f) 0 (256 * 0)))), (2, .int (nI 0))] := by
    have h := hl
    rw [q_1] at h
    exact h
  exact loop4 (16 - 0 + 1) 0 (Nat.zero_le _) ls hl (Nat.lt_succ_self _)
set_option maxHeartbeats 4000000 in
set_option maxRecDepth 100000 in
theorem k_X1_countIn (l : Launch) (D : va_G) (T : Nat → ClassId) (h0 : Nat) (w0 : Nat) (f : Nat → Int64) (x : Int32) (y : Int32) : Met l yX1_countIn wsX1_countIn ({ frames := 2, cells := 0, slots := 0, locals := 64 }) (va_Pc [.ref h0, .int x, .int y] (fun U => KS D T U ∧ Num D T U.heap h0 w0 f)) (vp_Si (fun r => r = (nI (ctr (bitL f) x y)))) 0 0 (fun _ => False) := by
  refine Met.ofW (cc := cX1_countIn) (maxL := 5) (ret := (some .int)) (by decide) rfl ?_
  intro pg ev s m args below meth c s₁ B hml hv
  obtain ⟨rfl, hK, hH⟩ := hv
  have hx := B.exec
  have hb := B.bytes
  have hr := B.returns
  have hts := atoms_spec (ws := wsX1_countIn) B.pre
  have hown : s.vm.findClass RX1 = some m.cls := findClass_of_methodNamed B.named
  have hlocks := B.notSynchronized
  have in_wsX10 : ∀ w ∈ wsX10, w ∈ wsX1_countIn := fun w h => List.mem_cons_of_mem _ (List.mem_append_right _ h)
  have hl := lv_entry ([.ref h0, .int x, .int y]) (n := 5) (Nat.le_of_ble_eq_true rfl)
  rw [lg_entry_eq]
  generalize (lg_sl ([.ref h0, .int x, .int y]) ++ List.replicate (5 - (lg_sl ([.ref h0, .int x, .int y])).length) Slot.unset).toArray = ls at hl ⊢
  have hl : lv_has ls 5 [(0, .ref h0), (1, .int x), (2, .int y)] := hl
  refine W_gen (fun Q hQ => ?_)
  have hN := hH
  refine lv_iconst (v := (nI 0)) hx hb dX1_countIn_0 (by decide) ?_
  refine lv_istore_n (lv' := [(3, .int (nI 0)), (0, .ref h0), (1, .int x), (2, .int y)]) hx hb dX1_countIn_1 rfl hl (by decide) rfl (fun ls hl => ?_)
  refine lv_iconst (v := (nI 0)) hx hb dX1_countIn_2 (by decide) ?_
  refine lv_istore (lv' := [(4, .int (nI 0)), (3, .int (nI 0)), (0, .ref h0), (1, .int x), (2, .int y)]) hx hb dX1_countIn_3 hl (by decide) rfl (fun ls hl => ?_)
  have loop5 : ∀ (n : Nat) (i : Nat) (hi : i ≤ 64) (ls : Array Slot) (hl : lv_has ls 5 [(0, .ref h0), (1, .int x), (2, .int y), (3, .int (nI (ct (fun j => bitL f j && inr x y j) 0 (64 * i)))), (4, .int (nI i))]) (hn : 64 - i < n), W pg l ev (headSpec wsX1_countIn ({ frames := 2, cells := 0, slots := 0, locals := 64 })).room s m ([.ref h0, .int x, .int y] : List Value).toArray below meth c s.heap [] 0 0 Q (F0 m 5 ls []) := by
    intro n
    induction n with
    | zero =>
      intro i hi ls hl hn
      exact absurd hn (Nat.not_lt_zero _)
    | succ n ih =>
      intro i hi ls hl hn
      refine lv_iload hx hb dX1_countIn_5 (lv_at hl 4 rfl) ?_
      refine lv_bipush (v := (nI 64)) hx hb dX1_countIn_7 (by decide) ?_
      refine lv_icmp_ge (tgt := 39) hx hb dX1_countIn_9 (by decide) (fun c_1 => ?_) (fun c_1 => ?_)
      · skip
        have c_1 : 64 ≤ i := (nI_leI (a := 64) (b := i) (by omega) (by omega)).mp c_1
        refine lv_iload_n hx hb dX1_countIn_39 rfl (lv_at hl 3 rfl) ?_
        subst hQ
        refine W.iret (v := (nI (ct (fun j => bitL f j && inr x y j) 0 (64 * i)))) hx hb hr (fun t ht hW => ⟨(nI (ct (fun j => bitL f j && inr x y j) 0 (64 * i))), rfl, ?_, ht⟩) (fun q h => absurd h List.not_mem_nil) dX1_countIn_40
        unfold ctr
        rw [show 4096 = 64 * i by omega]
      · skip
        have c_1 : ¬ (64 ≤ i) := fun z => c_1 ((nI_leI (a := 64) (b := i) (by omega) (by omega)).mpr z)
        refine lv_iload_n hx hb dX1_countIn_12 rfl (lv_at hl 3 rfl) ?_
        refine lv_aload_n hx hb dX1_countIn_13 rfl (lv_at hl 0 rfl) ?_
        refine r_get (C := RX1) (Tb := TX1) (N := 1) hx hb hts in_wsX10 hown hK (hN.1) rfl 0 (by decide) (hts (.fieldLink RX1 9 "PieceSets$Numbers" "words" "[J") (by decide +kernel)) rfl (v := .ref w0) rfl dX1_countIn_14 ?_
        refine lv_iload hx hb dX1_countIn_17 (lv_at hl 4 rfl) ?_
        refine r_lald hx hb hK (hN.2) (i := i) (by omega) (by decide) dX1_countIn_19 ?_
        refine lv_iload hx hb dX1_countIn_20 (lv_at hl 4 rfl) ?_
        refine lv_iload_n hx hb dX1_countIn_22 rfl (lv_at hl 1 rfl) ?_
        refine lv_iload_n hx hb dX1_countIn_23 rfl (lv_at hl 2 rfl) ?_
        refine vp_callSl (va_Run.run (va_runS (As := [.int (nI i), .int x, .int y]) (rest := [.long (f i), .int (nI (ct (fun j => bitL f j && inr x y j) 0 (64 * i)))]) ⟨hx, hb, hml, hown, hts⟩ (k_X1_mask l D T i x y (by omega)) (va_cwS 3 hts gX1_countIn_X1_mask rfl rfl rfl (by decide +kernel) ⟨Nat.le_of_ble_eq_true rfl, Nat.le_of_ble_eq_true rfl⟩) (pre_S (Φ := fun X => True) hK trivial) rfl rfl hl.1 rfl (lv_room (Nat.le_of_ble_eq_true rfl)) dX1_countIn_24 ⟨Nat.le_of_ble_eq_true rfl, Nat.le_of_ble_eq_true rfl⟩)) (fun r_1 hr_1 => ?_)
        subst hr_1
        refine lv_land hx hb dX1_countIn_27 ?_
        refine vp_callSi (va_Run.run (va_runS (As := [.long ((f i) &&& (mk i x y))]) (rest := [.int (nI (ct (fun j => bitL f j && inr x y j) 0 (64 * i)))]) ⟨hx, hb, hml, hown, hts⟩ (k_J13_bitCount_95d88 l D T ((f i) &&& (mk i x y)) ) (va_cwS 1 hts gX1_countIn_J13_bitCount_95d88 rfl rfl rfl (by decide +kernel) ⟨Nat.le_of_ble_eq_true rfl, Nat.le_of_ble_eq_true rfl⟩) (pre_S (Φ := fun X => True) hK trivial) rfl rfl hl.1 rfl (lv_room (Nat.le_of_ble_eq_true rfl)) dX1_countIn_28 ⟨Nat.le_of_ble_eq_true rfl, Nat.le_of_ble_eq_true rfl⟩)) (fun r_2 hr_2 => ?_)
        subst hr_2
        refine lv_iadd hx hb dX1_countIn_31 ?_
        refine top_i (nI_add (ct (fun j => bitL f j && inr x y j) 0 (64 * i)) (pop ((f i) &&& (mk i x y)))) ?_
        refine lv_istore_n (lv' := [(3, .int (nI ((ct (fun j => bitL f j && inr x y j) 0 (64 * i)) + (pop ((f i) &&& (mk i x y)))))), (0, .ref h0), (1, .int x), (2, .int y), (4, .int (nI i))]) hx hb dX1_countIn_32 rfl hl (by decide) rfl (fun ls hl => ?_)
        refine lv_iinc (v := (nI (i + 1))) (lv' := [(4, .int (nI (i + 1))), (3, .int (nI ((ct (fun j => bitL f j && inr x y j) 0 (64 * i)) + (pop ((f i) &&& (mk i x y)))))), (0, .ref h0), (1, .int x), (2, .int y)]) hx hb dX1_countIn_33 hl (k := 4) rfl (iinc_n i 1) (by decide) rfl (fun ls hl => ?_)
        refine lv_goto (tgt := 5) hx hb dX1_countIn_36 (by decide) ?_
        have hl := lv_sub hl (l' := [(0, .ref h0), (1, .int x), (2, .int y), (3, .int (nI ((ct (fun j => bitL f j && inr x y j) 0 (64 * i)) + (pop ((f i) &&& (mk i x y)))))), (4, .int (nI (i + 1)))]) [2, 3, 4, 1, 0] rfl
        have q_1 : (nI ((ct (fun j => bitL f j && inr x y j) 0 (64 * i)) + (pop ((f i) &&& (mk i x y))))) = (nI (ct (fun j => bitL f j && inr x y j) 0 (64 * (i + 1)))) := by rw [pop_mk f x y (by omega), show 64 * (i + 1) = 64 * i + 64 by omega, ct_add, Nat.zero_add]
        have hl : lv_has ls 5 [(0, .ref h0), (1, .int x), (2, .int y), (3, .int (nI (ct (fun j => bitL f j && inr x y j) 0 (64 * (i + 1))))), (4, .int (nI (i + 1)))] := by
          have h := hl
          rw [q_1] at h
          exact h
        exact ih (i + 1) (by omega) ls hl (by omega)
  have hl := lv_sub hl (l' := [(0, .ref h0), (1, .int x), (2, .int y), (3, .int (nI 0)), (4, .int (nI 0))]) [2, 3, 4, 1, 0] rfl
  have q_1 : (nI 0) = (nI (ct (fun j => bitL f j && inr x y j) 0 (64 * 0))) := rfl
  have hl : lv_has ls 5 [(0, .ref h0), (1, .int x), (2, .int y), (3, .int (nI (ct (fun j => bitL f j && inr x y j) 0 (64 * 0)))), (4, .int (nI 0))] := by
    have h := hl
    rw [q_1] at h
    exact h
  exact loop5 (64 - 0 + 1) 0 (Nat.zero_le _) ls hl (Nat.lt_succ_self _)
set_option maxHeartbeats 4000000 in
set_option maxRecDepth 100000 in
theorem k_X1_countRuns (l : Launch) (D : va_G) (T : Nat → ClassId) (h0 : Nat) (w0 : Nat) (f : Nat → Int64) (k : Nat) (m1 : Nat) (hkm : k + m1 ≤ 16) : Met l yX1_countRuns wsX1_countRuns ({ frames := 1, cells := 0, slots := 0, locals := 21 }) (va_Pc [.ref h0, .int (nI k), .int (nI m1)] (fun U => KS D T U ∧ Num D T U.heap h0 w0 f)) (vp_Si (fun r => r = (nI (ct (rsG (bitL f) (256 * k)) (256 * k) (256 * m1))))) 0 0 (fun _ => False) := by
  refine Met.ofW (cc := cX1_countRuns) (maxL := 9) (ret := (some .int)) (by decide) rfl ?_
  intro pg ev s m args below meth c s₁ B hml hv
  obtain ⟨rfl, hK, hH⟩ := hv
  have hx := B.exec
  have hb := B.bytes
  have hr := B.returns
  have hts := atoms_spec (ws := wsX1_countRuns) B.pre
  have hown : s.vm.findClass RX1 = some m.cls := findClass_of_methodNamed B.named
  have hlocks := B.notSynchronized
  have in_wsX10 : ∀ w ∈ wsX10, w ∈ wsX1_countRuns := fun w h => List.mem_cons_of_mem _ (List.mem_append_right _ h)
  have hl := lv_entry ([.ref h0, .int (nI k), .int (nI m1)]) (n := 9) (Nat.le_of_ble_eq_true rfl)
  rw [lg_entry_eq]
  generalize (lg_sl ([.ref h0, .int (nI k), .int (nI m1)]) ++ List.replicate (9 - (lg_sl ([.ref h0, .int (nI k), .int (nI m1)])).length) Slot.unset).toArray = ls at hl ⊢
  have hl : lv_has ls 9 [(0, .ref h0), (1, .int (nI k)), (2, .int (nI m1))] := hl
  refine W_gen (fun Q hQ => ?_)
  have hN := hH
  refine lv_iconst (v := (nI 0)) hx hb dX1_countRuns_0 (by decide) ?_
  refine lv_istore_n (lv' := [(3, .int (nI 0)), (0, .ref h0), (1, .int (nI k)), (2, .int (nI m1))]) hx hb dX1_countRuns_1 rfl hl (by decide) rfl (fun ls hl => ?_)
  refine lv_lconst (v := 0) hx hb dX1_countRuns_2 rfl ?_
  refine lv_lstore (lv' := [(4, .long 0), (3, .int (nI 0)), (0, .ref h0), (1, .int (nI k)), (2, .int (nI m1))]) hx hb dX1_countRuns_3 hl (by decide) rfl (fun ls hl => ?_)
  refine lv_iconst (v := (nI 0)) hx hb dX1_countRuns_5 (by decide) ?_
  refine lv_istore (lv' := [(6, .int (nI 0)), (4, .long 0), (3, .int (nI 0)), (0, .ref h0), (1, .int (nI k)), (2, .int (nI m1))]) hx hb dX1_countRuns_6 hl (by decide) rfl (fun ls hl => ?_)
  have loop8 : ∀ (n : Nat) (i : Nat) (hi : i ≤ 4 * m1) (ls : Array Slot) (hl : lv_has ls 9 [(0, .ref h0), (1, .int (nI k)), (2, .int (nI m1)), (3, .int (nI (ct (rsG (bitL f) (256 * k)) (256 * k) (64 * i)))), (4, .long (cy f (4 * k) i)), (6, .int (nI i))]) (hn : 64 - i < n), W pg l ev (headSpec wsX1_countRuns ({ frames := 1, cells := 0, slots := 0, locals := 21 })).room s m ([.ref h0, .int (nI k), .int (nI m1)] : List Value).toArray below meth c s.heap [] 0 0 Q (F0 m 8 ls []) := by
    intro n
    induction n with
    | zero =>
      intro i hi ls hl hn
      exact absurd hn (Nat.not_lt_zero _)
    | succ n ih =>
      intro i hi ls hl hn
      have hct := ct_le (rsG (bitL f) (256 * k)) (256 * k) (64 * i)
      refine lv_iload hx hb dX1_countRuns_8 (lv_at hl 5 rfl) ?_
      refine lv_iconst (v := (nI 4)) hx hb dX1_countRuns_10 (by decide) ?_
      refine lv_iload_n hx hb dX1_countRuns_11 rfl (lv_at hl 2 rfl) ?_
      refine lv_imul hx hb dX1_countRuns_12 ?_
      refine top_i (pk_mul 4 m1) ?_
      refine lv_icmp_ge (tgt := 61) hx hb dX1_countRuns_13 (by decide) (fun c_1 => ?_) (fun c_1 => ?_)
      · skip
        have c_1 : (4 * m1) ≤ i := (nI_leI (a := (4 * m1)) (b := i) (by omega) (by omega)).mp c_1
        refine lv_iload_n hx hb dX1_countRuns_61 rfl (lv_at hl 3 rfl) ?_
        subst hQ
        refine W.iret (v := (nI (ct (rsG (bitL f) (256 * k)) (256 * k) (64 * i)))) hx hb hr (fun t ht hW => ⟨(nI (ct (rsG (bitL f) (256 * k)) (256 * k) (64 * i))), rfl, ?_, ht⟩) (fun q h => absurd h List.not_mem_nil) dX1_countRuns_62
        rw [show 256 * m1 = 64 * i by omega]
      · skip
        have c_1 : ¬ ((4 * m1) ≤ i) := fun z => c_1 ((nI_leI (a := (4 * m1)) (b := i) (by omega) (by omega)).mpr z)
        refine lv_aload_n hx hb dX1_countRuns_16 rfl (lv_at hl 0 rfl) ?_
        refine lv_iconst (v := (nI 4)) hx hb dX1_countRuns_17 (by decide) ?_
        refine lv_iload_n hx hb dX1_countRuns_18 rfl (lv_at hl 1 rfl) ?_
        refine lv_imul hx hb dX1_countRuns_19 ?_
        refine top_i (pk_mul 4 k) ?_
        refine lv_iload hx hb dX1_countRuns_20 (lv_at hl 5 rfl) ?_
        refine lv_iadd hx hb dX1_countRuns_22 ?_
        refine top_i (nI_add (4 * k) i) ?_
        refine vp_callSl (va_Run.run (va_runV (As := [.int (nI ((4 * k) + i))]) (rest := []) ⟨hx, hb, hml, hown, hts⟩ (k_X1_wordAt l D T h0 w0 f (nI ((4 * k) + i)) ) (cwV 1 hts gX1_countRuns_X1_wordAt rfl rfl rfl (by decide +kernel) ⟨Nat.le_of_ble_eq_true rfl, Nat.le_of_ble_eq_true rfl⟩) (pre_V (Φ := fun X => Num D T X h0 w0 f) hK (hN.1) rfl hN) rfl rfl hl.1 rfl (lv_room (Nat.le_of_ble_eq_true rfl)) dX1_countRuns_23 ⟨Nat.le_of_ble_eq_true rfl, Nat.le_of_ble_eq_true rfl⟩)) (fun r_1 hr_1 => ?_)
        subst hr_1
        refine top_l (x' := (f (4 * k + i))) (wAt_n f (by omega)) ?_
        refine lv_lstore (lv' := [(7, .long (f (4 * k + i))), (0, .ref h0), (1, .int (nI k)), (2, .int (nI m1)), (3, .int (nI (ct (rsG (bitL f) (256 * k)) (256 * k) (64 * i)))), (4, .long (cy f (4 * k) i)), (6, .int (nI i))]) hx hb dX1_countRuns_26 hl (by decide) rfl (fun ls hl => ?_)
        refine lv_iload_n hx hb dX1_countRuns_28 rfl (lv_at hl 4 rfl) ?_
        refine lv_lload hx hb dX1_countRuns_29 (lv_at hl 0 rfl) ?_
        refine lv_lload hx hb dX1_countRuns_31 (lv_at hl 0 rfl) ?_
        refine lv_iconst (v := (nI 1)) hx hb dX1_countRuns_33 (by decide) ?_
        refine lv_lshl (v := (shlL (f (4 * k + i)) (nI 1))) hx hb dX1_countRuns_34 rfl ?_
        refine lv_lload hx hb dX1_countRuns_35 (lv_at hl 5 rfl) ?_
        refine lv_lor hx hb dX1_countRuns_37 ?_
        refine lv_ldc2 hx hb hown (hts (.constantLong RX1 31 (-1)) (by decide +kernel)) dX1_countRuns_38 ?_
        refine lv_lxor hx hb dX1_countRuns_41 ?_
        refine lv_land hx hb dX1_countRuns_42 ?_
        refine vp_callSi (va_Run.run (va_runS (As := [.long ((f (4 * k + i)) &&& (((shlL (f (4 * k + i)) (nI 1)) ||| (cy f (4 * k) i)) ^^^ (-1)))]) (rest := [.int (nI (ct (rsG (bitL f) (256 * k)) (256 * k) (64 * i)))]) ⟨hx, hb, hml, hown, hts⟩ (k_J13_bitCount_95d88 l D T ((f (4 * k + i)) &&& (((shlL (f (4 * k + i)) (nI 1)) ||| (cy f (4 * k) i)) ^^^ (-1))) ) (va_cwS 1 hts gX1_countRuns_J13_bitCount_95d88 rfl rfl rfl (by decide +kernel) ⟨Nat.le_of_ble_eq_true rfl, Nat.le_of_ble_eq_true rfl⟩) (pre_S (Φ := fun X => True) hK trivial) rfl rfl hl.1 rfl (lv_room (Nat.le_of_ble_eq_true rfl)) dX1_countRuns_43 ⟨Nat.le_of_ble_eq_true rfl, Nat.le_of_ble_eq_true rfl⟩)) (fun r_2 hr_2 => ?_)
        subst hr_2
        refine lv_iadd hx hb dX1_countRuns_46 ?_
        refine top_i (nI_add (ct (rsG (bitL f) (256 * k)) (256 * k) (64 * i)) (pop ((f (4 * k + i)) &&& (((shlL (f (4 * k + i)) (nI 1)) ||| (cy f (4 * k) i)) ^^^ (-1))))) ?_
        refine lv_istore_n (lv' := [(3, .int (nI ((ct (rsG (bitL f) (256 * k)) (256 * k) (64 * i)) + (pop ((f (4 * k + i)) &&& (((shlL (f (4 * k + i)) (nI 1)) ||| (cy f (4 * k) i)) ^^^ (-1))))))), (7, .long (f (4 * k + i))), (0, .ref h0), (1, .int (nI k)), (2, .int (nI m1)), (4, .long (cy f (4 * k) i)), (6, .int (nI i))]) hx hb dX1_countRuns_47 rfl hl (by decide) rfl (fun ls hl => ?_)
        refine lv_lload hx hb dX1_countRuns_48 (lv_at hl 1 rfl) ?_
        refine lv_bipush (v := (nI 63)) hx hb dX1_countRuns_50 (by decide) ?_
        refine lv_lushr (v := (ushrL (f (4 * k + i)) (nI 63))) hx hb dX1_countRuns_52 rfl ?_
        refine lv_lstore (lv' := [(4, .long (ushrL (f (4 * k + i)) (nI 63))), (3, .int (nI ((ct (rsG (bitL f) (256 * k)) (256 * k) (64 * i)) + (pop ((f (4 * k + i)) &&& (((shlL (f (4 * k + i)) (nI 1)) ||| (cy f (4 * k) i)) ^^^ (-1))))))), (7, .long (f (4 * k + i))), (0, .ref h0), (1, .int (nI k)), (2, .int (nI m1)), (6, .int (nI i))]) hx hb dX1_countRuns_53 hl (by decide) rfl (fun ls hl => ?_)
        refine lv_iinc (v := (nI (i + 1))) (lv' := [(6, .int (nI (i + 1))), (4, .long (ushrL (f (4 * k + i)) (nI 63))), (3, .int (nI ((ct (rsG (bitL f) (256 * k)) (256 * k) (64 * i)) + (pop ((f (4 * k + i)) &&& (((shlL (f (4 * k + i)) (nI 1)) ||| (cy f (4 * k) i)) ^^^ (-1))))))), (7, .long (f (4 * k + i))), (0, .ref h0), (1, .int (nI k)), (2, .int (nI m1))]) hx hb dX1_countRuns_55 hl (k := 6) rfl (iinc_n i 1) (by decide) rfl (fun ls hl => ?_)
        refine lv_goto (tgt := 8) hx hb dX1_countRuns_58 (by decide) ?_
        have hl := lv_sub hl (l' := [(0, .ref h0), (1, .int (nI k)), (2, .int (nI m1)), (3, .int (nI ((ct (rsG (bitL f) (256 * k)) (256 * k) (64 * i)) + (pop ((f (4 * k + i)) &&& (((shlL (f (4 * k + i)) (nI 1)) ||| (cy f (4 * k) i)) ^^^ (-1))))))), (4, .long (ushrL (f (4 * k + i)) (nI 63))), (6, .int (nI (i + 1)))]) [4, 5, 6, 2, 1, 0] rfl
        have q_1 : (nI ((ct (rsG (bitL f) (256 * k)) (256 * k) (64 * i)) + (pop ((f (4 * k + i)) &&& (((shlL (f (4 * k + i)) (nI 1)) ||| (cy f (4 * k) i)) ^^^ (-1)))))) = (nI (ct (rsG (bitL f) (256 * k)) (256 * k) (64 * (i + 1)))) := by rw [pop_runs, show 64 * (4 * k) = 256 * k by omega, show 64 * (i + 1) = 64 * i + 64 by omega, ct_add]
        have q_2 : (ushrL (f (4 * k + i)) (nI 63)) = (cy f (4 * k) (i + 1)) := cy_s _ _ _
        have hl : lv_has ls 9 [(0, .ref h0), (1, .int (nI k)), (2, .int (nI m1)), (3, .int (nI (ct (rsG (bitL f) (256 * k)) (256 * k) (64 * (i + 1))))), (4, .long (cy f (4 * k) (i + 1))), (6, .int (nI (i + 1)))] := by
          have h := hl
          rw [q_1] at h
          rw [q_2] at h
          exact h
        exact ih (i + 1) (by omega) ls hl (by omega)
  have hl := lv_sub hl (l' := [(0, .ref h0), (1, .int (nI k)), (2, .int (nI m1)), (3, .int (nI 0)), (4, .long 0), (6, .int (nI 0))]) [3, 4, 5, 2, 1, 0] rfl
  have q_1 : (nI 0) = (nI (ct (rsG (bitL f) (256 * k)) (256 * k) (64 * 0))) := rfl
  have q_2 : 0 = (cy f (4 * k) 0) := cy_0 _ _
  have hl : lv_has ls 9 [(0, .ref h0), (1, .int (nI k)), (2, .int (nI m1)), (3, .int (nI (ct (rsG (bitL f) (256 * k)) (256 * k) (64 * 0)))), (4, .long (cy f (4 * k) 0)), (6, .int (nI 0))] := by
    have h := hl
    rw [q_1] at h
    rw [q_2] at h
    exact h
  exact loop8 (64 - 0 + 1) 0 (Nat.zero_le _) ls hl (Nat.lt_succ_self _)
set_option maxHeartbeats 4000000 in
set_option maxRecDepth 100000 in
theorem k_X1_nthBit (l : Launch) (D : va_G) (T : Nat → ClassId) (w : Int64) (i : Nat) (hi : i < 2 ^ 31) : Met l yX1_nthBit wsX1_nthBit ({ frames := 0, cells := 0, slots := 0, locals := 0 }) (va_Pc [.long w, .int (nI i)] (fun U => KS D T U ∧ True)) (vp_Si (fun r => r = (nthF (lb w) 64 0 i))) 0 0 (fun _ => False) := by
  refine Met.ofW (cc := cX1_nthBit) (maxL := 5) (ret := (some .int)) (by decide) rfl ?_
  intro pg ev s m args below meth c s₁ B hml hv
  obtain ⟨rfl, hK, hH⟩ := hv
  have hx := B.exec
  have hb := B.bytes
  have hr := B.returns
  have hts := atoms_spec (ws := wsX1_nthBit) B.pre
  have hown : s.vm.findClass RX1 = some m.cls := findClass_of_methodNamed B.named
  have hlocks := B.notSynchronized
  have hl := lv_entry ([.long w, .int (nI i)]) (n := 5) (Nat.le_of_ble_eq_true rfl)
  rw [lg_entry_eq]
  generalize (lg_sl ([.long w, .int (nI i)]) ++ List.replicate (5 - (lg_sl ([.long w, .int (nI i)])).length) Slot.unset).toArray = ls at hl ⊢
  have hl : lv_has ls 5 [(0, .long w), (2, .int (nI i))] := hl
  refine W_gen (fun Q hQ => ?_)
  refine lv_iload_n hx hb dX1_nthBit_0 rfl (lv_at hl 1 rfl) ?_
  refine lv_istore_n (lv' := [(3, .int (nI i)), (0, .long w), (2, .int (nI i))]) hx hb dX1_nthBit_1 rfl hl (by decide) rfl (fun ls hl => ?_)
  refine lv_iconst (v := (nI 0)) hx hb dX1_nthBit_2 (by decide) ?_
  refine lv_istore (lv' := [(4, .int (nI 0)), (3, .int (nI i)), (0, .long w), (2, .int (nI i))]) hx hb dX1_nthBit_3 hl (by decide) rfl (fun ls hl => ?_)
  have loop5 : ∀ (n : Nat) (j : Nat) (q : Nat) (hj : j ≤ 64) (hq : q < 2 ^ 31) (hv : nthF (lb w) (64 - j) j q = nthF (lb w) 64 0 i) (ls : Array Slot) (hl : lv_has ls 5 [(0, .long w), (2, .int (nI i)), (3, .int (nI q)), (4, .int (nI j))]) (hn : 64 - j < n), W pg l ev (headSpec wsX1_nthBit ({ frames := 0, cells := 0, slots := 0, locals := 0 })).room s m ([.long w, .int (nI i)] : List Value).toArray below meth c s.heap [] 0 0 Q (F0 m 5 ls []) := by
    intro n
    induction n with
    | zero =>
      intro j q hj hq hv ls hl hn
      exact absurd hn (Nat.not_lt_zero _)
    | succ n ih =>
      intro j q hj hq hv ls hl hn
      refine lv_iload hx hb dX1_nthBit_5 (lv_at hl 3 rfl) ?_
      refine lv_bipush (v := (nI 64)) hx hb dX1_nthBit_7 (by decide) ?_
      refine lv_icmp_ge (tgt := 39) hx hb dX1_nthBit_9 (by decide) (fun c_1 => ?_) (fun c_1 => ?_)
      · skip
        have c_1 : 64 ≤ j := (nI_leI (a := 64) (b := j) (by omega) (by omega)).mp c_1
        refine lv_bipush (v := (-9)) hx hb dX1_nthBit_39 (by decide) ?_
        subst hQ
        refine W.iret (v := (-9)) hx hb hr (fun t ht hW => ⟨(-9), rfl, ?_, ht⟩) (fun q h => absurd h List.not_mem_nil) dX1_nthBit_41
        rw [← hv, show 64 - j = 0 by omega]
        exact rfl
      · skip
        have c_1 : ¬ (64 ≤ j) := fun z => c_1 ((nI_leI (a := 64) (b := j) (by omega) (by omega)).mpr z)
        refine lv_lload_n hx hb dX1_nthBit_12 rfl (lv_at hl 0 rfl) ?_
        refine lv_iload hx hb dX1_nthBit_13 (lv_at hl 3 rfl) ?_
        refine lv_lushr (v := (ushrL w (nI j))) hx hb dX1_nthBit_15 rfl ?_
        refine lv_lconst (v := 1) hx hb dX1_nthBit_16 rfl ?_
        refine lv_land hx hb dX1_nthBit_17 ?_
        refine lv_lconst (v := 0) hx hb dX1_nthBit_18 rfl ?_
        refine W.lcmp hx hb dX1_nthBit_19 ?_
        refine top_i (x' := (b2i (lb w j))) (lcmp_bit _ (by omega)) ?_
        refine lv_if_eq (tgt := 33) hx hb dX1_nthBit_20 (by decide) (fun c_2 => ?_) (fun c_2 => ?_)
        · skip
          have c_2 : lb w j = false := b2i_0.mp c_2
          refine lv_iinc (v := (nI (j + 1))) (lv' := [(4, .int (nI (j + 1))), (0, .long w), (2, .int (nI i)), (3, .int (nI q))]) hx hb dX1_nthBit_33 hl (k := 3) rfl (iinc_n j 1) (by decide) rfl (fun ls hl => ?_)
          refine lv_goto (tgt := 5) hx hb dX1_nthBit_36 (by decide) ?_
          have hl := lv_sub hl (l' := [(0, .long w), (2, .int (nI i)), (3, .int (nI q)), (4, .int (nI (j + 1)))]) [1, 2, 3, 0] rfl
          exact ih (j + 1) q (by omega) (by omega) (by rw [show 64 - j = (64 - (j + 1)) + 1 by omega, nthF_s (lb w) (64 - (j + 1)) j q] at hv; rw [if_neg (show ¬ (lb w j = true) by rw [c_2]; exact Bool.false_ne_true)] at hv; exact hv) ls hl (by omega)
        · skip
          have c_2 : lb w j = true := b2i_n0.mp c_2
          refine lv_iload_n hx hb dX1_nthBit_23 rfl (lv_at hl 2 rfl) ?_
          refine lv_if_ne (tgt := 30) hx hb dX1_nthBit_24 (by decide) (fun c_3 => ?_) (fun c_3 => ?_)
          · skip
            have c_3 : ¬ (q = 0) := fun z => c_3 ((nI_e0 (a := q) (by omega)).mpr z)
            refine lv_iinc (v := (nI (q - 1))) (lv' := [(3, .int (nI (q - 1))), (0, .long w), (2, .int (nI i)), (4, .int (nI j))]) hx hb dX1_nthBit_30 hl (k := 2) rfl (iinc_m (a := q) (by omega)) (by decide) rfl (fun ls hl => ?_)
            refine lv_iinc (v := (nI (j + 1))) (lv' := [(4, .int (nI (j + 1))), (3, .int (nI (q - 1))), (0, .long w), (2, .int (nI i))]) hx hb dX1_nthBit_33 hl (k := 3) rfl (iinc_n j 1) (by decide) rfl (fun ls hl => ?_)
            refine lv_goto (tgt := 5) hx hb dX1_nthBit_36 (by decide) ?_
            have hl := lv_sub hl (l' := [(0, .long w), (2, .int (nI i)), (3, .int (nI (q - 1))), (4, .int (nI (j + 1)))]) [2, 3, 1, 0] rfl
            exact ih (j + 1) (q - 1) (by omega) (by omega) (by rw [show 64 - j = (64 - (j + 1)) + 1 by omega, nthF_s (lb w) (64 - (j + 1)) j q] at hv; rw [if_pos c_2, if_neg c_3] at hv; exact hv) ls hl (by omega)
          · skip
            have c_3 : q = 0 := (nI_e0 (a := q) (by omega)).mp c_3
            refine lv_iload hx hb dX1_nthBit_27 (lv_at hl 3 rfl) ?_
            subst hQ
            refine W.iret (v := (nI j)) hx hb hr (fun t ht hW => ⟨(nI j), rfl, ?_, ht⟩) (fun q h => absurd h List.not_mem_nil) dX1_nthBit_29
            rw [← hv, show 64 - j = (64 - (j + 1)) + 1 by omega, nthF_s (lb w) (64 - (j + 1)) j q, if_pos c_2, if_pos c_3]
  have hl := lv_sub hl (l' := [(0, .long w), (2, .int (nI i)), (3, .int (nI i)), (4, .int (nI 0))]) [2, 3, 1, 0] rfl
  exact loop5 (64 - 0 + 1) 0 i (Nat.zero_le _) (hi) (rfl) ls hl (Nat.lt_succ_self _)
set_option maxHeartbeats 4000000 in
set_option maxRecDepth 100000 in
theorem k_X1_nth (l : Launch) (D : va_G) (T : Nat → ClassId) (h0 : Nat) (w0 : Nat) (f : Nat → Int64) (i : Int32) : Met l yX1_nth wsX1_nth ({ frames := 1, cells := 0, slots := 0, locals := 24 }) (va_Pc [.ref h0, .int i] (fun U => KS D T U ∧ Num D T U.heap h0 w0 f)) (vp_Si (fun r => r = (nthA (bitL f) i))) 0 0 (fun _ => False) := by
  refine Met.ofW (cc := cX1_nth) (maxL := 5) (ret := (some .int)) (by decide) rfl ?_
  intro pg ev s m args below meth c s₁ B hml hv
  obtain ⟨rfl, hK, hH⟩ := hv
  have hx := B.exec
  have hb := B.bytes
  have hr := B.returns
  have hts := atoms_spec (ws := wsX1_nth) B.pre
  have hown : s.vm.findClass RX1 = some m.cls := findClass_of_methodNamed B.named
  have hlocks := B.notSynchronized
  have in_wsX10 : ∀ w ∈ wsX10, w ∈ wsX1_nth := fun w h => List.mem_cons_of_mem _ (List.mem_append_right _ h)
  have hl := lv_entry ([.ref h0, .int i]) (n := 5) (Nat.le_of_ble_eq_true rfl)
  rw [lg_entry_eq]
  generalize (lg_sl ([.ref h0, .int i]) ++ List.replicate (5 - (lg_sl ([.ref h0, .int i])).length) Slot.unset).toArray = ls at hl ⊢
  have hl : lv_has ls 5 [(0, .ref h0), (1, .int i)] := hl
  refine W_gen (fun Q hQ => ?_)
  have hN := hH
  refine lv_iload_n hx hb dX1_nth_0 rfl (lv_at hl 1 rfl) ?_
  refine lv_if_ge (tgt := 7) hx hb dX1_nth_1 (by decide) (fun c_1 => ?_) (fun c_1 => ?_)
  · skip
    have hb31 := cl_b i
    refine lv_iload_n hx hb dX1_nth_7 rfl (lv_at hl 1 rfl) ?_
    refine top_i (x' := (nI i.toNatClampNeg)) (nI_cl (Int32.not_lt.mpr c_1)) ?_
    refine lv_istore_n (lv' := [(2, .int (nI i.toNatClampNeg)), (0, .ref h0), (1, .int i)]) hx hb dX1_nth_8 rfl hl (by decide) rfl (fun ls hl => ?_)
    refine lv_iconst (v := (nI 0)) hx hb dX1_nth_9 (by decide) ?_
    refine lv_istore_n (lv' := [(3, .int (nI 0)), (2, .int (nI i.toNatClampNeg)), (0, .ref h0), (1, .int i)]) hx hb dX1_nth_10 rfl hl (by decide) rfl (fun ls hl => ?_)
    have loop11 : ∀ (n : Nat) (j : Nat) (q : Nat) (hj : j ≤ 64) (hq : q < 2 ^ 31) (hv : nthF (bitL f) (64 * (64 - j)) (64 * j) q = nthF (bitL f) 4096 0 i.toNatClampNeg) (ls : Array Slot) (hl : lv_has ls 5 [(0, .ref h0), (1, .int i), (2, .int (nI q)), (3, .int (nI j))]) (hn : 64 - j < n), W pg l ev (headSpec wsX1_nth ({ frames := 1, cells := 0, slots := 0, locals := 24 })).room s m ([.ref h0, .int i] : List Value).toArray below meth c s.heap [] 0 0 Q (F0 m 11 ls []) := by
      intro n
      induction n with
      | zero =>
        intro j q hj hq hv ls hl hn
        exact absurd hn (Nat.not_lt_zero _)
      | succ n ih =>
        intro j q hj hq hv ls hl hn
        have hpl := pop_le (f j)
        refine lv_iload_n hx hb dX1_nth_11 rfl (lv_at hl 3 rfl) ?_
        refine lv_bipush (v := (nI 64)) hx hb dX1_nth_12 (by decide) ?_
        refine lv_icmp_ge (tgt := 61) hx hb dX1_nth_14 (by decide) (fun c_2 => ?_) (fun c_2 => ?_)
        · skip
          have c_2 : 64 ≤ j := (nI_leI (a := 64) (b := j) (by omega) (by omega)).mp c_2
          refine lv_bipush (v := (-9)) hx hb dX1_nth_61 (by decide) ?_
          subst hQ
          refine W.iret (v := (-9)) hx hb hr (fun t ht hW => ⟨(-9), rfl, ?_, ht⟩) (fun q h => absurd h List.not_mem_nil) dX1_nth_63
          unfold nthA
          rw [if_neg (Int32.not_lt.mpr c_1), ← hv, show 64 * (64 - j) = 0 by omega]
          exact rfl
        · skip
          have c_2 : ¬ (64 ≤ j) := fun z => c_2 ((nI_leI (a := 64) (b := j) (by omega) (by omega)).mpr z)
          refine lv_aload_n hx hb dX1_nth_17 rfl (lv_at hl 0 rfl) ?_
          refine r_get (C := RX1) (Tb := TX1) (N := 1) hx hb hts in_wsX10 hown hK (hN.1) rfl 0 (by decide) (hts (.fieldLink RX1 9 "PieceSets$Numbers" "words" "[J") (by decide +kernel)) rfl (v := .ref w0) rfl dX1_nth_18 ?_
          refine lv_iload_n hx hb dX1_nth_21 rfl (lv_at hl 3 rfl) ?_
          refine r_lald hx hb hK (hN.2) (i := j) (by omega) (by decide) dX1_nth_22 ?_
          refine vp_callSi (va_Run.run (va_runS (As := [.long (f j)]) (rest := []) ⟨hx, hb, hml, hown, hts⟩ (k_J13_bitCount_95d88 l D T (f j) ) (va_cwS 1 hts gX1_nth_J13_bitCount_95d88 rfl rfl rfl (by decide +kernel) ⟨Nat.le_of_ble_eq_true rfl, Nat.le_of_ble_eq_true rfl⟩) (pre_S (Φ := fun X => True) hK trivial) rfl rfl hl.1 rfl (lv_room (Nat.le_of_ble_eq_true rfl)) dX1_nth_23 ⟨Nat.le_of_ble_eq_true rfl, Nat.le_of_ble_eq_true rfl⟩)) (fun r_1 hr_1 => ?_)
          subst hr_1
          refine lv_istore (lv' := [(4, .int (nI (pop (f j)))), (0, .ref h0), (1, .int i), (2, .int (nI q)), (3, .int (nI j))]) hx hb dX1_nth_26 hl (by decide) rfl (fun ls hl => ?_)
          refine lv_iload_n hx hb dX1_nth_28 rfl (lv_at hl 3 rfl) ?_
          refine lv_iload hx hb dX1_nth_29 (lv_at hl 0 rfl) ?_
          refine lv_icmp_ge (tgt := 50) hx hb dX1_nth_31 (by decide) (fun c_3 => ?_) (fun c_3 => ?_)
          · skip
            have c_3 : (pop (f j)) ≤ q := (nI_leI (a := (pop (f j))) (b := q) (by omega) (by omega)).mp c_3
            refine lv_iload_n hx hb dX1_nth_50 rfl (lv_at hl 3 rfl) ?_
            refine lv_iload hx hb dX1_nth_51 (lv_at hl 0 rfl) ?_
            refine lv_isub hx hb dX1_nth_53 ?_
            refine top_i (pk_sub (a := q) (b := pop (f j)) (by omega)) ?_
            refine lv_istore_n (lv' := [(2, .int (nI (q - (pop (f j))))), (4, .int (nI (pop (f j)))), (0, .ref h0), (1, .int i), (3, .int (nI j))]) hx hb dX1_nth_54 rfl hl (by decide) rfl (fun ls hl => ?_)
            refine lv_iinc (v := (nI (j + 1))) (lv' := [(3, .int (nI (j + 1))), (2, .int (nI (q - (pop (f j))))), (4, .int (nI (pop (f j)))), (0, .ref h0), (1, .int i)]) hx hb dX1_nth_55 hl (k := 4) rfl (iinc_n j 1) (by decide) rfl (fun ls hl => ?_)
            refine lv_goto (tgt := 11) hx hb dX1_nth_58 (by decide) ?_
            have hl := lv_sub hl (l' := [(0, .ref h0), (1, .int i), (2, .int (nI (q - (pop (f j))))), (3, .int (nI (j + 1)))]) [3, 4, 1, 0] rfl
            exact ih (j + 1) (q - (pop (f j))) (by omega) (by omega) (by rw [show 64 * (64 - j) = 64 + 64 * (64 - (j + 1)) by omega, nthF_add, if_neg (by rw [← pop_ct]; omega), ← pop_ct] at hv; exact hv) ls hl (by omega)
          · skip
            have c_3 : ¬ ((pop (f j)) ≤ q) := fun z => c_3 ((nI_leI (a := (pop (f j))) (b := q) (by omega) (by omega)).mpr z)
            refine lv_bipush (v := (nI 64)) hx hb dX1_nth_34 (by decide) ?_
            refine lv_iload_n hx hb dX1_nth_36 rfl (lv_at hl 4 rfl) ?_
            refine lv_imul hx hb dX1_nth_37 ?_
            refine top_i (pk_mul 64 j) ?_
            refine lv_aload_n hx hb dX1_nth_38 rfl (lv_at hl 1 rfl) ?_
            refine r_get (C := RX1) (Tb := TX1) (N := 1) hx hb hts in_wsX10 hown hK (hN.1) rfl 0 (by decide) (hts (.fieldLink RX1 9 "PieceSets$Numbers" "words" "[J") (by decide +kernel)) rfl (v := .ref w0) rfl dX1_nth_39 ?_
            refine lv_iload_n hx hb dX1_nth_42 rfl (lv_at hl 4 rfl) ?_
            refine r_lald hx hb hK (hN.2) (i := j) (by omega) (by decide) dX1_nth_43 ?_
            refine lv_iload_n hx hb dX1_nth_44 rfl (lv_at hl 3 rfl) ?_
            refine vp_callSi (va_Run.run (va_runS (As := [.long (f j), .int (nI q)]) (rest := [.int (nI (64 * j))]) ⟨hx, hb, hml, hown, hts⟩ (k_X1_nthBit l D T (f j) q (by omega)) (va_cwS 2 hts gX1_nth_X1_nthBit rfl rfl rfl (by decide +kernel) ⟨Nat.le_of_ble_eq_true rfl, Nat.le_of_ble_eq_true rfl⟩) (pre_S (Φ := fun X => True) hK trivial) rfl rfl hl.1 rfl (lv_room (Nat.le_of_ble_eq_true rfl)) dX1_nth_45 ⟨Nat.le_of_ble_eq_true rfl, Nat.le_of_ble_eq_true rfl⟩)) (fun r_2 hr_2 => ?_)
            subst hr_2
            refine lv_iadd hx hb dX1_nth_48 ?_
            subst hQ
            refine W.iret (v := ((nI (64 * j)) + (nthF (lb (f j)) 64 0 q))) hx hb hr (fun t ht hW => ⟨((nI (64 * j)) + (nthF (lb (f j)) 64 0 q)), rfl, ?_, ht⟩) (fun q h => absurd h List.not_mem_nil) dX1_nth_49
            unfold nthA
            rw [if_neg (Int32.not_lt.mpr c_1), ← hv, show 64 * (64 - j) = 64 + 64 * (64 - (j + 1)) by omega, nthF_add, if_pos (by rw [← pop_ct]; omega)]
            exact nth_word f (by omega) (by omega)
    have hl := lv_sub hl (l' := [(0, .ref h0), (1, .int i), (2, .int (nI i.toNatClampNeg)), (3, .int (nI 0))]) [2, 3, 1, 0] rfl
    exact loop11 (64 - 0 + 1) 0 i.toNatClampNeg (Nat.zero_le _) (hb31) (rfl) ls hl (Nat.lt_succ_self _)
  · skip
    refine lv_bipush (v := (-9)) hx hb dX1_nth_4 (by decide) ?_
    subst hQ
    refine W.iret (v := (-9)) hx hb hr (fun t ht hW => ⟨(-9), rfl, ?_, ht⟩) (fun q h => absurd h List.not_mem_nil) dX1_nth_6
    exact (if_pos (Int32.not_le.mp c_1)).symm
set_option maxHeartbeats 4000000 in
set_option maxRecDepth 100000 in
theorem k_X1_kindOf (l : Launch) (D : va_G) (T : Nat → ClassId) (h0 : Nat) (w0 : Nat) (f : Nat → Int64) (k : Nat) (hk : k < 16) : Met l yX1_kindOf wsX1_kindOf ({ frames := 2, cells := 0, slots := 0, locals := 49 }) (va_Pc [.ref h0, .int (nI k)] (fun U => KS D T U ∧ Num D T U.heap h0 w0 f)) (vp_Si (fun r => r = (pkd (bitL f) k))) 0 0 (fun _ => False) := by
  refine Met.ofW (cc := cX1_kindOf) (maxL := 5) (ret := (some .int)) (by decide) rfl ?_
  intro pg ev s m args below meth c s₁ B hml hv
  obtain ⟨rfl, hK, hH⟩ := hv
  have hx := B.exec
  have hb := B.bytes
  have hr := B.returns
  have hts := atoms_spec (ws := wsX1_kindOf) B.pre
  have hown : s.vm.findClass RX1 = some m.cls := findClass_of_methodNamed B.named
  have hlocks := B.notSynchronized
  have in_wsX10 : ∀ w ∈ wsX10, w ∈ wsX1_kindOf := fun w h => List.mem_cons_of_mem _ (List.mem_append_right _ h)
  have hl := lv_entry ([.ref h0, .int (nI k)]) (n := 5) (Nat.le_of_ble_eq_true rfl)
  rw [lg_entry_eq]
  generalize (lg_sl ([.ref h0, .int (nI k)]) ++ List.replicate (5 - (lg_sl ([.ref h0, .int (nI k)])).length) Slot.unset).toArray = ls at hl ⊢
  have hl : lv_has ls 5 [(0, .ref h0), (1, .int (nI k))] := hl
  refine W_gen (fun Q hQ => ?_)
  have hN := hH
  have hpn := ct_le (bitL f) (256 * k) 256
  have hpr := ct_le (rsG (bitL f) (256 * k)) (256 * k) (256 * 1)
  refine lv_aload_n hx hb dX1_kindOf_0 rfl (lv_at hl 0 rfl) ?_
  refine lv_iload_n hx hb dX1_kindOf_1 rfl (lv_at hl 1 rfl) ?_
  refine vp_callSi (va_Run.run (va_runV (As := [.int (nI k)]) (rest := []) ⟨hx, hb, hml, hown, hts⟩ (k_X1_countInPiece l D T h0 w0 f k (by omega)) (cwV 1 hts gX1_kindOf_X1_countInPiece rfl rfl rfl (by decide +kernel) ⟨Nat.le_of_ble_eq_true rfl, Nat.le_of_ble_eq_true rfl⟩) (pre_V (Φ := fun X => Num D T X h0 w0 f) hK (hN.1) rfl hN) rfl rfl hl.1 rfl (lv_room (Nat.le_of_ble_eq_true rfl)) dX1_kindOf_2 ⟨Nat.le_of_ble_eq_true rfl, Nat.le_of_ble_eq_true rfl⟩)) (fun r_1 hr_1 => ?_)
  subst hr_1
  refine lv_istore_n (lv' := [(2, .int (nI (ct (bitL f) (256 * k) 256))), (0, .ref h0), (1, .int (nI k))]) hx hb dX1_kindOf_5 rfl hl (by decide) rfl (fun ls hl => ?_)
  refine lv_iload_n hx hb dX1_kindOf_6 rfl (lv_at hl 0 rfl) ?_
  refine lv_if_ne (tgt := 13) hx hb dX1_kindOf_7 (by decide) (fun c_1 => ?_) (fun c_1 => ?_)
  · skip
    have c_1 : ¬ ((ct (bitL f) (256 * k) 256) = 0) := fun z => c_1 ((nI_e0 (a := (ct (bitL f) (256 * k) 256)) (by omega)).mpr z)
    refine lv_iconst (v := (nI 2)) hx hb dX1_kindOf_13 (by decide) ?_
    refine lv_iload_n hx hb dX1_kindOf_14 rfl (lv_at hl 0 rfl) ?_
    refine lv_iadd hx hb dX1_kindOf_15 ?_
    refine top_i (nI_add 2 (ct (bitL f) (256 * k) 256)) ?_
    refine lv_istore_n (lv' := [(3, .int (nI (2 + (ct (bitL f) (256 * k) 256)))), (2, .int (nI (ct (bitL f) (256 * k) 256))), (0, .ref h0), (1, .int (nI k))]) hx hb dX1_kindOf_16 rfl hl (by decide) rfl (fun ls hl => ?_)
    refine lv_iconst (v := (nI 2)) hx hb dX1_kindOf_17 (by decide) ?_
    refine lv_iconst (v := (nI 2)) hx hb dX1_kindOf_18 (by decide) ?_
    refine lv_aload_n hx hb dX1_kindOf_19 rfl (lv_at hl 2 rfl) ?_
    refine lv_iload_n hx hb dX1_kindOf_20 rfl (lv_at hl 3 rfl) ?_
    refine lv_iconst (v := (nI 1)) hx hb dX1_kindOf_21 (by decide) ?_
    refine vp_callSi (va_Run.run (va_runV (As := [.int (nI k), .int (nI 1)]) (rest := [.int (nI 2), .int (nI 2)]) ⟨hx, hb, hml, hown, hts⟩ (k_X1_countRuns l D T h0 w0 f k 1 (by omega)) (cwV 2 hts gX1_kindOf_X1_countRuns rfl rfl rfl (by decide +kernel) ⟨Nat.le_of_ble_eq_true rfl, Nat.le_of_ble_eq_true rfl⟩) (pre_V (Φ := fun X => Num D T X h0 w0 f) hK (hN.1) rfl hN) rfl rfl hl.1 rfl (lv_room (Nat.le_of_ble_eq_true rfl)) dX1_kindOf_22 ⟨Nat.le_of_ble_eq_true rfl, Nat.le_of_ble_eq_true rfl⟩)) (fun r_2 hr_2 => ?_)
    subst hr_2
    refine lv_imul hx hb dX1_kindOf_25 ?_
    refine top_i (pk_mul 2 (ct (rsG (bitL f) (256 * k)) (256 * k) (256 * 1))) ?_
    refine lv_iadd hx hb dX1_kindOf_26 ?_
    refine top_i (nI_add 2 (2 * (ct (rsG (bitL f) (256 * k)) (256 * k) (256 * 1)))) ?_
    refine lv_istore (lv' := [(4, .int (nI (2 + (2 * (ct (rsG (bitL f) (256 * k)) (256 * k) (256 * 1)))))), (3, .int (nI (2 + (ct (bitL f) (256 * k) 256)))), (2, .int (nI (ct (bitL f) (256 * k) 256))), (0, .ref h0), (1, .int (nI k))]) hx hb dX1_kindOf_27 hl (by decide) rfl (fun ls hl => ?_)
    refine lv_iload_n hx hb dX1_kindOf_29 rfl (lv_at hl 1 rfl) ?_
    refine lv_iload hx hb dX1_kindOf_30 (lv_at hl 0 rfl) ?_
    refine lv_icmp_gt (tgt := 43) hx hb dX1_kindOf_32 (by decide) (fun c_2 => ?_) (fun c_2 => ?_)
    · skip
      have c_2 : (2 + (2 * (ct (rsG (bitL f) (256 * k)) (256 * k) (256 * 1)))) < (2 + (ct (bitL f) (256 * k) 256)) := (nI_ltI (a := (2 + (2 * (ct (rsG (bitL f) (256 * k)) (256 * k) (256 * 1))))) (b := (2 + (ct (bitL f) (256 * k) 256))) (by omega) (by omega)).mp c_2
      refine lv_iload hx hb dX1_kindOf_43 (lv_at hl 0 rfl) ?_
      refine lv_bipush (v := (nI 33)) hx hb dX1_kindOf_45 (by decide) ?_
      refine lv_icmp_gt (tgt := 54) hx hb dX1_kindOf_47 (by decide) (fun c_3 => ?_) (fun c_3 => ?_)
      · skip
        have c_3 : 33 < (2 + (2 * (ct (rsG (bitL f) (256 * k)) (256 * k) (256 * 1)))) := (nI_ltI (a := 33) (b := (2 + (2 * (ct (rsG (bitL f) (256 * k)) (256 * k) (256 * 1))))) (by omega) (by omega)).mp c_3
        refine lv_iconst (v := (nI 2)) hx hb dX1_kindOf_54 (by decide) ?_
        subst hQ
        refine W.iret (v := (nI 2)) hx hb hr (fun t ht hW => ⟨(nI 2), rfl, ?_, ht⟩) (fun q h => absurd h List.not_mem_nil) dX1_kindOf_55
        first | exact (kd_b c_1 (Or.inl c_2) c_4).symm | exact (kd_b c_1 (Or.inr c_3) c_5).symm | exact (kd_b c_1 (Or.inl c_2) c_3).symm | exact (kd_b c_1 (Or.inr c_3) c_4).symm
      · skip
        have c_3 : ¬ (33 < (2 + (2 * (ct (rsG (bitL f) (256 * k)) (256 * k) (256 * 1))))) := fun z => c_3 ((nI_ltI (a := 33) (b := (2 + (2 * (ct (rsG (bitL f) (256 * k)) (256 * k) (256 * 1))))) (by omega) (by omega)).mpr z)
        refine lv_iconst (v := (nI 1)) hx hb dX1_kindOf_50 (by decide) ?_
        refine lv_goto (tgt := 55) hx hb dX1_kindOf_51 (by decide) ?_
        subst hQ
        refine W.iret (v := (nI 1)) hx hb hr (fun t ht hW => ⟨(nI 1), rfl, ?_, ht⟩) (fun q h => absurd h List.not_mem_nil) dX1_kindOf_55
        first | exact (kd_r c_1 (Or.inl c_2) c_4).symm | exact (kd_r c_1 (Or.inr c_3) c_5).symm | exact (kd_r c_1 (Or.inl c_2) c_3).symm | exact (kd_r c_1 (Or.inr c_3) c_4).symm
    · skip
      have c_2 : ¬ ((2 + (2 * (ct (rsG (bitL f) (256 * k)) (256 * k) (256 * 1)))) < (2 + (ct (bitL f) (256 * k) 256))) := fun z => c_2 ((nI_ltI (a := (2 + (2 * (ct (rsG (bitL f) (256 * k)) (256 * k) (256 * 1))))) (b := (2 + (ct (bitL f) (256 * k) 256))) (by omega) (by omega)).mpr z)
      refine lv_iload_n hx hb dX1_kindOf_35 rfl (lv_at hl 1 rfl) ?_
      refine lv_bipush (v := (nI 33)) hx hb dX1_kindOf_36 (by decide) ?_
      refine lv_icmp_gt (tgt := 43) hx hb dX1_kindOf_38 (by decide) (fun c_3 => ?_) (fun c_3 => ?_)
      · skip
        have c_3 : 33 < (2 + (ct (bitL f) (256 * k) 256)) := (nI_ltI (a := 33) (b := (2 + (ct (bitL f) (256 * k) 256))) (by omega) (by omega)).mp c_3
        refine lv_iload hx hb dX1_kindOf_43 (lv_at hl 0 rfl) ?_
        refine lv_bipush (v := (nI 33)) hx hb dX1_kindOf_45 (by decide) ?_
        refine lv_icmp_gt (tgt := 54) hx hb dX1_kindOf_47 (by decide) (fun c_4 => ?_) (fun c_4 => ?_)
        · skip
          have c_4 : 33 < (2 + (2 * (ct (rsG (bitL f) (256 * k)) (256 * k) (256 * 1)))) := (nI_ltI (a := 33) (b := (2 + (2 * (ct (rsG (bitL f) (256 * k)) (256 * k) (256 * 1))))) (by omega) (by omega)).mp c_4
          refine lv_iconst (v := (nI 2)) hx hb dX1_kindOf_54 (by decide) ?_
          subst hQ
          refine W.iret (v := (nI 2)) hx hb hr (fun t ht hW => ⟨(nI 2), rfl, ?_, ht⟩) (fun q h => absurd h List.not_mem_nil) dX1_kindOf_55
          first | exact (kd_b c_1 (Or.inl c_2) c_4).symm | exact (kd_b c_1 (Or.inr c_3) c_5).symm | exact (kd_b c_1 (Or.inl c_2) c_3).symm | exact (kd_b c_1 (Or.inr c_3) c_4).symm
        · skip
          have c_4 : ¬ (33 < (2 + (2 * (ct (rsG (bitL f) (256 * k)) (256 * k) (256 * 1))))) := fun z => c_4 ((nI_ltI (a := 33) (b := (2 + (2 * (ct (rsG (bitL f) (256 * k)) (256 * k) (256 * 1))))) (by omega) (by omega)).mpr z)
          refine lv_iconst (v := (nI 1)) hx hb dX1_kindOf_50 (by decide) ?_
          refine lv_goto (tgt := 55) hx hb dX1_kindOf_51 (by decide) ?_
          subst hQ
          refine W.iret (v := (nI 1)) hx hb hr (fun t ht hW => ⟨(nI 1), rfl, ?_, ht⟩) (fun q h => absurd h List.not_mem_nil) dX1_kindOf_55
          first | exact (kd_r c_1 (Or.inl c_2) c_4).symm | exact (kd_r c_1 (Or.inr c_3) c_5).symm | exact (kd_r c_1 (Or.inl c_2) c_3).symm | exact (kd_r c_1 (Or.inr c_3) c_4).symm
      · skip
        have c_3 : ¬ (33 < (2 + (ct (bitL f) (256 * k) 256))) := fun z => c_3 ((nI_ltI (a := 33) (b := (2 + (ct (bitL f) (256 * k) 256))) (by omega) (by omega)).mpr z)
        refine lv_iconst (v := (nI 0)) hx hb dX1_kindOf_41 (by decide) ?_
        subst hQ
        refine W.iret (v := (nI 0)) hx hb hr (fun t ht hW => ⟨(nI 0), rfl, ?_, ht⟩) (fun q h => absurd h List.not_mem_nil) dX1_kindOf_42
        exact (kd_a c_1 c_2 c_3).symm
  · skip
    have c_1 : (ct (bitL f) (256 * k) 256) = 0 := (nI_e0 (a := (ct (bitL f) (256 * k) 256)) (by omega)).mp c_1
    refine lv_bipush (v := (-9)) hx hb dX1_kindOf_10 (by decide) ?_
    subst hQ
    refine W.iret (v := (-9)) hx hb hr (fun t ht hW => ⟨(-9), rfl, ?_, ht⟩) (fun q h => absurd h List.not_mem_nil) dX1_kindOf_12
    exact (kd_0 c_1).symm
set_option maxHeartbeats 4000000 in
set_option maxRecDepth 100000 in
theorem k_X1_costOf (l : Launch) (D : va_G) (T : Nat → ClassId) (h0 : Nat) (w0 : Nat) (f : Nat → Int64) (k : Nat) (hk : k < 16) : Met l yX1_costOf wsX1_costOf ({ frames := 3, cells := 0, slots := 0, locals := 73 }) (va_Pc [.ref h0, .int (nI k)] (fun U => KS D T U ∧ Num D T U.heap h0 w0 f)) (vp_Si (fun r => r = (nI (cst (pn (bitL f) k) (pr (bitL f) k))))) 0 0 (fun _ => False) := by
  refine Met.ofW (cc := cX1_costOf) (maxL := 2) (ret := (some .int)) (by decide) rfl ?_
  intro pg ev s m args below meth c s₁ B hml hv
  obtain ⟨rfl, hK, hH⟩ := hv
  have hx := B.exec
  have hb := B.bytes
  have hr := B.returns
  have hts := atoms_spec (ws := wsX1_costOf) B.pre
  have hown : s.vm.findClass RX1 = some m.cls := findClass_of_methodNamed B.named
  have hlocks := B.notSynchronized
  have in_wsX10 : ∀ w ∈ wsX10, w ∈ wsX1_costOf := fun w h => List.mem_cons_of_mem _ (List.mem_append_right _ h)
  have hl := lv_entry ([.ref h0, .int (nI k)]) (n := 2) (Nat.le_of_ble_eq_true rfl)
  rw [lg_entry_eq]
  generalize (lg_sl ([.ref h0, .int (nI k)]) ++ List.replicate (2 - (lg_sl ([.ref h0, .int (nI k)])).length) Slot.unset).toArray = ls at hl ⊢
  have hl : lv_has ls 2 [(0, .ref h0), (1, .int (nI k))] := hl
  refine W_gen (fun Q hQ => ?_)
  have hN := hH
  refine lv_aload_n hx hb dX1_costOf_0 rfl (lv_at hl 0 rfl) ?_
  refine lv_iload_n hx hb dX1_costOf_1 rfl (lv_at hl 1 rfl) ?_
  refine vp_callSi (va_Run.run (va_runV (As := [.int (nI k)]) (rest := []) ⟨hx, hb, hml, hown, hts⟩ (k_X1_kindOf l D T h0 w0 f k (by omega)) (cwV 1 hts gX1_costOf_X1_kindOf rfl rfl rfl (by decide +kernel) ⟨Nat.le_of_ble_eq_true rfl, Nat.le_of_ble_eq_true rfl⟩) (pre_V (Φ := fun X => Num D T X h0 w0 f) hK (hN.1) rfl hN) rfl rfl hl.1 rfl (lv_room (Nat.le_of_ble_eq_true rfl)) dX1_costOf_2 ⟨Nat.le_of_ble_eq_true rfl, Nat.le_of_ble_eq_true rfl⟩)) (fun r_1 hr_1 => ?_)
  subst hr_1
  by_cases c_1 : (pkd (bitL f) k) = nI 0
  · skip
    refine top_i (x' := nI 0) (c_1) ?_
    refine lv_tableIn (tgt := 32) (off := 27) hx hb dX1_costOf_5 (by decide) (by decide) (by decide) (by decide) ?_
    refine lv_iconst (v := (nI 2)) hx hb dX1_costOf_32 (by decide) ?_
    refine lv_aload_n hx hb dX1_costOf_33 rfl (lv_at hl 0 rfl) ?_
    refine lv_iload_n hx hb dX1_costOf_34 rfl (lv_at hl 1 rfl) ?_
    refine vp_callSi (va_Run.run (va_runV (As := [.int (nI k)]) (rest := [.int (nI 2)]) ⟨hx, hb, hml, hown, hts⟩ (k_X1_countInPiece l D T h0 w0 f k (by omega)) (cwV 1 hts gX1_costOf_X1_countInPiece rfl rfl rfl (by decide +kernel) ⟨Nat.le_of_ble_eq_true rfl, Nat.le_of_ble_eq_true rfl⟩) (pre_V (Φ := fun X => Num D T X h0 w0 f) hK (hN.1) rfl hN) rfl rfl hl.1 rfl (lv_room (Nat.le_of_ble_eq_true rfl)) dX1_costOf_35 ⟨Nat.le_of_ble_eq_true rfl, Nat.le_of_ble_eq_true rfl⟩)) (fun r_2 hr_2 => ?_)
    subst hr_2
    refine lv_iadd hx hb dX1_costOf_38 ?_
    refine top_i (nI_add 2 (ct (bitL f) (256 * k) 256)) ?_
    subst hQ
    refine W.iret (v := (nI (2 + (ct (bitL f) (256 * k) 256)))) hx hb hr (fun t ht hW => ⟨(nI (2 + (ct (bitL f) (256 * k) 256))), rfl, ?_, ht⟩) (fun q h => absurd h List.not_mem_nil) dX1_costOf_39
    exact congrArg nI (cst_0 c_1).symm
  by_cases c_2 : (pkd (bitL f) k) = nI 1
  · skip
    refine top_i (x' := nI 1) (c_2) ?_
    refine lv_tableIn (tgt := 40) (off := 35) hx hb dX1_costOf_5 (by decide) (by decide) (by decide) (by decide) ?_
    refine lv_iconst (v := (nI 2)) hx hb dX1_costOf_40 (by decide) ?_
    refine lv_iconst (v := (nI 2)) hx hb dX1_costOf_41 (by decide) ?_
    refine lv_aload_n hx hb dX1_costOf_42 rfl (lv_at hl 0 rfl) ?_
    refine lv_iload_n hx hb dX1_costOf_43 rfl (lv_at hl 1 rfl) ?_
    refine lv_iconst (v := (nI 1)) hx hb dX1_costOf_44 (by decide) ?_
    refine vp_callSi (va_Run.run (va_runV (As := [.int (nI k), .int (nI 1)]) (rest := [.int (nI 2), .int (nI 2)]) ⟨hx, hb, hml, hown, hts⟩ (k_X1_countRuns l D T h0 w0 f k 1 (by omega)) (cwV 2 hts gX1_costOf_X1_countRuns rfl rfl rfl (by decide +kernel) ⟨Nat.le_of_ble_eq_true rfl, Nat.le_of_ble_eq_true rfl⟩) (pre_V (Φ := fun X => Num D T X h0 w0 f) hK (hN.1) rfl hN) rfl rfl hl.1 rfl (lv_room (Nat.le_of_ble_eq_true rfl)) dX1_costOf_45 ⟨Nat.le_of_ble_eq_true rfl, Nat.le_of_ble_eq_true rfl⟩)) (fun r_2 hr_2 => ?_)
    subst hr_2
    refine lv_imul hx hb dX1_costOf_48 ?_
    refine top_i (pk_mul 2 (ct (rsG (bitL f) (256 * k)) (256 * k) (256 * 1))) ?_
    refine lv_iadd hx hb dX1_costOf_49 ?_
    refine top_i (nI_add 2 (2 * (ct (rsG (bitL f) (256 * k)) (256 * k) (256 * 1)))) ?_
    subst hQ
    refine W.iret (v := (nI (2 + (2 * (ct (rsG (bitL f) (256 * k)) (256 * k) (256 * 1)))))) hx hb hr (fun t ht hW => ⟨(nI (2 + (2 * (ct (rsG (bitL f) (256 * k)) (256 * k) (256 * 1))))), rfl, ?_, ht⟩) (fun q h => absurd h List.not_mem_nil) dX1_costOf_50
    exact congrArg nI (cst_1 c_2).symm
  by_cases c_3 : (pkd (bitL f) k) = nI 2
  · skip
    refine top_i (x' := nI 2) (c_3) ?_
    refine lv_tableIn (tgt := 51) (off := 46) hx hb dX1_costOf_5 (by decide) (by decide) (by decide) (by decide) ?_
    refine lv_bipush (v := (nI 33)) hx hb dX1_costOf_51 (by decide) ?_
    subst hQ
    refine W.iret (v := (nI 33)) hx hb hr (fun t ht hW => ⟨(nI 33), rfl, ?_, ht⟩) (fun q h => absurd h List.not_mem_nil) dX1_costOf_53
    exact congrArg nI (cst_2 c_3).symm
  refine lv_tableOut (tgt := 54) hx hb dX1_costOf_5 (tab_out 2 (by decide) (fun k hk => by
    rcases (show k = 0 ∨ k = 1 ∨ k = 2 by omega) with rfl | rfl | rfl <;> first | exact c_1 | exact c_2 | exact c_3)) (by decide) ?_
  refine lv_iconst (v := (nI 0)) hx hb dX1_costOf_54 (by decide) ?_
  subst hQ
  refine W.iret (v := (nI 0)) hx hb hr (fun t ht hW => ⟨(nI 0), rfl, ?_, ht⟩) (fun q h => absurd h List.not_mem_nil) dX1_costOf_55
  exact congrArg nI (cst_n c_1 c_2 c_3).symm
set_option maxHeartbeats 4000000 in
set_option maxRecDepth 100000 in
theorem k_X1_detail (l : Launch) (D : va_G) (T : Nat → ClassId) (h0 : Nat) (w0 : Nat) (f : Nat → Int64) (k : Nat) (y : Int32) (hk : k < 16) : Met l yX1_detail wsX1_detail ({ frames := 4, cells := 0, slots := 0, locals := 94 }) (va_Pc [.ref h0, .int (nI k), .int y] (fun U => KS D T U ∧ Num D T U.heap h0 w0 f)) (vp_Si (fun r => r = (det (bitL f) k y))) 0 0 (fun _ => False) := by
  refine Met.ofW (cc := cX1_detail) (maxL := 3) (ret := (some .int)) (by decide) rfl ?_
  intro pg ev s m args below meth c s₁ B hml hv
  obtain ⟨rfl, hK, hH⟩ := hv
  have hx := B.exec
  have hb := B.bytes
  have hr := B.returns
  have hts := atoms_spec (ws := wsX1_detail) B.pre
  have hown : s.vm.findClass RX1 = some m.cls := findClass_of_methodNamed B.named
  have hlocks := B.notSynchronized
  have in_wsX10 : ∀ w ∈ wsX10, w ∈ wsX1_detail := fun w h => List.mem_cons_of_mem _ (List.mem_append_right _ h)
  have hl := lv_entry ([.ref h0, .int (nI k), .int y]) (n := 3) (Nat.le_of_ble_eq_true rfl)
  rw [lg_entry_eq]
  generalize (lg_sl ([.ref h0, .int (nI k), .int y]) ++ List.replicate (3 - (lg_sl ([.ref h0, .int (nI k), .int y])).length) Slot.unset).toArray = ls at hl ⊢
  have hl : lv_has ls 3 [(0, .ref h0), (1, .int (nI k)), (2, .int y)] := hl
  refine W_gen (fun Q hQ => ?_)
  have hN := hH
  refine lv_iload_n hx hb dX1_detail_0 rfl (lv_at hl 2 rfl) ?_
  by_cases c_1 : y = nI 0
  · skip
    refine top_i (x' := nI 0) (c_1) ?_
    refine lv_tableIn (tgt := 32) (off := 31) hx hb dX1_detail_1 (by decide) (by decide) (by decide) (by decide) ?_
    refine lv_aload_n hx hb dX1_detail_32 rfl (lv_at hl 0 rfl) ?_
    refine lv_iload_n hx hb dX1_detail_33 rfl (lv_at hl 1 rfl) ?_
    refine vp_callSi (va_Run.run (va_runV (As := [.int (nI k)]) (rest := []) ⟨hx, hb, hml, hown, hts⟩ (k_X1_kindOf l D T h0 w0 f k (by omega)) (cwV 1 hts gX1_detail_X1_kindOf rfl rfl rfl (by decide +kernel) ⟨Nat.le_of_ble_eq_true rfl, Nat.le_of_ble_eq_true rfl⟩) (pre_V (Φ := fun X => Num D T X h0 w0 f) hK (hN.1) rfl hN) rfl rfl hl.1 rfl (lv_room (Nat.le_of_ble_eq_true rfl)) dX1_detail_34 ⟨Nat.le_of_ble_eq_true rfl, Nat.le_of_ble_eq_true rfl⟩)) (fun r_1 hr_1 => ?_)
    subst hr_1
    subst hQ
    refine W.iret (v := (pkd (bitL f) k)) hx hb hr (fun t ht hW => ⟨(pkd (bitL f) k), rfl, ?_, ht⟩) (fun q h => absurd h List.not_mem_nil) dX1_detail_37
    exact (if_pos c_1).symm
  by_cases c_2 : y = nI 1
  · skip
    refine top_i (x' := nI 1) (c_2) ?_
    refine lv_tableIn (tgt := 38) (off := 37) hx hb dX1_detail_1 (by decide) (by decide) (by decide) (by decide) ?_
    refine lv_aload_n hx hb dX1_detail_38 rfl (lv_at hl 0 rfl) ?_
    refine lv_iload_n hx hb dX1_detail_39 rfl (lv_at hl 1 rfl) ?_
    refine vp_callSi (va_Run.run (va_runV (As := [.int (nI k)]) (rest := []) ⟨hx, hb, hml, hown, hts⟩ (k_X1_countInPiece l D T h0 w0 f k (by omega)) (cwV 1 hts gX1_detail_X1_countInPiece rfl rfl rfl (by decide +kernel) ⟨Nat.le_of_ble_eq_true rfl, Nat.le_of_ble_eq_true rfl⟩) (pre_V (Φ := fun X => Num D T X h0 w0 f) hK (hN.1) rfl hN) rfl rfl hl.1 rfl (lv_room (Nat.le_of_ble_eq_true rfl)) dX1_detail_40 ⟨Nat.le_of_ble_eq_true rfl, Nat.le_of_ble_eq_true rfl⟩)) (fun r_1 hr_1 => ?_)
    subst hr_1
    subst hQ
    refine W.iret (v := (nI (ct (bitL f) (256 * k) 256))) hx hb hr (fun t ht hW => ⟨(nI (ct (bitL f) (256 * k) 256)), rfl, ?_, ht⟩) (fun q h => absurd h List.not_mem_nil) dX1_detail_43
    exact ((if_neg c_1).trans (if_pos c_2)).symm
  by_cases c_3 : y = nI 2
  · skip
    refine top_i (x' := nI 2) (c_3) ?_
    refine lv_tableIn (tgt := 44) (off := 43) hx hb dX1_detail_1 (by decide) (by decide) (by decide) (by decide) ?_
    refine lv_aload_n hx hb dX1_detail_44 rfl (lv_at hl 0 rfl) ?_
    refine lv_iload_n hx hb dX1_detail_45 rfl (lv_at hl 1 rfl) ?_
    refine lv_iconst (v := (nI 1)) hx hb dX1_detail_46 (by decide) ?_
    refine vp_callSi (va_Run.run (va_runV (As := [.int (nI k), .int (nI 1)]) (rest := []) ⟨hx, hb, hml, hown, hts⟩ (k_X1_countRuns l D T h0 w0 f k 1 (by omega)) (cwV 2 hts gX1_detail_X1_countRuns rfl rfl rfl (by decide +kernel) ⟨Nat.le_of_ble_eq_true rfl, Nat.le_of_ble_eq_true rfl⟩) (pre_V (Φ := fun X => Num D T X h0 w0 f) hK (hN.1) rfl hN) rfl rfl hl.1 rfl (lv_room (Nat.le_of_ble_eq_true rfl)) dX1_detail_47 ⟨Nat.le_of_ble_eq_true rfl, Nat.le_of_ble_eq_true rfl⟩)) (fun r_1 hr_1 => ?_)
    subst hr_1
    subst hQ
    refine W.iret (v := (nI (ct (rsG (bitL f) (256 * k)) (256 * k) (256 * 1)))) hx hb hr (fun t ht hW => ⟨(nI (ct (rsG (bitL f) (256 * k)) (256 * k) (256 * 1))), rfl, ?_, ht⟩) (fun q h => absurd h List.not_mem_nil) dX1_detail_50
    exact ((if_neg c_1).trans ((if_neg c_2).trans (if_pos c_3))).symm
  by_cases c_4 : y = nI 3
  · skip
    refine top_i (x' := nI 3) (c_4) ?_
    refine lv_tableIn (tgt := 51) (off := 50) hx hb dX1_detail_1 (by decide) (by decide) (by decide) (by decide) ?_
    refine lv_aload_n hx hb dX1_detail_51 rfl (lv_at hl 0 rfl) ?_
    refine lv_iload_n hx hb dX1_detail_52 rfl (lv_at hl 1 rfl) ?_
    refine vp_callSi (va_Run.run (va_runV (As := [.int (nI k)]) (rest := []) ⟨hx, hb, hml, hown, hts⟩ (k_X1_costOf l D T h0 w0 f k (by omega)) (cwV 1 hts gX1_detail_X1_costOf rfl rfl rfl (by decide +kernel) ⟨Nat.le_of_ble_eq_true rfl, Nat.le_of_ble_eq_true rfl⟩) (pre_V (Φ := fun X => Num D T X h0 w0 f) hK (hN.1) rfl hN) rfl rfl hl.1 rfl (lv_room (Nat.le_of_ble_eq_true rfl)) dX1_detail_53 ⟨Nat.le_of_ble_eq_true rfl, Nat.le_of_ble_eq_true rfl⟩)) (fun r_1 hr_1 => ?_)
    subst hr_1
    subst hQ
    refine W.iret (v := (nI (cst (pn (bitL f) k) (pr (bitL f) k)))) hx hb hr (fun t ht hW => ⟨(nI (cst (pn (bitL f) k) (pr (bitL f) k))), rfl, ?_, ht⟩) (fun q h => absurd h List.not_mem_nil) dX1_detail_56
    exact ((if_neg c_1).trans ((if_neg c_2).trans ((if_neg c_3).trans (if_pos c_4)))).symm
  refine lv_tableOut (tgt := 57) hx hb dX1_detail_1 (tab_out 3 (by decide) (fun k hk => by
    rcases (show k = 0 ∨ k = 1 ∨ k = 2 ∨ k = 3 by omega) with rfl | rfl | rfl | rfl <;> first | exact c_1 | exact c_2 | exact c_3 | exact c_4)) (by decide) ?_
  refine lv_iconst (v := (-1)) hx hb dX1_detail_57 (by decide) ?_
  subst hQ
  refine W.iret (v := (-1)) hx hb hr (fun t ht hW => ⟨(-1), rfl, ?_, ht⟩) (fun q h => absurd h List.not_mem_nil) dX1_detail_58
  exact ((if_neg c_1).trans ((if_neg c_2).trans ((if_neg c_3).trans (if_neg c_4)))).symm
end
section
theorem i_vc : Claimed_1_1 ∧ Claimed_1_2 := sorry
end
