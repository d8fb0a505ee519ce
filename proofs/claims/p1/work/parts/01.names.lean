-- ===== PART A: goes FIRST, ahead of the names: the tables' words, and 'selects' of the private methods out of them =====
/-- a private method of a class that the tables say can be made, by its rows of tables_1 -/
def lw_okq (q : MethodName × Nat) : Prop := (q.1.cls ≠ "java/lang/invoke/MethodHandle" ∧ q.1.cls ≠ "java/lang/invoke/VarHandle") ∧ Cond.instantiable q.1.cls q.2 ∈ tables_1 ∧ Cond.privateMethod q.1 ∈ tables_1 ∧ Cond.instanceMethod q.1 ∈ tables_1
theorem lw_p0 : lw_okq (⟨"DeskMoves$Office", "readSeats", "(LDeskMoves$Tape;)Z"⟩, 11) := ⟨⟨by decide +kernel, by decide +kernel⟩, List.mem_of_getElem? (i := 77) (by decide +kernel), List.mem_of_getElem? (i := 357) (by decide +kernel), List.mem_of_getElem? (i := 358) (by decide +kernel)⟩
theorem lw_p1 : lw_okq (⟨"DeskMoves$Office", "hasBothKinds", "()Z"⟩, 11) := ⟨⟨by decide +kernel, by decide +kernel⟩, List.mem_of_getElem? (i := 77) (by decide +kernel), List.mem_of_getElem? (i := 365) (by decide +kernel), List.mem_of_getElem? (i := 366) (by decide +kernel)⟩
theorem lw_p2 : lw_okq (⟨"DeskMoves$Office", "addDesk", "(I)Z"⟩, 11) := ⟨⟨by decide +kernel, by decide +kernel⟩, List.mem_of_getElem? (i := 77) (by decide +kernel), List.mem_of_getElem? (i := 380) (by decide +kernel), List.mem_of_getElem? (i := 381) (by decide +kernel)⟩
theorem lw_p3 : lw_okq (⟨"DeskMoves$Office", "readDoors", "(LDeskMoves$Tape;)Z"⟩, 11) := ⟨⟨by decide +kernel, by decide +kernel⟩, List.mem_of_getElem? (i := 77) (by decide +kernel), List.mem_of_getElem? (i := 388) (by decide +kernel), List.mem_of_getElem? (i := 389) (by decide +kernel)⟩
theorem lw_p4 : lw_okq (⟨"DeskMoves$Office", "readDoor", "(LDeskMoves$Tape;)Z"⟩, 11) := ⟨⟨by decide +kernel, by decide +kernel⟩, List.mem_of_getElem? (i := 77) (by decide +kernel), List.mem_of_getElem? (i := 392) (by decide +kernel), List.mem_of_getElem? (i := 393) (by decide +kernel)⟩
theorem lw_p5 : lw_okq (⟨"DeskMoves$Office", "readQuarrels", "(LDeskMoves$Tape;)Z"⟩, 11) := ⟨⟨by decide +kernel, by decide +kernel⟩, List.mem_of_getElem? (i := 77) (by decide +kernel), List.mem_of_getElem? (i := 400) (by decide +kernel), List.mem_of_getElem? (i := 401) (by decide +kernel)⟩
theorem lw_p6 : lw_okq (⟨"DeskMoves$Office", "readQuarrel", "(LDeskMoves$Tape;)Z"⟩, 11) := ⟨⟨by decide +kernel, by decide +kernel⟩, List.mem_of_getElem? (i := 77) (by decide +kernel), List.mem_of_getElem? (i := 404) (by decide +kernel), List.mem_of_getElem? (i := 405) (by decide +kernel)⟩
theorem lw_p7 : lw_okq (⟨"DeskMoves$LawReader", "readClause", "()Z"⟩, 4) := ⟨⟨by decide +kernel, by decide +kernel⟩, List.mem_of_getElem? (i := 56) (by decide +kernel), List.mem_of_getElem? (i := 412) (by decide +kernel), List.mem_of_getElem? (i := 413) (by decide +kernel)⟩
theorem lw_p8 : lw_okq (⟨"DeskMoves$LawReader", "readSum", "(I)Z"⟩, 4) := ⟨⟨by decide +kernel, by decide +kernel⟩, List.mem_of_getElem? (i := 56) (by decide +kernel), List.mem_of_getElem? (i := 418) (by decide +kernel), List.mem_of_getElem? (i := 419) (by decide +kernel)⟩
theorem lw_p9 : lw_okq (⟨"DeskMoves$LawReader", "readTerm", "(I)Z"⟩, 4) := ⟨⟨by decide +kernel, by decide +kernel⟩, List.mem_of_getElem? (i := 56) (by decide +kernel), List.mem_of_getElem? (i := 422) (by decide +kernel), List.mem_of_getElem? (i := 423) (by decide +kernel)⟩
theorem lw_p10 : lw_okq (⟨"DeskMoves$LawReader", "readAtom", "(I)Z"⟩, 4) := ⟨⟨by decide +kernel, by decide +kernel⟩, List.mem_of_getElem? (i := 56) (by decide +kernel), List.mem_of_getElem? (i := 426) (by decide +kernel), List.mem_of_getElem? (i := 427) (by decide +kernel)⟩
theorem lw_p11 : lw_okq (⟨"DeskMoves$LawReader", "readNumber", "()Z"⟩, 4) := ⟨⟨by decide +kernel, by decide +kernel⟩, List.mem_of_getElem? (i := 56) (by decide +kernel), List.mem_of_getElem? (i := 433) (by decide +kernel), List.mem_of_getElem? (i := 434) (by decide +kernel)⟩
theorem lw_p12 : lw_okq (⟨"DeskMoves$LawReader", "emit", "(I)V"⟩, 4) := ⟨⟨by decide +kernel, by decide +kernel⟩, List.mem_of_getElem? (i := 56) (by decide +kernel), List.mem_of_getElem? (i := 437) (by decide +kernel), List.mem_of_getElem? (i := 438) (by decide +kernel)⟩
theorem lw_p13 : lw_okq (⟨"DeskMoves$LawReader", "readCondition", "(IZ)Z"⟩, 4) := ⟨⟨by decide +kernel, by decide +kernel⟩, List.mem_of_getElem? (i := 56) (by decide +kernel), List.mem_of_getElem? (i := 493) (by decide +kernel), List.mem_of_getElem? (i := 494) (by decide +kernel)⟩
theorem lw_p14 : lw_okq (⟨"DeskMoves$LawReader", "readTruth", "(IZ)Z"⟩, 4) := ⟨⟨by decide +kernel, by decide +kernel⟩, List.mem_of_getElem? (i := 56) (by decide +kernel), List.mem_of_getElem? (i := 497) (by decide +kernel), List.mem_of_getElem? (i := 498) (by decide +kernel)⟩
theorem lw_p15 : lw_okq (⟨"DeskMoves$LawReader", "readUnit", "(IZ)Z"⟩, 4) := ⟨⟨by decide +kernel, by decide +kernel⟩, List.mem_of_getElem? (i := 56) (by decide +kernel), List.mem_of_getElem? (i := 501) (by decide +kernel), List.mem_of_getElem? (i := 502) (by decide +kernel)⟩
def lw_privs_1 : List (MethodName × Nat) := [(⟨"DeskMoves$Office", "readSeats", "(LDeskMoves$Tape;)Z"⟩, 11), (⟨"DeskMoves$Office", "hasBothKinds", "()Z"⟩, 11), (⟨"DeskMoves$Office", "addDesk", "(I)Z"⟩, 11), (⟨"DeskMoves$Office", "readDoors", "(LDeskMoves$Tape;)Z"⟩, 11), (⟨"DeskMoves$Office", "readDoor", "(LDeskMoves$Tape;)Z"⟩, 11), (⟨"DeskMoves$Office", "readQuarrels", "(LDeskMoves$Tape;)Z"⟩, 11), (⟨"DeskMoves$Office", "readQuarrel", "(LDeskMoves$Tape;)Z"⟩, 11), (⟨"DeskMoves$LawReader", "readClause", "()Z"⟩, 4), (⟨"DeskMoves$LawReader", "readSum", "(I)Z"⟩, 4), (⟨"DeskMoves$LawReader", "readTerm", "(I)Z"⟩, 4), (⟨"DeskMoves$LawReader", "readAtom", "(I)Z"⟩, 4), (⟨"DeskMoves$LawReader", "readNumber", "()Z"⟩, 4), (⟨"DeskMoves$LawReader", "emit", "(I)V"⟩, 4), (⟨"DeskMoves$LawReader", "readCondition", "(IZ)Z"⟩, 4), (⟨"DeskMoves$LawReader", "readTruth", "(IZ)Z"⟩, 4), (⟨"DeskMoves$LawReader", "readUnit", "(IZ)Z"⟩, 4)]
theorem lw_r1 : ∀ q ∈ lw_privs_1, lw_okq q := List.forall_mem_cons.mpr ⟨lw_p0, List.forall_mem_cons.mpr ⟨lw_p1, List.forall_mem_cons.mpr ⟨lw_p2, List.forall_mem_cons.mpr ⟨lw_p3, List.forall_mem_cons.mpr ⟨lw_p4, List.forall_mem_cons.mpr ⟨lw_p5, List.forall_mem_cons.mpr ⟨lw_p6, List.forall_mem_cons.mpr ⟨lw_p7, List.forall_mem_cons.mpr ⟨lw_p8, List.forall_mem_cons.mpr ⟨lw_p9, List.forall_mem_cons.mpr ⟨lw_p10, List.forall_mem_cons.mpr ⟨lw_p11, List.forall_mem_cons.mpr ⟨lw_p12, List.forall_mem_cons.mpr ⟨lw_p13, List.forall_mem_cons.mpr ⟨lw_p14, List.forall_mem_cons.mpr ⟨lw_p15, fun _ h => absurd h List.not_mem_nil⟩⟩⟩⟩⟩⟩⟩⟩⟩⟩⟩⟩⟩⟩⟩⟩
theorem lw_p16 : lw_okq (⟨"DeskMoves$LawReader", "readNot", "(I)Z"⟩, 4) := ⟨⟨by decide +kernel, by decide +kernel⟩, List.mem_of_getElem? (i := 56) (by decide +kernel), List.mem_of_getElem? (i := 505) (by decide +kernel), List.mem_of_getElem? (i := 506) (by decide +kernel)⟩
theorem lw_p17 : lw_okq (⟨"DeskMoves", "takeOffice", "()I"⟩, 17) := ⟨⟨by decide +kernel, by decide +kernel⟩, List.mem_of_getElem? (i := 26) (by decide +kernel), List.mem_of_getElem? (i := 520) (by decide +kernel), List.mem_of_getElem? (i := 521) (by decide +kernel)⟩
theorem lw_p18 : lw_okq (⟨"DeskMoves", "forgetWays", "()V"⟩, 17) := ⟨⟨by decide +kernel, by decide +kernel⟩, List.mem_of_getElem? (i := 26) (by decide +kernel), List.mem_of_getElem? (i := 532) (by decide +kernel), List.mem_of_getElem? (i := 533) (by decide +kernel)⟩
theorem lw_p19 : lw_okq (⟨"DeskMoves", "forgetCosts", "()V"⟩, 17) := ⟨⟨by decide +kernel, by decide +kernel⟩, List.mem_of_getElem? (i := 26) (by decide +kernel), List.mem_of_getElem? (i := 536) (by decide +kernel), List.mem_of_getElem? (i := 537) (by decide +kernel)⟩
theorem lw_p20 : lw_okq (⟨"DeskMoves", "takeLaw", "()I"⟩, 17) := ⟨⟨by decide +kernel, by decide +kernel⟩, List.mem_of_getElem? (i := 26) (by decide +kernel), List.mem_of_getElem? (i := 540) (by decide +kernel), List.mem_of_getElem? (i := 541) (by decide +kernel)⟩
theorem lw_p21 : lw_okq (⟨"DeskMoves", "takePlan", "()I"⟩, 17) := ⟨⟨by decide +kernel, by decide +kernel⟩, List.mem_of_getElem? (i := 26) (by decide +kernel), List.mem_of_getElem? (i := 587) (by decide +kernel), List.mem_of_getElem? (i := 588) (by decide +kernel)⟩
theorem lw_p22 : lw_okq (⟨"DeskMoves", "lawOf", "(I)LDeskMoves$Law;"⟩, 17) := ⟨⟨by decide +kernel, by decide +kernel⟩, List.mem_of_getElem? (i := 26) (by decide +kernel), List.mem_of_getElem? (i := 628) (by decide +kernel), List.mem_of_getElem? (i := 629) (by decide +kernel)⟩
theorem lw_p23 : lw_okq (⟨"DeskMoves$Law", "pop", "()I"⟩, 5) := ⟨⟨by decide +kernel, by decide +kernel⟩, List.mem_of_getElem? (i := 548) (by decide +kernel), List.mem_of_getElem? (i := 647) (by decide +kernel), List.mem_of_getElem? (i := 648) (by decide +kernel)⟩
theorem lw_p24 : lw_okq (⟨"DeskMoves$Law", "push", "(I)V"⟩, 5) := ⟨⟨by decide +kernel, by decide +kernel⟩, List.mem_of_getElem? (i := 548) (by decide +kernel), List.mem_of_getElem? (i := 651) (by decide +kernel), List.mem_of_getElem? (i := 652) (by decide +kernel)⟩
theorem lw_p25 : lw_okq (⟨"DeskMoves", "isSearched", "()Z"⟩, 17) := ⟨⟨by decide +kernel, by decide +kernel⟩, List.mem_of_getElem? (i := 26) (by decide +kernel), List.mem_of_getElem? (i := 744) (by decide +kernel), List.mem_of_getElem? (i := 745) (by decide +kernel)⟩
theorem lw_p26 : lw_okq (⟨"DeskMoves", "waysBy", "(I)LDeskMoves$Ways;"⟩, 17) := ⟨⟨by decide +kernel, by decide +kernel⟩, List.mem_of_getElem? (i := 26) (by decide +kernel), List.mem_of_getElem? (i := 748) (by decide +kernel), List.mem_of_getElem? (i := 749) (by decide +kernel)⟩
theorem lw_p27 : lw_okq (⟨"DeskMoves$Ways", "startCode", "()I"⟩, 19) := ⟨⟨by decide +kernel, by decide +kernel⟩, List.mem_of_getElem? (i := 752) (by decide +kernel), List.mem_of_getElem? (i := 835) (by decide +kernel), List.mem_of_getElem? (i := 836) (by decide +kernel)⟩
theorem lw_p28 : lw_okq (⟨"DeskMoves$Ways", "add", "(II)V"⟩, 19) := ⟨⟨by decide +kernel, by decide +kernel⟩, List.mem_of_getElem? (i := 752) (by decide +kernel), List.mem_of_getElem? (i := 840) (by decide +kernel), List.mem_of_getElem? (i := 841) (by decide +kernel)⟩
theorem lw_p29 : lw_okq (⟨"DeskMoves$Ways", "slotOf", "(I)I"⟩, 19) := ⟨⟨by decide +kernel, by decide +kernel⟩, List.mem_of_getElem? (i := 752) (by decide +kernel), List.mem_of_getElem? (i := 844) (by decide +kernel), List.mem_of_getElem? (i := 845) (by decide +kernel)⟩
theorem lw_p30 : lw_okq (⟨"DeskMoves$Ways", "spread", "(I)V"⟩, 19) := ⟨⟨by decide +kernel, by decide +kernel⟩, List.mem_of_getElem? (i := 752) (by decide +kernel), List.mem_of_getElem? (i := 849) (by decide +kernel), List.mem_of_getElem? (i := 850) (by decide +kernel)⟩
theorem lw_p31 : lw_okq (⟨"DeskMoves$Ways", "foesBeside", "(II)I"⟩, 19) := ⟨⟨by decide +kernel, by decide +kernel⟩, List.mem_of_getElem? (i := 752) (by decide +kernel), List.mem_of_getElem? (i := 866) (by decide +kernel), List.mem_of_getElem? (i := 867) (by decide +kernel)⟩
def lw_privs_2 : List (MethodName × Nat) := [(⟨"DeskMoves$LawReader", "readNot", "(I)Z"⟩, 4), (⟨"DeskMoves", "takeOffice", "()I"⟩, 17), (⟨"DeskMoves", "forgetWays", "()V"⟩, 17), (⟨"DeskMoves", "forgetCosts", "()V"⟩, 17), (⟨"DeskMoves", "takeLaw", "()I"⟩, 17), (⟨"DeskMoves", "takePlan", "()I"⟩, 17), (⟨"DeskMoves", "lawOf", "(I)LDeskMoves$Law;"⟩, 17), (⟨"DeskMoves$Law", "pop", "()I"⟩, 5), (⟨"DeskMoves$Law", "push", "(I)V"⟩, 5), (⟨"DeskMoves", "isSearched", "()Z"⟩, 17), (⟨"DeskMoves", "waysBy", "(I)LDeskMoves$Ways;"⟩, 17), (⟨"DeskMoves$Ways", "startCode", "()I"⟩, 19), (⟨"DeskMoves$Ways", "add", "(II)V"⟩, 19), (⟨"DeskMoves$Ways", "slotOf", "(I)I"⟩, 19), (⟨"DeskMoves$Ways", "spread", "(I)V"⟩, 19), (⟨"DeskMoves$Ways", "foesBeside", "(II)I"⟩, 19)]
theorem lw_r2 : ∀ q ∈ lw_privs_2, lw_okq q := List.forall_mem_cons.mpr ⟨lw_p16, List.forall_mem_cons.mpr ⟨lw_p17, List.forall_mem_cons.mpr ⟨lw_p18, List.forall_mem_cons.mpr ⟨lw_p19, List.forall_mem_cons.mpr ⟨lw_p20, List.forall_mem_cons.mpr ⟨lw_p21, List.forall_mem_cons.mpr ⟨lw_p22, List.forall_mem_cons.mpr ⟨lw_p23, List.forall_mem_cons.mpr ⟨lw_p24, List.forall_mem_cons.mpr ⟨lw_p25, List.forall_mem_cons.mpr ⟨lw_p26, List.forall_mem_cons.mpr ⟨lw_p27, List.forall_mem_cons.mpr ⟨lw_p28, List.forall_mem_cons.mpr ⟨lw_p29, List.forall_mem_cons.mpr ⟨lw_p30, List.forall_mem_cons.mpr ⟨lw_p31, fun _ h => absurd h List.not_mem_nil⟩⟩⟩⟩⟩⟩⟩⟩⟩⟩⟩⟩⟩⟩⟩⟩
theorem lw_p32 : lw_okq (⟨"DeskMoves", "leastCost", "(LDeskMoves$Ways;I)I"⟩, 17) := ⟨⟨by decide +kernel, by decide +kernel⟩, List.mem_of_getElem? (i := 26) (by decide +kernel), List.mem_of_getElem? (i := 901) (by decide +kernel), List.mem_of_getElem? (i := 902) (by decide +kernel)⟩
theorem lw_p33 : lw_okq (⟨"DeskMoves$Costs", "reach", "(II)V"⟩, 5) := ⟨⟨by decide +kernel, by decide +kernel⟩, List.mem_of_getElem? (i := 905) (by decide +kernel), List.mem_of_getElem? (i := 934) (by decide +kernel), List.mem_of_getElem? (i := 935) (by decide +kernel)⟩
theorem lw_p34 : lw_okq (⟨"DeskMoves$Costs", "unlink", "(I)V"⟩, 5) := ⟨⟨by decide +kernel, by decide +kernel⟩, List.mem_of_getElem? (i := 905) (by decide +kernel), List.mem_of_getElem? (i := 938) (by decide +kernel), List.mem_of_getElem? (i := 939) (by decide +kernel)⟩
theorem lw_p35 : lw_okq (⟨"DeskMoves$Costs", "spread", "(LDeskMoves$Ways;II)V"⟩, 5) := ⟨⟨by decide +kernel, by decide +kernel⟩, List.mem_of_getElem? (i := 905) (by decide +kernel), List.mem_of_getElem? (i := 944) (by decide +kernel), List.mem_of_getElem? (i := 945) (by decide +kernel)⟩
theorem lw_p36 : lw_okq (⟨"DeskMoves$Turns", "goRound", "(LDeskMoves$Office;)V"⟩, 3) := ⟨⟨by decide +kernel, by decide +kernel⟩, List.mem_of_getElem? (i := 206) (by decide +kernel), List.mem_of_getElem? (i := 1010) (by decide +kernel), List.mem_of_getElem? (i := 1011) (by decide +kernel)⟩
theorem lw_p37 : lw_okq (⟨"DeskMoves$Turns", "isTurned", "(I)Z"⟩, 3) := ⟨⟨by decide +kernel, by decide +kernel⟩, List.mem_of_getElem? (i := 206) (by decide +kernel), List.mem_of_getElem? (i := 1014) (by decide +kernel), List.mem_of_getElem? (i := 1015) (by decide +kernel)⟩
theorem lw_p38 : lw_okq (⟨"DeskMoves$Wealth", "solveTruth", "(LDeskMoves$Office;)V"⟩, 14) := ⟨⟨by decide +kernel, by decide +kernel⟩, List.mem_of_getElem? (i := 222) (by decide +kernel), List.mem_of_getElem? (i := 1049) (by decide +kernel), List.mem_of_getElem? (i := 1050) (by decide +kernel)⟩
theorem lw_p39 : lw_okq (⟨"DeskMoves$Wealth", "sumUp", "(I)V"⟩, 14) := ⟨⟨by decide +kernel, by decide +kernel⟩, List.mem_of_getElem? (i := 222) (by decide +kernel), List.mem_of_getElem? (i := 1055) (by decide +kernel), List.mem_of_getElem? (i := 1056) (by decide +kernel)⟩
theorem lw_p40 : lw_okq (⟨"DeskMoves$Wealth", "mostBehind", "(II)I"⟩, 14) := ⟨⟨by decide +kernel, by decide +kernel⟩, List.mem_of_getElem? (i := 222) (by decide +kernel), List.mem_of_getElem? (i := 1060) (by decide +kernel), List.mem_of_getElem? (i := 1061) (by decide +kernel)⟩
theorem lw_p41 : lw_okq (⟨"DeskMoves$Wealth", "deskOf", "(II)I"⟩, 14) := ⟨⟨by decide +kernel, by decide +kernel⟩, List.mem_of_getElem? (i := 222) (by decide +kernel), List.mem_of_getElem? (i := 1066) (by decide +kernel), List.mem_of_getElem? (i := 1067) (by decide +kernel)⟩
theorem lw_p42 : lw_okq (⟨"DeskMoves$Wealth", "pointAll", "(LDeskMoves$Office;)V"⟩, 14) := ⟨⟨by decide +kernel, by decide +kernel⟩, List.mem_of_getElem? (i := 222) (by decide +kernel), List.mem_of_getElem? (i := 1091) (by decide +kernel), List.mem_of_getElem? (i := 1092) (by decide +kernel)⟩
theorem lw_p43 : lw_okq (⟨"DeskMoves$Wealth", "firstAtNobodys", "(LDeskMoves$Office;)I"⟩, 14) := ⟨⟨by decide +kernel, by decide +kernel⟩, List.mem_of_getElem? (i := 222) (by decide +kernel), List.mem_of_getElem? (i := 1095) (by decide +kernel), List.mem_of_getElem? (i := 1096) (by decide +kernel)⟩
theorem lw_p44 : lw_okq (⟨"DeskMoves$Wealth", "ownerOf", "(LDeskMoves$Office;I)I"⟩, 14) := ⟨⟨by decide +kernel, by decide +kernel⟩, List.mem_of_getElem? (i := 222) (by decide +kernel), List.mem_of_getElem? (i := 1099) (by decide +kernel), List.mem_of_getElem? (i := 1100) (by decide +kernel)⟩
theorem lw_p45 : lw_okq (⟨"DeskMoves$Wealth", "give", "(I)V"⟩, 14) := ⟨⟨by decide +kernel, by decide +kernel⟩, List.mem_of_getElem? (i := 222) (by decide +kernel), List.mem_of_getElem? (i := 1104) (by decide +kernel), List.mem_of_getElem? (i := 1105) (by decide +kernel)⟩
theorem lw_p46 : lw_okq (⟨"DeskMoves$Wealth", "giveRing", "(LDeskMoves$Office;)V"⟩, 14) := ⟨⟨by decide +kernel, by decide +kernel⟩, List.mem_of_getElem? (i := 222) (by decide +kernel), List.mem_of_getElem? (i := 1108) (by decide +kernel), List.mem_of_getElem? (i := 1109) (by decide +kernel)⟩
theorem lw_p47 : lw_okq (⟨"DeskMoves$Wealth", "ringOf", "(LDeskMoves$Office;I)I"⟩, 14) := ⟨⟨by decide +kernel, by decide +kernel⟩, List.mem_of_getElem? (i := 222) (by decide +kernel), List.mem_of_getElem? (i := 1112) (by decide +kernel), List.mem_of_getElem? (i := 1113) (by decide +kernel)⟩
def lw_privs_3 : List (MethodName × Nat) := [(⟨"DeskMoves", "leastCost", "(LDeskMoves$Ways;I)I"⟩, 17), (⟨"DeskMoves$Costs", "reach", "(II)V"⟩, 5), (⟨"DeskMoves$Costs", "unlink", "(I)V"⟩, 5), (⟨"DeskMoves$Costs", "spread", "(LDeskMoves$Ways;II)V"⟩, 5), (⟨"DeskMoves$Turns", "goRound", "(LDeskMoves$Office;)V"⟩, 3), (⟨"DeskMoves$Turns", "isTurned", "(I)Z"⟩, 3), (⟨"DeskMoves$Wealth", "solveTruth", "(LDeskMoves$Office;)V"⟩, 14), (⟨"DeskMoves$Wealth", "sumUp", "(I)V"⟩, 14), (⟨"DeskMoves$Wealth", "mostBehind", "(II)I"⟩, 14), (⟨"DeskMoves$Wealth", "deskOf", "(II)I"⟩, 14), (⟨"DeskMoves$Wealth", "pointAll", "(LDeskMoves$Office;)V"⟩, 14), (⟨"DeskMoves$Wealth", "firstAtNobodys", "(LDeskMoves$Office;)I"⟩, 14), (⟨"DeskMoves$Wealth", "ownerOf", "(LDeskMoves$Office;I)I"⟩, 14), (⟨"DeskMoves$Wealth", "give", "(I)V"⟩, 14), (⟨"DeskMoves$Wealth", "giveRing", "(LDeskMoves$Office;)V"⟩, 14), (⟨"DeskMoves$Wealth", "ringOf", "(LDeskMoves$Office;I)I"⟩, 14)]
theorem lw_r3 : ∀ q ∈ lw_privs_3, lw_okq q := List.forall_mem_cons.mpr ⟨lw_p32, List.forall_mem_cons.mpr ⟨lw_p33, List.forall_mem_cons.mpr ⟨lw_p34, List.forall_mem_cons.mpr ⟨lw_p35, List.forall_mem_cons.mpr ⟨lw_p36, List.forall_mem_cons.mpr ⟨lw_p37, List.forall_mem_cons.mpr ⟨lw_p38, List.forall_mem_cons.mpr ⟨lw_p39, List.forall_mem_cons.mpr ⟨lw_p40, List.forall_mem_cons.mpr ⟨lw_p41, List.forall_mem_cons.mpr ⟨lw_p42, List.forall_mem_cons.mpr ⟨lw_p43, List.forall_mem_cons.mpr ⟨lw_p44, List.forall_mem_cons.mpr ⟨lw_p45, List.forall_mem_cons.mpr ⟨lw_p46, List.forall_mem_cons.mpr ⟨lw_p47, fun _ h => absurd h List.not_mem_nil⟩⟩⟩⟩⟩⟩⟩⟩⟩⟩⟩⟩⟩⟩⟩⟩
theorem lw_p48 : lw_okq (⟨"DeskMoves$Office", "swap", "(II)V"⟩, 11) := ⟨⟨by decide +kernel, by decide +kernel⟩, List.mem_of_getElem? (i := 77) (by decide +kernel), List.mem_of_getElem? (i := 1133) (by decide +kernel), List.mem_of_getElem? (i := 1134) (by decide +kernel)⟩
theorem lw_p49 : lw_okq (⟨"java/lang/Throwable", "fillInStackTrace", "(I)Ljava/lang/Throwable;"⟩, 6) := ⟨⟨by decide +kernel, by decide +kernel⟩, List.mem_of_getElem? (i := 1205) (by decide +kernel), List.mem_of_getElem? (i := 1203) (by decide +kernel), List.mem_of_getElem? (i := 1204) (by decide +kernel)⟩
theorem lw_p50 : lw_okq (⟨"DeskMovesModel", "readOffice", "()I"⟩, 66) := ⟨⟨by decide +kernel, by decide +kernel⟩, List.mem_of_getElem? (i := 1230) (by decide +kernel), List.mem_of_getElem? (i := 1458) (by decide +kernel), List.mem_of_getElem? (i := 1459) (by decide +kernel)⟩
theorem lw_p51 : lw_okq (⟨"DeskMovesModel", "seats", "()V"⟩, 66) := ⟨⟨by decide +kernel, by decide +kernel⟩, List.mem_of_getElem? (i := 1230) (by decide +kernel), List.mem_of_getElem? (i := 1462) (by decide +kernel), List.mem_of_getElem? (i := 1463) (by decide +kernel)⟩
theorem lw_p52 : lw_okq (⟨"DeskMovesModel", "look", "()I"⟩, 66) := ⟨⟨by decide +kernel, by decide +kernel⟩, List.mem_of_getElem? (i := 1230) (by decide +kernel), List.mem_of_getElem? (i := 1466) (by decide +kernel), List.mem_of_getElem? (i := 1467) (by decide +kernel)⟩
theorem lw_p53 : lw_okq (⟨"DeskMovesModel", "here", "()I"⟩, 66) := ⟨⟨by decide +kernel, by decide +kernel⟩, List.mem_of_getElem? (i := 1230) (by decide +kernel), List.mem_of_getElem? (i := 1470) (by decide +kernel), List.mem_of_getElem? (i := 1471) (by decide +kernel)⟩
theorem lw_p54 : lw_okq (⟨"DeskMovesModel", "bad", "()V"⟩, 66) := ⟨⟨by decide +kernel, by decide +kernel⟩, List.mem_of_getElem? (i := 1230) (by decide +kernel), List.mem_of_getElem? (i := 1480) (by decide +kernel), List.mem_of_getElem? (i := 1481) (by decide +kernel)⟩
theorem lw_p55 : lw_okq (⟨"DeskMovesModel", "doorPairs", "()V"⟩, 66) := ⟨⟨by decide +kernel, by decide +kernel⟩, List.mem_of_getElem? (i := 1230) (by decide +kernel), List.mem_of_getElem? (i := 1484) (by decide +kernel), List.mem_of_getElem? (i := 1485) (by decide +kernel)⟩
theorem lw_p56 : lw_okq (⟨"DeskMovesModel", "quarrelPairs", "()V"⟩, 66) := ⟨⟨by decide +kernel, by decide +kernel⟩, List.mem_of_getElem? (i := 1230) (by decide +kernel), List.mem_of_getElem? (i := 1488) (by decide +kernel), List.mem_of_getElem? (i := 1489) (by decide +kernel)⟩
theorem lw_p57 : lw_okq (⟨"DeskMovesModel", "atEnd", "()I"⟩, 66) := ⟨⟨by decide +kernel, by decide +kernel⟩, List.mem_of_getElem? (i := 1230) (by decide +kernel), List.mem_of_getElem? (i := 1492) (by decide +kernel), List.mem_of_getElem? (i := 1493) (by decide +kernel)⟩
theorem lw_p58 : lw_okq (⟨"DeskMovesModel", "readLaw", "(I)I"⟩, 66) := ⟨⟨by decide +kernel, by decide +kernel⟩, List.mem_of_getElem? (i := 1230) (by decide +kernel), List.mem_of_getElem? (i := 1496) (by decide +kernel), List.mem_of_getElem? (i := 1497) (by decide +kernel)⟩
theorem lw_p59 : lw_okq (⟨"DeskMovesModel", "open", "(I)V"⟩, 66) := ⟨⟨by decide +kernel, by decide +kernel⟩, List.mem_of_getElem? (i := 1230) (by decide +kernel), List.mem_of_getElem? (i := 1500) (by decide +kernel), List.mem_of_getElem? (i := 1501) (by decide +kernel)⟩
theorem lw_p60 : lw_okq (⟨"DeskMovesModel", "clause", "()V"⟩, 66) := ⟨⟨by decide +kernel, by decide +kernel⟩, List.mem_of_getElem? (i := 1230) (by decide +kernel), List.mem_of_getElem? (i := 1504) (by decide +kernel), List.mem_of_getElem? (i := 1505) (by decide +kernel)⟩
theorem lw_p61 : lw_okq (⟨"DeskMovesModel", "condition", "()V"⟩, 66) := ⟨⟨by decide +kernel, by decide +kernel⟩, List.mem_of_getElem? (i := 1230) (by decide +kernel), List.mem_of_getElem? (i := 1508) (by decide +kernel), List.mem_of_getElem? (i := 1509) (by decide +kernel)⟩
theorem lw_p62 : lw_okq (⟨"DeskMovesModel", "unit", "()V"⟩, 66) := ⟨⟨by decide +kernel, by decide +kernel⟩, List.mem_of_getElem? (i := 1230) (by decide +kernel), List.mem_of_getElem? (i := 1512) (by decide +kernel), List.mem_of_getElem? (i := 1513) (by decide +kernel)⟩
theorem lw_p63 : lw_okq (⟨"DeskMovesModel", "opens", "()V"⟩, 66) := ⟨⟨by decide +kernel, by decide +kernel⟩, List.mem_of_getElem? (i := 1230) (by decide +kernel), List.mem_of_getElem? (i := 1516) (by decide +kernel), List.mem_of_getElem? (i := 1517) (by decide +kernel)⟩
def lw_privs_4 : List (MethodName × Nat) := [(⟨"DeskMoves$Office", "swap", "(II)V"⟩, 11), (⟨"java/lang/Throwable", "fillInStackTrace", "(I)Ljava/lang/Throwable;"⟩, 6), (⟨"DeskMovesModel", "readOffice", "()I"⟩, 66), (⟨"DeskMovesModel", "seats", "()V"⟩, 66), (⟨"DeskMovesModel", "look", "()I"⟩, 66), (⟨"DeskMovesModel", "here", "()I"⟩, 66), (⟨"DeskMovesModel", "bad", "()V"⟩, 66), (⟨"DeskMovesModel", "doorPairs", "()V"⟩, 66), (⟨"DeskMovesModel", "quarrelPairs", "()V"⟩, 66), (⟨"DeskMovesModel", "atEnd", "()I"⟩, 66), (⟨"DeskMovesModel", "readLaw", "(I)I"⟩, 66), (⟨"DeskMovesModel", "open", "(I)V"⟩, 66), (⟨"DeskMovesModel", "clause", "()V"⟩, 66), (⟨"DeskMovesModel", "condition", "()V"⟩, 66), (⟨"DeskMovesModel", "unit", "()V"⟩, 66), (⟨"DeskMovesModel", "opens", "()V"⟩, 66)]
theorem lw_r4 : ∀ q ∈ lw_privs_4, lw_okq q := List.forall_mem_cons.mpr ⟨lw_p48, List.forall_mem_cons.mpr ⟨lw_p49, List.forall_mem_cons.mpr ⟨lw_p50, List.forall_mem_cons.mpr ⟨lw_p51, List.forall_mem_cons.mpr ⟨lw_p52, List.forall_mem_cons.mpr ⟨lw_p53, List.forall_mem_cons.mpr ⟨lw_p54, List.forall_mem_cons.mpr ⟨lw_p55, List.forall_mem_cons.mpr ⟨lw_p56, List.forall_mem_cons.mpr ⟨lw_p57, List.forall_mem_cons.mpr ⟨lw_p58, List.forall_mem_cons.mpr ⟨lw_p59, List.forall_mem_cons.mpr ⟨lw_p60, List.forall_mem_cons.mpr ⟨lw_p61, List.forall_mem_cons.mpr ⟨lw_p62, List.forall_mem_cons.mpr ⟨lw_p63, fun _ h => absurd h List.not_mem_nil⟩⟩⟩⟩⟩⟩⟩⟩⟩⟩⟩⟩⟩⟩⟩⟩
theorem lw_p64 : lw_okq (⟨"DeskMovesModel", "put", "(II)V"⟩, 66) := ⟨⟨by decide +kernel, by decide +kernel⟩, List.mem_of_getElem? (i := 1230) (by decide +kernel), List.mem_of_getElem? (i := 1520) (by decide +kernel), List.mem_of_getElem? (i := 1521) (by decide +kernel)⟩
theorem lw_p65 : lw_okq (⟨"DeskMovesModel", "closes", "(I)V"⟩, 66) := ⟨⟨by decide +kernel, by decide +kernel⟩, List.mem_of_getElem? (i := 1230) (by decide +kernel), List.mem_of_getElem? (i := 1524) (by decide +kernel), List.mem_of_getElem? (i := 1525) (by decide +kernel)⟩
theorem lw_p66 : lw_okq (⟨"DeskMovesModel", "sum", "()V"⟩, 66) := ⟨⟨by decide +kernel, by decide +kernel⟩, List.mem_of_getElem? (i := 1230) (by decide +kernel), List.mem_of_getElem? (i := 1528) (by decide +kernel), List.mem_of_getElem? (i := 1529) (by decide +kernel)⟩
theorem lw_p67 : lw_okq (⟨"DeskMovesModel", "term", "()V"⟩, 66) := ⟨⟨by decide +kernel, by decide +kernel⟩, List.mem_of_getElem? (i := 1230) (by decide +kernel), List.mem_of_getElem? (i := 1532) (by decide +kernel), List.mem_of_getElem? (i := 1533) (by decide +kernel)⟩
theorem lw_p68 : lw_okq (⟨"DeskMovesModel", "atom", "()V"⟩, 66) := ⟨⟨by decide +kernel, by decide +kernel⟩, List.mem_of_getElem? (i := 1230) (by decide +kernel), List.mem_of_getElem? (i := 1536) (by decide +kernel), List.mem_of_getElem? (i := 1537) (by decide +kernel)⟩
theorem lw_p69 : lw_okq (⟨"DeskMovesModel", "plainNumber", "()I"⟩, 66) := ⟨⟨by decide +kernel, by decide +kernel⟩, List.mem_of_getElem? (i := 1230) (by decide +kernel), List.mem_of_getElem? (i := 1543) (by decide +kernel), List.mem_of_getElem? (i := 1544) (by decide +kernel)⟩
theorem lw_p70 : lw_okq (⟨"DeskMovesModel", "compare", "()V"⟩, 66) := ⟨⟨by decide +kernel, by decide +kernel⟩, List.mem_of_getElem? (i := 1230) (by decide +kernel), List.mem_of_getElem? (i := 1550) (by decide +kernel), List.mem_of_getElem? (i := 1551) (by decide +kernel)⟩
theorem lw_p71 : lw_okq (⟨"DeskMovesModel", "goOnAnd", "()V"⟩, 66) := ⟨⟨by decide +kernel, by decide +kernel⟩, List.mem_of_getElem? (i := 1230) (by decide +kernel), List.mem_of_getElem? (i := 1557) (by decide +kernel), List.mem_of_getElem? (i := 1558) (by decide +kernel)⟩
theorem lw_p72 : lw_okq (⟨"DeskMovesModel", "goOnOr", "()V"⟩, 66) := ⟨⟨by decide +kernel, by decide +kernel⟩, List.mem_of_getElem? (i := 1230) (by decide +kernel), List.mem_of_getElem? (i := 1561) (by decide +kernel), List.mem_of_getElem? (i := 1562) (by decide +kernel)⟩
theorem lw_p73 : lw_okq (⟨"DeskMovesModel", "readPlan", "()I"⟩, 66) := ⟨⟨by decide +kernel, by decide +kernel⟩, List.mem_of_getElem? (i := 1230) (by decide +kernel), List.mem_of_getElem? (i := 1565) (by decide +kernel), List.mem_of_getElem? (i := 1566) (by decide +kernel)⟩
theorem lw_p74 : lw_okq (⟨"DeskMovesModel", "takeOffice", "()I"⟩, 66) := ⟨⟨by decide +kernel, by decide +kernel⟩, List.mem_of_getElem? (i := 1230) (by decide +kernel), List.mem_of_getElem? (i := 1573) (by decide +kernel), List.mem_of_getElem? (i := 1574) (by decide +kernel)⟩
theorem lw_p75 : lw_okq (⟨"DeskMovesModel", "isDesk", "(I)Z"⟩, 66) := ⟨⟨by decide +kernel, by decide +kernel⟩, List.mem_of_getElem? (i := 1230) (by decide +kernel), List.mem_of_getElem? (i := 1581) (by decide +kernel), List.mem_of_getElem? (i := 1582) (by decide +kernel)⟩
theorem lw_p76 : lw_okq (⟨"DeskMovesModel", "isClerk", "(I)Z"⟩, 66) := ⟨⟨by decide +kernel, by decide +kernel⟩, List.mem_of_getElem? (i := 1230) (by decide +kernel), List.mem_of_getElem? (i := 1593) (by decide +kernel), List.mem_of_getElem? (i := 1594) (by decide +kernel)⟩
theorem lw_p77 : lw_okq (⟨"DeskMovesModel", "where", "([II)I"⟩, 66) := ⟨⟨by decide +kernel, by decide +kernel⟩, List.mem_of_getElem? (i := 1230) (by decide +kernel), List.mem_of_getElem? (i := 1605) (by decide +kernel), List.mem_of_getElem? (i := 1606) (by decide +kernel)⟩
theorem lw_p78 : lw_okq (⟨"DeskMovesModel", "beside", "([IIIZ)I"⟩, 66) := ⟨⟨by decide +kernel, by decide +kernel⟩, List.mem_of_getElem? (i := 1230) (by decide +kernel), List.mem_of_getElem? (i := 1609) (by decide +kernel), List.mem_of_getElem? (i := 1610) (by decide +kernel)⟩
theorem lw_p79 : lw_okq (⟨"DeskMovesModel", "bars", "([III)I"⟩, 66) := ⟨⟨by decide +kernel, by decide +kernel⟩, List.mem_of_getElem? (i := 1230) (by decide +kernel), List.mem_of_getElem? (i := 1621) (by decide +kernel), List.mem_of_getElem? (i := 1622) (by decide +kernel)⟩
def lw_privs_5 : List (MethodName × Nat) := [(⟨"DeskMovesModel", "put", "(II)V"⟩, 66), (⟨"DeskMovesModel", "closes", "(I)V"⟩, 66), (⟨"DeskMovesModel", "sum", "()V"⟩, 66), (⟨"DeskMovesModel", "term", "()V"⟩, 66), (⟨"DeskMovesModel", "atom", "()V"⟩, 66), (⟨"DeskMovesModel", "plainNumber", "()I"⟩, 66), (⟨"DeskMovesModel", "compare", "()V"⟩, 66), (⟨"DeskMovesModel", "goOnAnd", "()V"⟩, 66), (⟨"DeskMovesModel", "goOnOr", "()V"⟩, 66), (⟨"DeskMovesModel", "readPlan", "()I"⟩, 66), (⟨"DeskMovesModel", "takeOffice", "()I"⟩, 66), (⟨"DeskMovesModel", "isDesk", "(I)Z"⟩, 66), (⟨"DeskMovesModel", "isClerk", "(I)Z"⟩, 66), (⟨"DeskMovesModel", "where", "([II)I"⟩, 66), (⟨"DeskMovesModel", "beside", "([IIIZ)I"⟩, 66), (⟨"DeskMovesModel", "bars", "([III)I"⟩, 66)]
theorem lw_r5 : ∀ q ∈ lw_privs_5, lw_okq q := List.forall_mem_cons.mpr ⟨lw_p64, List.forall_mem_cons.mpr ⟨lw_p65, List.forall_mem_cons.mpr ⟨lw_p66, List.forall_mem_cons.mpr ⟨lw_p67, List.forall_mem_cons.mpr ⟨lw_p68, List.forall_mem_cons.mpr ⟨lw_p69, List.forall_mem_cons.mpr ⟨lw_p70, List.forall_mem_cons.mpr ⟨lw_p71, List.forall_mem_cons.mpr ⟨lw_p72, List.forall_mem_cons.mpr ⟨lw_p73, List.forall_mem_cons.mpr ⟨lw_p74, List.forall_mem_cons.mpr ⟨lw_p75, List.forall_mem_cons.mpr ⟨lw_p76, List.forall_mem_cons.mpr ⟨lw_p77, List.forall_mem_cons.mpr ⟨lw_p78, List.forall_mem_cons.mpr ⟨lw_p79, fun _ h => absurd h List.not_mem_nil⟩⟩⟩⟩⟩⟩⟩⟩⟩⟩⟩⟩⟩⟩⟩⟩
theorem lw_p80 : lw_okq (⟨"DeskMovesModel", "isLet", "([IIII)Z"⟩, 66) := ⟨⟨by decide +kernel, by decide +kernel⟩, List.mem_of_getElem? (i := 1230) (by decide +kernel), List.mem_of_getElem? (i := 1625) (by decide +kernel), List.mem_of_getElem? (i := 1626) (by decide +kernel)⟩
theorem lw_p81 : lw_okq (⟨"DeskMovesModel", "worthOf", "(I)I"⟩, 66) := ⟨⟨by decide +kernel, by decide +kernel⟩, List.mem_of_getElem? (i := 1230) (by decide +kernel), List.mem_of_getElem? (i := 1629) (by decide +kernel), List.mem_of_getElem? (i := 1630) (by decide +kernel)⟩
theorem lw_p82 : lw_okq (⟨"DeskMovesModel", "workOut", "(III)I"⟩, 66) := ⟨⟨by decide +kernel, by decide +kernel⟩, List.mem_of_getElem? (i := 1230) (by decide +kernel), List.mem_of_getElem? (i := 1633) (by decide +kernel), List.mem_of_getElem? (i := 1634) (by decide +kernel)⟩
theorem lw_p83 : lw_okq (⟨"DeskMovesModel", "costOf", "(III)I"⟩, 66) := ⟨⟨by decide +kernel, by decide +kernel⟩, List.mem_of_getElem? (i := 1230) (by decide +kernel), List.mem_of_getElem? (i := 1656) (by decide +kernel), List.mem_of_getElem? (i := 1657) (by decide +kernel)⟩
theorem lw_p84 : lw_okq (⟨"DeskMovesModel", "copySeat", "([I)V"⟩, 66) := ⟨⟨by decide +kernel, by decide +kernel⟩, List.mem_of_getElem? (i := 1230) (by decide +kernel), List.mem_of_getElem? (i := 1673) (by decide +kernel), List.mem_of_getElem? (i := 1674) (by decide +kernel)⟩
theorem lw_p85 : lw_okq (⟨"DeskMovesModel", "areCross", "([I)Z"⟩, 66) := ⟨⟨by decide +kernel, by decide +kernel⟩, List.mem_of_getElem? (i := 1230) (by decide +kernel), List.mem_of_getElem? (i := 1677) (by decide +kernel), List.mem_of_getElem? (i := 1678) (by decide +kernel)⟩
theorem lw_p86 : lw_okq (⟨"DeskMovesModel", "isDone", "([III)Z"⟩, 66) := ⟨⟨by decide +kernel, by decide +kernel⟩, List.mem_of_getElem? (i := 1230) (by decide +kernel), List.mem_of_getElem? (i := 1690) (by decide +kernel), List.mem_of_getElem? (i := 1691) (by decide +kernel)⟩
theorem lw_p87 : lw_okq (⟨"DeskMovesModel", "isSmall", "()Z"⟩, 66) := ⟨⟨by decide +kernel, by decide +kernel⟩, List.mem_of_getElem? (i := 1230) (by decide +kernel), List.mem_of_getElem? (i := 1698) (by decide +kernel), List.mem_of_getElem? (i := 1699) (by decide +kernel)⟩
theorem lw_p88 : lw_okq (⟨"DeskMovesModel", "explore", "(I)V"⟩, 66) := ⟨⟨by decide +kernel, by decide +kernel⟩, List.mem_of_getElem? (i := 1230) (by decide +kernel), List.mem_of_getElem? (i := 1702) (by decide +kernel), List.mem_of_getElem? (i := 1703) (by decide +kernel)⟩
theorem lw_p89 : lw_okq (⟨"DeskMovesModel", "placeOf", "(I)I"⟩, 66) := ⟨⟨by decide +kernel, by decide +kernel⟩, List.mem_of_getElem? (i := 1230) (by decide +kernel), List.mem_of_getElem? (i := 1709) (by decide +kernel), List.mem_of_getElem? (i := 1710) (by decide +kernel)⟩
theorem lw_p90 : lw_okq (⟨"DeskMovesModel", "leave", "(II)V"⟩, 66) := ⟨⟨by decide +kernel, by decide +kernel⟩, List.mem_of_getElem? (i := 1230) (by decide +kernel), List.mem_of_getElem? (i := 1715) (by decide +kernel), List.mem_of_getElem? (i := 1716) (by decide +kernel)⟩
theorem lw_p91 : lw_okq (⟨"DeskMovesModel", "unpack", "(I)V"⟩, 66) := ⟨⟨by decide +kernel, by decide +kernel⟩, List.mem_of_getElem? (i := 1230) (by decide +kernel), List.mem_of_getElem? (i := 1719) (by decide +kernel), List.mem_of_getElem? (i := 1720) (by decide +kernel)⟩
theorem lw_p92 : lw_okq (⟨"DeskMovesModel", "nearest", "()I"⟩, 66) := ⟨⟨by decide +kernel, by decide +kernel⟩, List.mem_of_getElem? (i := 1230) (by decide +kernel), List.mem_of_getElem? (i := 1723) (by decide +kernel), List.mem_of_getElem? (i := 1724) (by decide +kernel)⟩
theorem lw_p93 : lw_okq (⟨"DeskMovesModel", "isDoneAt", "(III)Z"⟩, 66) := ⟨⟨by decide +kernel, by decide +kernel⟩, List.mem_of_getElem? (i := 1230) (by decide +kernel), List.mem_of_getElem? (i := 1727) (by decide +kernel), List.mem_of_getElem? (i := 1728) (by decide +kernel)⟩
theorem lw_p94 : lw_okq (⟨"DeskMovesModel", "measure", "()V"⟩, 66) := ⟨⟨by decide +kernel, by decide +kernel⟩, List.mem_of_getElem? (i := 1230) (by decide +kernel), List.mem_of_getElem? (i := 1731) (by decide +kernel), List.mem_of_getElem? (i := 1732) (by decide +kernel)⟩
theorem lw_p95 : lw_okq (⟨"DeskMovesModel", "bestEdge", "(I)I"⟩, 66) := ⟨⟨by decide +kernel, by decide +kernel⟩, List.mem_of_getElem? (i := 1230) (by decide +kernel), List.mem_of_getElem? (i := 1735) (by decide +kernel), List.mem_of_getElem? (i := 1736) (by decide +kernel)⟩
def lw_privs_6 : List (MethodName × Nat) := [(⟨"DeskMovesModel", "isLet", "([IIII)Z"⟩, 66), (⟨"DeskMovesModel", "worthOf", "(I)I"⟩, 66), (⟨"DeskMovesModel", "workOut", "(III)I"⟩, 66), (⟨"DeskMovesModel", "costOf", "(III)I"⟩, 66), (⟨"DeskMovesModel", "copySeat", "([I)V"⟩, 66), (⟨"DeskMovesModel", "areCross", "([I)Z"⟩, 66), (⟨"DeskMovesModel", "isDone", "([III)Z"⟩, 66), (⟨"DeskMovesModel", "isSmall", "()Z"⟩, 66), (⟨"DeskMovesModel", "explore", "(I)V"⟩, 66), (⟨"DeskMovesModel", "placeOf", "(I)I"⟩, 66), (⟨"DeskMovesModel", "leave", "(II)V"⟩, 66), (⟨"DeskMovesModel", "unpack", "(I)V"⟩, 66), (⟨"DeskMovesModel", "nearest", "()I"⟩, 66), (⟨"DeskMovesModel", "isDoneAt", "(III)Z"⟩, 66), (⟨"DeskMovesModel", "measure", "()V"⟩, 66), (⟨"DeskMovesModel", "bestEdge", "(I)I"⟩, 66)]
theorem lw_r6 : ∀ q ∈ lw_privs_6, lw_okq q := List.forall_mem_cons.mpr ⟨lw_p80, List.forall_mem_cons.mpr ⟨lw_p81, List.forall_mem_cons.mpr ⟨lw_p82, List.forall_mem_cons.mpr ⟨lw_p83, List.forall_mem_cons.mpr ⟨lw_p84, List.forall_mem_cons.mpr ⟨lw_p85, List.forall_mem_cons.mpr ⟨lw_p86, List.forall_mem_cons.mpr ⟨lw_p87, List.forall_mem_cons.mpr ⟨lw_p88, List.forall_mem_cons.mpr ⟨lw_p89, List.forall_mem_cons.mpr ⟨lw_p90, List.forall_mem_cons.mpr ⟨lw_p91, List.forall_mem_cons.mpr ⟨lw_p92, List.forall_mem_cons.mpr ⟨lw_p93, List.forall_mem_cons.mpr ⟨lw_p94, List.forall_mem_cons.mpr ⟨lw_p95, fun _ h => absurd h List.not_mem_nil⟩⟩⟩⟩⟩⟩⟩⟩⟩⟩⟩⟩⟩⟩⟩⟩
theorem lw_p96 : lw_okq (⟨"DeskMovesModel", "cheapestOf", "(I)I"⟩, 66) := ⟨⟨by decide +kernel, by decide +kernel⟩, List.mem_of_getElem? (i := 1230) (by decide +kernel), List.mem_of_getElem? (i := 1743) (by decide +kernel), List.mem_of_getElem? (i := 1744) (by decide +kernel)⟩
theorem lw_p97 : lw_okq (⟨"DeskMovesModel", "edgeCost", "(II)I"⟩, 66) := ⟨⟨by decide +kernel, by decide +kernel⟩, List.mem_of_getElem? (i := 1230) (by decide +kernel), List.mem_of_getElem? (i := 1747) (by decide +kernel), List.mem_of_getElem? (i := 1748) (by decide +kernel)⟩
theorem lw_p98 : lw_okq (⟨"DeskMovesModel", "empties", "()I"⟩, 66) := ⟨⟨by decide +kernel, by decide +kernel⟩, List.mem_of_getElem? (i := 1230) (by decide +kernel), List.mem_of_getElem? (i := 1771) (by decide +kernel), List.mem_of_getElem? (i := 1772) (by decide +kernel)⟩
theorem lw_p99 : lw_okq (⟨"DeskMovesModel", "sortOf", "()I"⟩, 66) := ⟨⟨by decide +kernel, by decide +kernel⟩, List.mem_of_getElem? (i := 1230) (by decide +kernel), List.mem_of_getElem? (i := 1776) (by decide +kernel), List.mem_of_getElem? (i := 1777) (by decide +kernel)⟩
theorem lw_p100 : lw_okq (⟨"DeskMovesModel", "joined", "(II)I"⟩, 66) := ⟨⟨by decide +kernel, by decide +kernel⟩, List.mem_of_getElem? (i := 1230) (by decide +kernel), List.mem_of_getElem? (i := 1780) (by decide +kernel), List.mem_of_getElem? (i := 1781) (by decide +kernel)⟩
theorem lw_p101 : lw_okq (⟨"DeskMovesModel", "doorsOf", "(I)I"⟩, 66) := ⟨⟨by decide +kernel, by decide +kernel⟩, List.mem_of_getElem? (i := 1230) (by decide +kernel), List.mem_of_getElem? (i := 1784) (by decide +kernel), List.mem_of_getElem? (i := 1785) (by decide +kernel)⟩
theorem lw_p102 : lw_okq (⟨"DeskMovesModel", "isTheta", "()Z"⟩, 66) := ⟨⟨by decide +kernel, by decide +kernel⟩, List.mem_of_getElem? (i := 1230) (by decide +kernel), List.mem_of_getElem? (i := 1788) (by decide +kernel), List.mem_of_getElem? (i := 1789) (by decide +kernel)⟩
theorem lw_p103 : lw_okq (⟨"DeskMovesModel", "isOfTwo", "()Z"⟩, 66) := ⟨⟨by decide +kernel, by decide +kernel⟩, List.mem_of_getElem? (i := 1230) (by decide +kernel), List.mem_of_getElem? (i := 1792) (by decide +kernel), List.mem_of_getElem? (i := 1793) (by decide +kernel)⟩
theorem lw_p104 : lw_okq (⟨"DeskMovesModel", "isSeating", "()Z"⟩, 66) := ⟨⟨by decide +kernel, by decide +kernel⟩, List.mem_of_getElem? (i := 1230) (by decide +kernel), List.mem_of_getElem? (i := 1800) (by decide +kernel), List.mem_of_getElem? (i := 1801) (by decide +kernel)⟩
theorem lw_p105 : lw_okq (⟨"DeskMovesModel", "isOneOrder", "()Z"⟩, 66) := ⟨⟨by decide +kernel, by decide +kernel⟩, List.mem_of_getElem? (i := 1230) (by decide +kernel), List.mem_of_getElem? (i := 1804) (by decide +kernel), List.mem_of_getElem? (i := 1805) (by decide +kernel)⟩
theorem lw_p106 : lw_okq (⟨"DeskMovesModel", "goRound", "()V"⟩, 66) := ⟨⟨by decide +kernel, by decide +kernel⟩, List.mem_of_getElem? (i := 1230) (by decide +kernel), List.mem_of_getElem? (i := 1808) (by decide +kernel), List.mem_of_getElem? (i := 1809) (by decide +kernel)⟩
theorem lw_p107 : lw_okq (⟨"DeskMovesModel", "behind", "([III)I"⟩, 66) := ⟨⟨by decide +kernel, by decide +kernel⟩, List.mem_of_getElem? (i := 1230) (by decide +kernel), List.mem_of_getElem? (i := 1816) (by decide +kernel), List.mem_of_getElem? (i := 1817) (by decide +kernel)⟩
theorem lw_p108 : lw_okq (⟨"DeskMovesModel", "isEven", "()Z"⟩, 66) := ⟨⟨by decide +kernel, by decide +kernel⟩, List.mem_of_getElem? (i := 1230) (by decide +kernel), List.mem_of_getElem? (i := 1820) (by decide +kernel), List.mem_of_getElem? (i := 1821) (by decide +kernel)⟩
theorem lw_p109 : lw_okq (⟨"DeskMovesModel", "lay", "()V"⟩, 66) := ⟨⟨by decide +kernel, by decide +kernel⟩, List.mem_of_getElem? (i := 1230) (by decide +kernel), List.mem_of_getElem? (i := 1836) (by decide +kernel), List.mem_of_getElem? (i := 1837) (by decide +kernel)⟩
theorem lw_p110 : lw_okq (⟨"DeskMovesModel", "bestSum", "()I"⟩, 66) := ⟨⟨by decide +kernel, by decide +kernel⟩, List.mem_of_getElem? (i := 1230) (by decide +kernel), List.mem_of_getElem? (i := 1840) (by decide +kernel), List.mem_of_getElem? (i := 1841) (by decide +kernel)⟩
theorem lw_p111 : lw_okq (⟨"DeskMovesModel", "fill", "()V"⟩, 66) := ⟨⟨by decide +kernel, by decide +kernel⟩, List.mem_of_getElem? (i := 1230) (by decide +kernel), List.mem_of_getElem? (i := 1844) (by decide +kernel), List.mem_of_getElem? (i := 1845) (by decide +kernel)⟩
def lw_privs_7 : List (MethodName × Nat) := [(⟨"DeskMovesModel", "cheapestOf", "(I)I"⟩, 66), (⟨"DeskMovesModel", "edgeCost", "(II)I"⟩, 66), (⟨"DeskMovesModel", "empties", "()I"⟩, 66), (⟨"DeskMovesModel", "sortOf", "()I"⟩, 66), (⟨"DeskMovesModel", "joined", "(II)I"⟩, 66), (⟨"DeskMovesModel", "doorsOf", "(I)I"⟩, 66), (⟨"DeskMovesModel", "isTheta", "()Z"⟩, 66), (⟨"DeskMovesModel", "isOfTwo", "()Z"⟩, 66), (⟨"DeskMovesModel", "isSeating", "()Z"⟩, 66), (⟨"DeskMovesModel", "isOneOrder", "()Z"⟩, 66), (⟨"DeskMovesModel", "goRound", "()V"⟩, 66), (⟨"DeskMovesModel", "behind", "([III)I"⟩, 66), (⟨"DeskMovesModel", "isEven", "()Z"⟩, 66), (⟨"DeskMovesModel", "lay", "()V"⟩, 66), (⟨"DeskMovesModel", "bestSum", "()I"⟩, 66), (⟨"DeskMovesModel", "fill", "()V"⟩, 66)]
theorem lw_r7 : ∀ q ∈ lw_privs_7, lw_okq q := List.forall_mem_cons.mpr ⟨lw_p96, List.forall_mem_cons.mpr ⟨lw_p97, List.forall_mem_cons.mpr ⟨lw_p98, List.forall_mem_cons.mpr ⟨lw_p99, List.forall_mem_cons.mpr ⟨lw_p100, List.forall_mem_cons.mpr ⟨lw_p101, List.forall_mem_cons.mpr ⟨lw_p102, List.forall_mem_cons.mpr ⟨lw_p103, List.forall_mem_cons.mpr ⟨lw_p104, List.forall_mem_cons.mpr ⟨lw_p105, List.forall_mem_cons.mpr ⟨lw_p106, List.forall_mem_cons.mpr ⟨lw_p107, List.forall_mem_cons.mpr ⟨lw_p108, List.forall_mem_cons.mpr ⟨lw_p109, List.forall_mem_cons.mpr ⟨lw_p110, List.forall_mem_cons.mpr ⟨lw_p111, fun _ h => absurd h List.not_mem_nil⟩⟩⟩⟩⟩⟩⟩⟩⟩⟩⟩⟩⟩⟩⟩⟩
theorem lw_p112 : lw_okq (⟨"DeskMovesModel", "clerkAt", "(I)I"⟩, 66) := ⟨⟨by decide +kernel, by decide +kernel⟩, List.mem_of_getElem? (i := 1230) (by decide +kernel), List.mem_of_getElem? (i := 1848) (by decide +kernel), List.mem_of_getElem? (i := 1849) (by decide +kernel)⟩
theorem lw_p113 : lw_okq (⟨"DeskMovesModel", "toldWorth", "(II)I"⟩, 66) := ⟨⟨by decide +kernel, by decide +kernel⟩, List.mem_of_getElem? (i := 1230) (by decide +kernel), List.mem_of_getElem? (i := 1852) (by decide +kernel), List.mem_of_getElem? (i := 1853) (by decide +kernel)⟩
theorem lw_p114 : lw_okq (⟨"DeskMovesModel", "restOf", "(II)I"⟩, 66) := ⟨⟨by decide +kernel, by decide +kernel⟩, List.mem_of_getElem? (i := 1230) (by decide +kernel), List.mem_of_getElem? (i := 1856) (by decide +kernel), List.mem_of_getElem? (i := 1857) (by decide +kernel)⟩
theorem lw_p115 : lw_okq (⟨"DeskMovesModel", "exchangeAll", "()V"⟩, 66) := ⟨⟨by decide +kernel, by decide +kernel⟩, List.mem_of_getElem? (i := 1230) (by decide +kernel), List.mem_of_getElem? (i := 1868) (by decide +kernel), List.mem_of_getElem? (i := 1869) (by decide +kernel)⟩
theorem lw_p116 : lw_okq (⟨"DeskMovesModel", "pointOf", "(II)I"⟩, 66) := ⟨⟨by decide +kernel, by decide +kernel⟩, List.mem_of_getElem? (i := 1230) (by decide +kernel), List.mem_of_getElem? (i := 1872) (by decide +kernel), List.mem_of_getElem? (i := 1873) (by decide +kernel)⟩
theorem lw_p117 : lw_okq (⟨"DeskMovesModel", "ringAt", "(I)I"⟩, 66) := ⟨⟨by decide +kernel, by decide +kernel⟩, List.mem_of_getElem? (i := 1230) (by decide +kernel), List.mem_of_getElem? (i := 1876) (by decide +kernel), List.mem_of_getElem? (i := 1877) (by decide +kernel)⟩
theorem lw_p118 : lw_okq (⟨"DeskMovesModel", "areAgreed", "(II)Z"⟩, 66) := ⟨⟨by decide +kernel, by decide +kernel⟩, List.mem_of_getElem? (i := 1230) (by decide +kernel), List.mem_of_getElem? (i := 1884) (by decide +kernel), List.mem_of_getElem? (i := 1885) (by decide +kernel)⟩
def lw_privs_8 : List (MethodName × Nat) := [(⟨"DeskMovesModel", "clerkAt", "(I)I"⟩, 66), (⟨"DeskMovesModel", "toldWorth", "(II)I"⟩, 66), (⟨"DeskMovesModel", "restOf", "(II)I"⟩, 66), (⟨"DeskMovesModel", "exchangeAll", "()V"⟩, 66), (⟨"DeskMovesModel", "pointOf", "(II)I"⟩, 66), (⟨"DeskMovesModel", "ringAt", "(I)I"⟩, 66), (⟨"DeskMovesModel", "areAgreed", "(II)Z"⟩, 66)]
theorem lw_r8 : ∀ q ∈ lw_privs_8, lw_okq q := List.forall_mem_cons.mpr ⟨lw_p112, List.forall_mem_cons.mpr ⟨lw_p113, List.forall_mem_cons.mpr ⟨lw_p114, List.forall_mem_cons.mpr ⟨lw_p115, List.forall_mem_cons.mpr ⟨lw_p116, List.forall_mem_cons.mpr ⟨lw_p117, List.forall_mem_cons.mpr ⟨lw_p118, fun _ h => absurd h List.not_mem_nil⟩⟩⟩⟩⟩⟩⟩
def lw_privs : List (MethodName × Nat) := lw_privs_1 ++ (lw_privs_2 ++ (lw_privs_3 ++ (lw_privs_4 ++ (lw_privs_5 ++ (lw_privs_6 ++ (lw_privs_7 ++ (lw_privs_8)))))))
def lw_tbl : List Cond := k2_sels lw_privs ++ tables_1
theorem lw_privs_ok : ∀ q ∈ lw_privs, lw_okq q := by
  show ∀ q ∈ lw_privs_1 ++ (lw_privs_2 ++ (lw_privs_3 ++ (lw_privs_4 ++ (lw_privs_5 ++ (lw_privs_6 ++ (lw_privs_7 ++ (lw_privs_8))))))), lw_okq q
  exact List.forall_mem_append.mpr ⟨lw_r1, List.forall_mem_append.mpr ⟨lw_r2, List.forall_mem_append.mpr ⟨lw_r3, List.forall_mem_append.mpr ⟨lw_r4, List.forall_mem_append.mpr ⟨lw_r5, List.forall_mem_append.mpr ⟨lw_r6, List.forall_mem_append.mpr ⟨lw_r7, lw_r8⟩⟩⟩⟩⟩⟩⟩

def RX0 : String := "DeskMoves$Costs"
def TX0 : u_T := fun k => match k with
  | 0 => ("DeskMoves$Costs", "cost", "[I", true)
  | 1 => ("DeskMoves$Costs", "next", "[I", true)
  | 2 => ("DeskMoves$Costs", "last", "[I", true)
  | 3 => ("DeskMoves$Costs", "heads", "[I", true)
  | _ => ("DeskMoves$Costs", "waiting", "I", false)
def tyX0 : Nat → FieldType := fun k => match k with
  | 0 => .array .int
  | 1 => .array .int
  | 2 => .array .int
  | 3 => .array .int
  | _ => .int
abbrev wsX00 : List Cond := u_ws RX0 TX0 5
theorem nmX0 : ∀ a, a < 5 → ∀ b, b < 5 → a ≠ b → (TX0 a).2.1 ≠ (TX0 b).2.1 := by decide +kernel
theorem tyX0_ok : ∀ k, k < 5 → parseFieldDescriptor (TX0 k).2.2.1 = some (tyX0 k) := by decide +kernel
def RX1 : String := "DeskMoves$Diary"
def TX1 : u_T := fun k => match k with
  | 0 => ("DeskMoves$Diary", "moves", "[I", true)
  | 1 => ("DeskMoves$Diary", "size", "I", false)
  | 2 => ("DeskMoves$Diary", "kept", "Z", false)
  | 3 => ("DeskMoves$Diary", "keptMoves", "[I", true)
  | 4 => ("DeskMoves$Diary", "keptSize", "I", false)
  | _ => ("DeskMoves$Diary", "keptSeats", "[I", true)
def tyX1 : Nat → FieldType := fun k => match k with
  | 0 => .array .int
  | 1 => .int
  | 2 => .boolean
  | 3 => .array .int
  | 4 => .int
  | _ => .array .int
abbrev wsX10 : List Cond := u_ws RX1 TX1 6
theorem nmX1 : ∀ a, a < 6 → ∀ b, b < 6 → a ≠ b → (TX1 a).2.1 ≠ (TX1 b).2.1 := by decide +kernel
theorem tyX1_ok : ∀ k, k < 6 → parseFieldDescriptor (TX1 k).2.2.1 = some (tyX1 k) := by decide +kernel
abbrev cX1_init : ByteArray := prog_3_method_1_code
def yX1_init : MethodName := ⟨RX1, "<init>", "()V"⟩
abbrev cX1_moveAt : ByteArray := prog_3_method_5_code
def yX1_moveAt : MethodName := ⟨RX1, "moveAt", "(I)I"⟩
def RX2 : String := "DeskMoves$Law"
def TX2 : u_T := fun k => match k with
  | 0 => ("DeskMoves$Law", "code", "[I", true)
  | 1 => ("DeskMoves$Law", "looksBeside", "Z", true)
  | 2 => ("DeskMoves$Law", "letters", "[I", true)
  | 3 => ("DeskMoves$Law", "stack", "[I", true)
  | _ => ("DeskMoves$Law", "top", "I", false)
def tyX2 : Nat → FieldType := fun k => match k with
  | 0 => .array .int
  | 1 => .boolean
  | 2 => .array .int
  | 3 => .array .int
  | _ => .int
abbrev wsX20 : List Cond := u_ws RX2 TX2 5
theorem nmX2 : ∀ a, a < 5 → ∀ b, b < 5 → a ≠ b → (TX2 a).2.1 ≠ (TX2 b).2.1 := by decide +kernel
theorem tyX2_ok : ∀ k, k < 5 → parseFieldDescriptor (TX2 k).2.2.1 = some (tyX2 k) := by decide +kernel
def RX3 : String := "DeskMoves$LawReader"
def TX3 : u_T := fun k => match k with
  | 0 => ("DeskMoves$LawReader", "tape", "LDeskMoves$Tape;", true)
  | 1 => ("DeskMoves$LawReader", "items", "[I", true)
  | 2 => ("DeskMoves$LawReader", "size", "I", false)
  | _ => ("DeskMoves$LawReader", "looksBeside", "Z", false)
def tyX3 : Nat → FieldType := fun k => match k with
  | 0 => .object "DeskMoves$Tape"
  | 1 => .array .int
  | 2 => .int
  | _ => .boolean
abbrev wsX30 : List Cond := u_ws RX3 TX3 4
theorem nmX3 : ∀ a, a < 4 → ∀ b, b < 4 → a ≠ b → (TX3 a).2.1 ≠ (TX3 b).2.1 := by decide +kernel
theorem tyX3_ok : ∀ k, k < 4 → parseFieldDescriptor (TX3 k).2.2.1 = some (tyX3 k) := by decide +kernel
abbrev cX3_init : ByteArray := prog_5_method_1_code
def yX3_init : MethodName := ⟨RX3, "<init>", "(LDeskMoves$Tape;)V"⟩
abbrev cX3_isRead : ByteArray := prog_5_method_2_code
def yX3_isRead : MethodName := ⟨RX3, "isRead", "()Z"⟩
abbrev cX3_readClause : ByteArray := prog_5_method_5_code
def yX3_readClause : MethodName := ⟨RX3, "readClause", "()Z"⟩
def RX4 : String := "DeskMoves$Office"
def TX4 : u_T := fun k => match k with
  | 0 => ("DeskMoves$Office", "desks", "I", false)
  | 1 => ("DeskMoves$Office", "clerks", "I", false)
  | 2 => ("DeskMoves$Office", "seat", "[I", true)
  | 3 => ("DeskMoves$Office", "place", "[I", true)
  | 4 => ("DeskMoves$Office", "lengths", "[I", true)
  | 5 => ("DeskMoves$Office", "beside", "[I", true)
  | 6 => ("DeskMoves$Office", "foes", "[I", true)
  | 7 => ("DeskMoves$Office", "rank", "[I", true)
  | 8 => ("DeskMoves$Office", "papers", "[I", true)
  | 9 => ("DeskMoves$Office", "wishes", "[I", true)
  | _ => ("DeskMoves$Office", "worths", "[I", true)
def tyX4 : Nat → FieldType := fun k => match k with
  | 0 => .int
  | 1 => .int
  | 2 => .array .int
  | 3 => .array .int
  | 4 => .array .int
  | 5 => .array .int
  | 6 => .array .int
  | 7 => .array .int
  | 8 => .array .int
  | 9 => .array .int
  | _ => .array .int
abbrev wsX40 : List Cond := u_ws RX4 TX4 11
theorem nmX4 : ∀ a, a < 11 → ∀ b, b < 11 → a ≠ b → (TX4 a).2.1 ≠ (TX4 b).2.1 := by decide +kernel
theorem tyX4_ok : ∀ k, k < 11 → parseFieldDescriptor (TX4 k).2.2.1 = some (tyX4 k) := by decide +kernel
abbrev cX4_init : ByteArray := prog_6_method_1_code
def yX4_init : MethodName := ⟨RX4, "<init>", "()V"⟩
abbrev cX4_clear : ByteArray := prog_6_method_2_code
def yX4_clear : MethodName := ⟨RX4, "clear", "()V"⟩
abbrev cX4_isReadFrom : ByteArray := prog_6_method_3_code
def yX4_isReadFrom : MethodName := ⟨RX4, "isReadFrom", "(LDeskMoves$Tape;)Z"⟩
abbrev cX4_readSeats : ByteArray := prog_6_method_4_code
def yX4_readSeats : MethodName := ⟨RX4, "readSeats", "(LDeskMoves$Tape;)Z"⟩
abbrev cX4_addDesk : ByteArray := prog_6_method_6_code
def yX4_addDesk : MethodName := ⟨RX4, "addDesk", "(I)Z"⟩
abbrev cX4_hasDesk : ByteArray := prog_6_method_11_code
def yX4_hasDesk : MethodName := ⟨RX4, "hasDesk", "(I)Z"⟩
abbrev cX4_hasClerk : ByteArray := prog_6_method_12_code
def yX4_hasClerk : MethodName := ⟨RX4, "hasClerk", "(I)Z"⟩
abbrev cX4_lengthBetween : ByteArray := prog_6_method_13_code
def yX4_lengthBetween : MethodName := ⟨RX4, "lengthBetween", "(II)I"⟩
abbrev cX4_hindrance : ByteArray := prog_6_method_16_code
def yX4_hindrance : MethodName := ⟨RX4, "hindrance", "(LDeskMoves$Law;II)I"⟩
def RX5 : String := "DeskMoves$Plan"
def TX5 : u_T := fun k => match k with
  | 0 => ("DeskMoves$Plan", "moves", "[I", true)
  | 1 => ("DeskMoves$Plan", "size", "I", false)
  | 2 => ("DeskMoves$Plan", "before", "[I", true)
  | 3 => ("DeskMoves$Plan", "wrong", "I", false)
  | 4 => ("DeskMoves$Plan", "why", "I", false)
  | _ => ("DeskMoves$Plan", "cost", "I", false)
def tyX5 : Nat → FieldType := fun k => match k with
  | 0 => .array .int
  | 1 => .int
  | 2 => .array .int
  | 3 => .int
  | 4 => .int
  | _ => .int
abbrev wsX50 : List Cond := u_ws RX5 TX5 6
theorem nmX5 : ∀ a, a < 6 → ∀ b, b < 6 → a ≠ b → (TX5 a).2.1 ≠ (TX5 b).2.1 := by decide +kernel
theorem tyX5_ok : ∀ k, k < 6 → parseFieldDescriptor (TX5 k).2.2.1 = some (tyX5 k) := by decide +kernel
abbrev cX5_init : ByteArray := prog_7_method_1_code
def yX5_init : MethodName := ⟨RX5, "<init>", "()V"⟩
abbrev cX5_isReadFrom : ByteArray := prog_7_method_2_code
def yX5_isReadFrom : MethodName := ⟨RX5, "isReadFrom", "(LDeskMoves$Tape;)Z"⟩
def RX6 : String := "DeskMoves$Tape"
def TX6 : u_T := fun k => match k with
  | 0 => ("DeskMoves$Tape", "bytes", "[I", true)
  | 1 => ("DeskMoves$Tape", "length", "I", false)
  | _ => ("DeskMoves$Tape", "at", "I", false)
def tyX6 : Nat → FieldType := fun k => match k with
  | 0 => .array .int
  | 1 => .int
  | _ => .int
abbrev wsX60 : List Cond := u_ws RX6 TX6 3
theorem nmX6 : ∀ a, a < 3 → ∀ b, b < 3 → a ≠ b → (TX6 a).2.1 ≠ (TX6 b).2.1 := by decide +kernel
theorem tyX6_ok : ∀ k, k < 3 → parseFieldDescriptor (TX6 k).2.2.1 = some (tyX6 k) := by decide +kernel
abbrev cX6_init : ByteArray := prog_8_method_1_code
def yX6_init : MethodName := ⟨RX6, "<init>", "()V"⟩
abbrev cX6_signsIn : ByteArray := prog_8_method_2_code
def yX6_signsIn : MethodName := ⟨RX6, "signsIn", "(I)I"⟩
abbrev cX6_append : ByteArray := prog_8_method_3_code
def yX6_append : MethodName := ⟨RX6, "append", "(I)V"⟩
abbrev cX6_look : ByteArray := prog_8_method_4_code
def yX6_look : MethodName := ⟨RX6, "look", "()I"⟩
abbrev cX6_takes : ByteArray := prog_8_method_5_code
def yX6_takes : MethodName := ⟨RX6, "takes", "(I)Z"⟩
def RX7 : String := "DeskMoves$Turns"
def TX7 : u_T := fun k => match k with
  | 0 => ("DeskMoves$Turns", "round", "[I", true)
  | 1 => ("DeskMoves$Turns", "now", "[I", true)
  | _ => ("DeskMoves$Turns", "then", "[I", true)
def tyX7 : Nat → FieldType := fun k => match k with
  | 0 => .array .int
  | 1 => .array .int
  | _ => .array .int
abbrev wsX70 : List Cond := u_ws RX7 TX7 3
theorem nmX7 : ∀ a, a < 3 → ∀ b, b < 3 → a ≠ b → (TX7 a).2.1 ≠ (TX7 b).2.1 := by decide +kernel
theorem tyX7_ok : ∀ k, k < 3 → parseFieldDescriptor (TX7 k).2.2.1 = some (tyX7 k) := by decide +kernel
abbrev cX7_init : ByteArray := prog_9_method_1_code
def yX7_init : MethodName := ⟨RX7, "<init>", "()V"⟩
abbrev cX7_kindOf : ByteArray := prog_9_method_2_code
def yX7_kindOf : MethodName := ⟨RX7, "kindOf", "(LDeskMoves$Office;)I"⟩
def RX8 : String := "DeskMoves$Ways"
def TX8 : u_T := fun k => match k with
  | 0 => ("DeskMoves$Ways", "room", "I", true)
  | 1 => ("DeskMoves$Ways", "code", "[I", true)
  | 2 => ("DeskMoves$Ways", "parent", "[I", true)
  | 3 => ("DeskMoves$Ways", "table", "[I", true)
  | 4 => ("DeskMoves$Ways", "base", "I", false)
  | 5 => ("DeskMoves$Ways", "count", "I", false)
  | 6 => ("DeskMoves$Ways", "far", "I", false)
  | 7 => ("DeskMoves$Ways", "levels", "[I", true)
  | 8 => ("DeskMoves$Ways", "office", "LDeskMoves$Office;", false)
  | 9 => ("DeskMoves$Ways", "law", "LDeskMoves$Law;", false)
  | 10 => ("DeskMoves$Ways", "clerks", "I", false)
  | 11 => ("DeskMoves$Ways", "who", "[I", true)
  | 12 => ("DeskMoves$Ways", "at", "[I", true)
  | 13 => ("DeskMoves$Ways", "full", "I", false)
  | 14 => ("DeskMoves$Ways", "known", "[I", true)
  | 15 => ("DeskMoves$Ways", "stamp", "I", false)
  | 16 => ("DeskMoves$Ways", "goalMask", "I", false)
  | 17 => ("DeskMoves$Ways", "goalCode", "I", false)
  | _ => ("DeskMoves$Ways", "goalEmpty", "I", false)
def tyX8 : Nat → FieldType := fun k => match k with
  | 0 => .int
  | 1 => .array .int
  | 2 => .array .int
  | 3 => .array .int
  | 4 => .int
  | 5 => .int
  | 6 => .int
  | 7 => .array .int
  | 8 => .object "DeskMoves$Office"
  | 9 => .object "DeskMoves$Law"
  | 10 => .int
  | 11 => .array .int
  | 12 => .array .int
  | 13 => .int
  | 14 => .array .int
  | 15 => .int
  | 16 => .int
  | 17 => .int
  | _ => .int
abbrev wsX80 : List Cond := u_ws RX8 TX8 19
theorem nmX8 : ∀ a, a < 19 → ∀ b, b < 19 → a ≠ b → (TX8 a).2.1 ≠ (TX8 b).2.1 := by decide +kernel
theorem tyX8_ok : ∀ k, k < 19 → parseFieldDescriptor (TX8 k).2.2.1 = some (tyX8 k) := by decide +kernel
def RX9 : String := "DeskMoves$Wealth"
def TX9 : u_T := fun k => match k with
  | 0 => ("DeskMoves$Wealth", "sums", "[I", false)
  | 1 => ("DeskMoves$Wealth", "told", "[I", true)
  | 2 => ("DeskMoves$Wealth", "who", "[I", true)
  | 3 => ("DeskMoves$Wealth", "clerks", "I", false)
  | 4 => ("DeskMoves$Wealth", "solved", "Z", false)
  | 5 => ("DeskMoves$Wealth", "bestSum", "I", false)
  | 6 => ("DeskMoves$Wealth", "bestDesk", "[I", true)
  | 7 => ("DeskMoves$Wealth", "lied", "I", false)
  | 8 => ("DeskMoves$Wealth", "gain", "[I", true)
  | 9 => ("DeskMoves$Wealth", "gainDesk", "[I", true)
  | 10 => ("DeskMoves$Wealth", "got", "[I", true)
  | 11 => ("DeskMoves$Wealth", "pointed", "[I", true)
  | 12 => ("DeskMoves$Wealth", "clerksLeft", "I", false)
  | _ => ("DeskMoves$Wealth", "desksLeft", "I", false)
def tyX9 : Nat → FieldType := fun k => match k with
  | 0 => .array .int
  | 1 => .array .int
  | 2 => .array .int
  | 3 => .int
  | 4 => .boolean
  | 5 => .int
  | 6 => .array .int
  | 7 => .int
  | 8 => .array .int
  | 9 => .array .int
  | 10 => .array .int
  | 11 => .array .int
  | 12 => .int
  | _ => .int
abbrev wsX90 : List Cond := u_ws RX9 TX9 14
theorem nmX9 : ∀ a, a < 14 → ∀ b, b < 14 → a ≠ b → (TX9 a).2.1 ≠ (TX9 b).2.1 := by decide +kernel
theorem tyX9_ok : ∀ k, k < 14 → parseFieldDescriptor (TX9 k).2.2.1 = some (tyX9 k) := by decide +kernel
abbrev cX9_init : ByteArray := prog_11_method_1_code
def yX9_init : MethodName := ⟨RX9, "<init>", "()V"⟩
def RX10 : String := "DeskMoves"
def TX10 : u_T := fun k => match k with
  | 0 => ("DeskMoves", "tape", "LDeskMoves$Tape;", true)
  | 1 => ("DeskMoves", "lawReader", "LDeskMoves$LawReader;", true)
  | 2 => ("DeskMoves", "laws", "[LDeskMoves$Law;", true)
  | 3 => ("DeskMoves", "lawCount", "I", false)
  | 4 => ("DeskMoves", "holding", "I", false)
  | 5 => ("DeskMoves", "office", "LDeskMoves$Office;", false)
  | 6 => ("DeskMoves", "spareOffice", "LDeskMoves$Office;", false)
  | 7 => ("DeskMoves", "plan", "LDeskMoves$Plan;", false)
  | 8 => ("DeskMoves", "sparePlan", "LDeskMoves$Plan;", false)
  | 9 => ("DeskMoves", "book", "LDeskMoves$Diary;", true)
  | 10 => ("DeskMoves", "turns", "LDeskMoves$Turns;", true)
  | 11 => ("DeskMoves", "wealth", "LDeskMoves$Wealth;", true)
  | 12 => ("DeskMoves", "ways", "LDeskMoves$Ways;", false)
  | 13 => ("DeskMoves", "costs", "LDeskMoves$Costs;", false)
  | 14 => ("DeskMoves", "explored", "Z", false)
  | 15 => ("DeskMoves", "exploredLaw", "I", false)
  | _ => ("DeskMoves", "least", "[I", true)
def tyX10 : Nat → FieldType := fun k => match k with
  | 0 => .object "DeskMoves$Tape"
  | 1 => .object "DeskMoves$LawReader"
  | 2 => .array (.object "DeskMoves$Law")
  | 3 => .int
  | 4 => .int
  | 5 => .object "DeskMoves$Office"
  | 6 => .object "DeskMoves$Office"
  | 7 => .object "DeskMoves$Plan"
  | 8 => .object "DeskMoves$Plan"
  | 9 => .object "DeskMoves$Diary"
  | 10 => .object "DeskMoves$Turns"
  | 11 => .object "DeskMoves$Wealth"
  | 12 => .object "DeskMoves$Ways"
  | 13 => .object "DeskMoves$Costs"
  | 14 => .boolean
  | 15 => .int
  | _ => .array .int
abbrev wsX100 : List Cond := u_ws RX10 TX10 17
theorem nmX10 : ∀ a, a < 17 → ∀ b, b < 17 → a ≠ b → (TX10 a).2.1 ≠ (TX10 b).2.1 := by decide +kernel
theorem tyX10_ok : ∀ k, k < 17 → parseFieldDescriptor (TX10 k).2.2.1 = some (tyX10 k) := by decide +kernel
abbrev cX10_init : ByteArray := prog_1_method_1_code
def yX10_init : MethodName := ⟨RX10, "<init>", "()V"⟩
abbrev cX10_feed : ByteArray := prog_1_method_2_code
def yX10_feed : MethodName := ⟨RX10, "feed", "(IIIII)I"⟩
abbrev cX10_end : ByteArray := prog_1_method_3_code
def yX10_end : MethodName := ⟨RX10, "end", "(I)Z"⟩
abbrev cX10_fault : ByteArray := prog_1_method_4_code
def yX10_fault : MethodName := ⟨RX10, "fault", "(I)I"⟩
abbrev cX10_text : ByteArray := prog_1_method_5_code
def yX10_text : MethodName := ⟨RX10, "text", "(I)I"⟩
abbrev cX10_desk : ByteArray := prog_1_method_6_code
def yX10_desk : MethodName := ⟨RX10, "desk", "(I)I"⟩
abbrev cX10_door : ByteArray := prog_1_method_7_code
def yX10_door : MethodName := ⟨RX10, "door", "(II)I"⟩
abbrev cX10_quarrel : ByteArray := prog_1_method_8_code
def yX10_quarrel : MethodName := ⟨RX10, "quarrel", "(II)I"⟩
abbrev cX10_set : ByteArray := prog_1_method_9_code
def yX10_set : MethodName := ⟨RX10, "set", "(III)Z"⟩
abbrev cX10_clerk : ByteArray := prog_1_method_10_code
def yX10_clerk : MethodName := ⟨RX10, "clerk", "(II)I"⟩
abbrev cX10_law : ByteArray := prog_1_method_11_code
def yX10_law : MethodName := ⟨RX10, "law", "(I)Z"⟩
abbrev cX10_let : ByteArray := prog_1_method_12_code
def yX10_let : MethodName := ⟨RX10, "let", "(II)I"⟩
abbrev cX10_move : ByteArray := prog_1_method_13_code
def yX10_move : MethodName := ⟨RX10, "move", "(II)I"⟩
abbrev cX10_undo : ByteArray := prog_1_method_14_code
def yX10_undo : MethodName := ⟨RX10, "undo", "()I"⟩
abbrev cX10_diary : ByteArray := prog_1_method_15_code
def yX10_diary : MethodName := ⟨RX10, "diary", "(I)I"⟩
abbrev cX10_judge : ByteArray := prog_1_method_16_code
def yX10_judge : MethodName := ⟨RX10, "judge", "(II)I"⟩
abbrev cX10_wish : ByteArray := prog_1_method_17_code
def yX10_wish : MethodName := ⟨RX10, "wish", "(II)Z"⟩
abbrev cX10_done : ByteArray := prog_1_method_18_code
def yX10_done : MethodName := ⟨RX10, "done", "()I"⟩
abbrev cX10_fewest : ByteArray := prog_1_method_19_code
def yX10_fewest : MethodName := ⟨RX10, "fewest", "(I)I"⟩
abbrev cX10_cheapest : ByteArray := prog_1_method_20_code
def yX10_cheapest : MethodName := ⟨RX10, "cheapest", "()I"⟩
abbrev cX10_all : ByteArray := prog_1_method_21_code
def yX10_all : MethodName := ⟨RX10, "all", "(I)I"⟩
abbrev cX10_count : ByteArray := prog_1_method_22_code
def yX10_count : MethodName := ⟨RX10, "count", "(I)I"⟩
abbrev cX10_ill : ByteArray := prog_1_method_23_code
def yX10_ill : MethodName := ⟨RX10, "ill", "(I)I"⟩
abbrev cX10_holds : ByteArray := prog_1_method_24_code
def yX10_holds : MethodName := ⟨RX10, "holds", "()I"⟩
abbrev cX10_sort : ByteArray := prog_1_method_25_code
def yX10_sort : MethodName := ⟨RX10, "sort", "()I"⟩
abbrev cX10_can : ByteArray := prog_1_method_26_code
def yX10_can : MethodName := ⟨RX10, "can", "()I"⟩
abbrev cX10_worth : ByteArray := prog_1_method_27_code
def yX10_worth : MethodName := ⟨RX10, "worth", "(III)Z"⟩
abbrev cX10_seated : ByteArray := prog_1_method_28_code
def yX10_seated : MethodName := ⟨RX10, "seated", "(I)I"⟩
abbrev cX10_best : ByteArray := prog_1_method_29_code
def yX10_best : MethodName := ⟨RX10, "best", "(I)I"⟩
abbrev cX10_gains : ByteArray := prog_1_method_30_code
def yX10_gains : MethodName := ⟨RX10, "gains", "(II)I"⟩
abbrev cX10_exchange : ByteArray := prog_1_method_31_code
def yX10_exchange : MethodName := ⟨RX10, "exchange", "(I)I"⟩
abbrev cX10_agree : ByteArray := prog_1_method_32_code
def yX10_agree : MethodName := ⟨RX10, "agree", "(I)I"⟩
abbrev cX10_vote : ByteArray := prog_1_method_33_code
def yX10_vote : MethodName := ⟨RX10, "vote", "(II)I"⟩
abbrev cX10_image : ByteArray := prog_1_method_34_code
def yX10_image : MethodName := ⟨RX10, "image", "()I"⟩
abbrev cX10_back : ByteArray := prog_1_method_35_code
def yX10_back : MethodName := ⟨RX10, "back", "()I"⟩
abbrev cX10_told : ByteArray := prog_1_method_36_code
def yX10_told : MethodName := ⟨RX10, "told", "(I)I"⟩
abbrev cX10_takeOffice : ByteArray := prog_1_method_37_code
def yX10_takeOffice : MethodName := ⟨RX10, "takeOffice", "()I"⟩
abbrev cX10_takeLaw : ByteArray := prog_1_method_38_code
def yX10_takeLaw : MethodName := ⟨RX10, "takeLaw", "()I"⟩
abbrev cX10_takePlan : ByteArray := prog_1_method_39_code
def yX10_takePlan : MethodName := ⟨RX10, "takePlan", "()I"⟩
abbrev cX10_lawOf : ByteArray := prog_1_method_40_code
def yX10_lawOf : MethodName := ⟨RX10, "lawOf", "(I)LDeskMoves$Law;"⟩
abbrev cX10_isSearched : ByteArray := prog_1_method_41_code
def yX10_isSearched : MethodName := ⟨RX10, "isSearched", "()Z"⟩
def RX11 : String := "DeskMovesModel"
def TX11 : u_T := fun k => match k with
  | 0 => ("DeskMovesModel", "thrown", "I", false)
  | 1 => ("DeskMovesModel", "tape", "[I", true)
  | 2 => ("DeskMovesModel", "size", "I", false)
  | 3 => ("DeskMovesModel", "at", "I", false)
  | 4 => ("DeskMovesModel", "wrong", "I", false)
  | 5 => ("DeskMovesModel", "deep", "I", false)
  | 6 => ("DeskMovesModel", "code", "[I", true)
  | 7 => ("DeskMovesModel", "value", "[I", true)
  | 8 => ("DeskMovesModel", "codes", "[I", true)
  | 9 => ("DeskMovesModel", "clauses", "[I", true)
  | 10 => ("DeskMovesModel", "testFrom", "[I", true)
  | 11 => ("DeskMovesModel", "sumFrom", "[I", true)
  | 12 => ("DeskMovesModel", "sumTo", "[I", true)
  | 13 => ("DeskMovesModel", "laws", "I", false)
  | 14 => ("DeskMovesModel", "text", "I", false)
  | 15 => ("DeskMovesModel", "letters", "[I", true)
  | 16 => ("DeskMovesModel", "stack", "[I", true)
  | 17 => ("DeskMovesModel", "readSeat", "[I", true)
  | 18 => ("DeskMovesModel", "readDoor", "[I", true)
  | 19 => ("DeskMovesModel", "readQuarrel", "[I", true)
  | 20 => ("DeskMovesModel", "readDesks", "I", false)
  | 21 => ("DeskMovesModel", "readClerks", "I", false)
  | 22 => ("DeskMovesModel", "seat", "[I", true)
  | 23 => ("DeskMovesModel", "doors", "[I", true)
  | 24 => ("DeskMovesModel", "quarrels", "[I", true)
  | 25 => ("DeskMovesModel", "desks", "I", false)
  | 26 => ("DeskMovesModel", "clerks", "I", false)
  | 27 => ("DeskMovesModel", "readMove", "[I", true)
  | 28 => ("DeskMovesModel", "readMoves", "I", false)
  | 29 => ("DeskMovesModel", "plan", "[I", true)
  | 30 => ("DeskMovesModel", "planMoves", "I", false)
  | 31 => ("DeskMovesModel", "ranks", "[I", true)
  | 32 => ("DeskMovesModel", "papers", "[I", true)
  | 33 => ("DeskMovesModel", "holding", "I", false)
  | 34 => ("DeskMovesModel", "diaryMove", "[I", true)
  | 35 => ("DeskMovesModel", "diaryWas", "[I", true)
  | 36 => ("DeskMovesModel", "diaryFrom", "I", false)
  | 37 => ("DeskMovesModel", "diaryMany", "I", false)
  | 38 => ("DeskMovesModel", "row", "[I", true)
  | 39 => ("DeskMovesModel", "wished", "[I", true)
  | 40 => ("DeskMovesModel", "keys", "[I", true)
  | 41 => ("DeskMovesModel", "marks", "[I", true)
  | 42 => ("DeskMovesModel", "list", "[I", true)
  | 43 => ("DeskMovesModel", "far", "[I", true)
  | 44 => ("DeskMovesModel", "left", "[I", true)
  | 45 => ("DeskMovesModel", "firstEdge", "[I", true)
  | 46 => ("DeskMovesModel", "edgeTo", "[I", true)
  | 47 => ("DeskMovesModel", "edgeMove", "[I", true)
  | 48 => ("DeskMovesModel", "listMany", "I", false)
  | 49 => ("DeskMovesModel", "edges", "I", false)
  | 50 => ("DeskMovesModel", "now", "[I", true)
  | 51 => ("DeskMovesModel", "colour", "[I", true)
  | 52 => ("DeskMovesModel", "ring", "[I", true)
  | 53 => ("DeskMovesModel", "worths", "[I", true)
  | 54 => ("DeskMovesModel", "onward", "[I", true)
  | 55 => ("DeskMovesModel", "liar", "I", false)
  | 56 => ("DeskMovesModel", "lie", "I", false)
  | 57 => ("DeskMovesModel", "bestDesk", "[I", true)
  | 58 => ("DeskMovesModel", "gets", "[I", true)
  | 59 => ("DeskMovesModel", "points", "[I", true)
  | 60 => ("DeskMovesModel", "image", "[I", true)
  | 61 => ("DeskMovesModel", "imageMove", "[I", true)
  | 62 => ("DeskMovesModel", "imageWas", "[I", true)
  | 63 => ("DeskMovesModel", "imageFrom", "I", false)
  | 64 => ("DeskMovesModel", "imageMany", "I", false)
  | _ => ("DeskMovesModel", "hasImage", "Z", false)
def tyX11 : Nat → FieldType := fun k => match k with
  | 0 => .int
  | 1 => .array .int
  | 2 => .int
  | 3 => .int
  | 4 => .int
  | 5 => .int
  | 6 => .array .int
  | 7 => .array .int
  | 8 => .array .int
  | 9 => .array .int
  | 10 => .array .int
  | 11 => .array .int
  | 12 => .array .int
  | 13 => .int
  | 14 => .int
  | 15 => .array .int
  | 16 => .array .int
  | 17 => .array .int
  | 18 => .array .int
  | 19 => .array .int
  | 20 => .int
  | 21 => .int
  | 22 => .array .int
  | 23 => .array .int
  | 24 => .array .int
  | 25 => .int
  | 26 => .int
  | 27 => .array .int
  | 28 => .int
  | 29 => .array .int
  | 30 => .int
  | 31 => .array .int
  | 32 => .array .int
  | 33 => .int
  | 34 => .array .int
  | 35 => .array .int
  | 36 => .int
  | 37 => .int
  | 38 => .array .int
  | 39 => .array .int
  | 40 => .array .int
  | 41 => .array .int
  | 42 => .array .int
  | 43 => .array .int
  | 44 => .array .int
  | 45 => .array .int
  | 46 => .array .int
  | 47 => .array .int
  | 48 => .int
  | 49 => .int
  | 50 => .array .int
  | 51 => .array .int
  | 52 => .array .int
  | 53 => .array .int
  | 54 => .array .int
  | 55 => .int
  | 56 => .int
  | 57 => .array .int
  | 58 => .array .int
  | 59 => .array .int
  | 60 => .array .int
  | 61 => .array .int
  | 62 => .array .int
  | 63 => .int
  | 64 => .int
  | _ => .boolean
abbrev wsX110 : List Cond := u_ws RX11 TX11 66
theorem nmX11 : ∀ a, a < 66 → ∀ b, b < 66 → a ≠ b → (TX11 a).2.1 ≠ (TX11 b).2.1 := by decide +kernel
theorem tyX11_ok : ∀ k, k < 66 → parseFieldDescriptor (TX11 k).2.2.1 = some (tyX11 k) := by decide +kernel
abbrev cX11_in : ByteArray := prog_13_method_1_code
def yX11_in : MethodName := ⟨RX11, "in", "(III)Z"⟩
abbrev cX11_init : ByteArray := prog_13_method_3_code
def yX11_init : MethodName := ⟨RX11, "<init>", "()V"⟩
abbrev cX11_thrown : ByteArray := prog_13_method_4_code
def yX11_thrown : MethodName := ⟨RX11, "thrown", "()I"⟩
abbrev cX11_byteOf : ByteArray := prog_13_method_5_code
def yX11_byteOf : MethodName := ⟨RX11, "byteOf", "(IIIIII)I"⟩
abbrev cX11_feed : ByteArray := prog_13_method_6_code
def yX11_feed : MethodName := ⟨RX11, "feed", "(IIIII)I"⟩
abbrev cX11_end : ByteArray := prog_13_method_7_code
def yX11_end : MethodName := ⟨RX11, "end", "(I)Z"⟩
abbrev cX11_here : ByteArray := prog_13_method_8_code
def yX11_here : MethodName := ⟨RX11, "here", "()I"⟩
abbrev cX11_look : ByteArray := prog_13_method_9_code
def yX11_look : MethodName := ⟨RX11, "look", "()I"⟩
abbrev cX11_bad : ByteArray := prog_13_method_10_code
def yX11_bad : MethodName := ⟨RX11, "bad", "()V"⟩
abbrev cX11_clause : ByteArray := prog_13_method_26_code
def yX11_clause : MethodName := ⟨RX11, "clause", "()V"⟩
abbrev cX11_open : ByteArray := prog_13_method_27_code
def yX11_open : MethodName := ⟨RX11, "open", "(I)V"⟩
abbrev cX11_atEnd : ByteArray := prog_13_method_28_code
def yX11_atEnd : MethodName := ⟨RX11, "atEnd", "()I"⟩
abbrev cX11_readLaw : ByteArray := prog_13_method_29_code
def yX11_readLaw : MethodName := ⟨RX11, "readLaw", "(I)I"⟩
abbrev cX11_seats : ByteArray := prog_13_method_34_code
def yX11_seats : MethodName := ⟨RX11, "seats", "()V"⟩
abbrev cX11_readOffice : ByteArray := prog_13_method_37_code
def yX11_readOffice : MethodName := ⟨RX11, "readOffice", "()I"⟩
abbrev cX11_readPlan : ByteArray := prog_13_method_38_code
def yX11_readPlan : MethodName := ⟨RX11, "readPlan", "()I"⟩
abbrev cX11_fault : ByteArray := prog_13_method_39_code
def yX11_fault : MethodName := ⟨RX11, "fault", "(I)I"⟩
abbrev cX11_text : ByteArray := prog_13_method_41_code
def yX11_text : MethodName := ⟨RX11, "text", "(I)I"⟩
abbrev cX11_isDesk : ByteArray := prog_13_method_42_code
def yX11_isDesk : MethodName := ⟨RX11, "isDesk", "(I)Z"⟩
abbrev cX11_isClerk : ByteArray := prog_13_method_43_code
def yX11_isClerk : MethodName := ⟨RX11, "isClerk", "(I)Z"⟩
abbrev cX11_desk : ByteArray := prog_13_method_44_code
def yX11_desk : MethodName := ⟨RX11, "desk", "(I)I"⟩
abbrev cX11_door : ByteArray := prog_13_method_45_code
def yX11_door : MethodName := ⟨RX11, "door", "(II)I"⟩
abbrev cX11_quarrel : ByteArray := prog_13_method_46_code
def yX11_quarrel : MethodName := ⟨RX11, "quarrel", "(II)I"⟩
abbrev cX11_set : ByteArray := prog_13_method_47_code
def yX11_set : MethodName := ⟨RX11, "set", "(III)Z"⟩
abbrev cX11_clerk : ByteArray := prog_13_method_50_code
def yX11_clerk : MethodName := ⟨RX11, "clerk", "(II)I"⟩
abbrev cX11_law : ByteArray := prog_13_method_51_code
def yX11_law : MethodName := ⟨RX11, "law", "(I)Z"⟩
abbrev cX11_bars : ByteArray := prog_13_method_52_code
def yX11_bars : MethodName := ⟨RX11, "bars", "([III)I"⟩
abbrev cX11_let : ByteArray := prog_13_method_54_code
def yX11_let : MethodName := ⟨RX11, "let", "(II)I"⟩
abbrev cX11_move : ByteArray := prog_13_method_56_code
def yX11_move : MethodName := ⟨RX11, "move", "(II)I"⟩
abbrev cX11_undo : ByteArray := prog_13_method_57_code
def yX11_undo : MethodName := ⟨RX11, "undo", "()I"⟩
abbrev cX11_diary : ByteArray := prog_13_method_58_code
def yX11_diary : MethodName := ⟨RX11, "diary", "(I)I"⟩
abbrev cX11_judge : ByteArray := prog_13_method_61_code
def yX11_judge : MethodName := ⟨RX11, "judge", "(II)I"⟩
abbrev cX11_wish : ByteArray := prog_13_method_62_code
def yX11_wish : MethodName := ⟨RX11, "wish", "(II)Z"⟩
abbrev cX11_done : ByteArray := prog_13_method_64_code
def yX11_done : MethodName := ⟨RX11, "done", "()I"⟩
abbrev cX11_isSmall : ByteArray := prog_13_method_70_code
def yX11_isSmall : MethodName := ⟨RX11, "isSmall", "()Z"⟩
abbrev cX11_fewest : ByteArray := prog_13_method_75_code
def yX11_fewest : MethodName := ⟨RX11, "fewest", "(I)I"⟩
abbrev cX11_cheapest : ByteArray := prog_13_method_78_code
def yX11_cheapest : MethodName := ⟨RX11, "cheapest", "()I"⟩
abbrev cX11_all : ByteArray := prog_13_method_79_code
def yX11_all : MethodName := ⟨RX11, "all", "(I)I"⟩
abbrev cX11_count : ByteArray := prog_13_method_80_code
def yX11_count : MethodName := ⟨RX11, "count", "(I)I"⟩
abbrev cX11_ill : ByteArray := prog_13_method_81_code
def yX11_ill : MethodName := ⟨RX11, "ill", "(I)I"⟩
abbrev cX11_holds : ByteArray := prog_13_method_82_code
def yX11_holds : MethodName := ⟨RX11, "holds", "()I"⟩
abbrev cX11_sort : ByteArray := prog_13_method_89_code
def yX11_sort : MethodName := ⟨RX11, "sort", "()I"⟩
abbrev cX11_can : ByteArray := prog_13_method_95_code
def yX11_can : MethodName := ⟨RX11, "can", "()I"⟩
abbrev cX11_worth : ByteArray := prog_13_method_96_code
def yX11_worth : MethodName := ⟨RX11, "worth", "(III)Z"⟩
abbrev cX11_seated : ByteArray := prog_13_method_97_code
def yX11_seated : MethodName := ⟨RX11, "seated", "(I)I"⟩
abbrev cX11_best : ByteArray := prog_13_method_104_code
def yX11_best : MethodName := ⟨RX11, "best", "(I)I"⟩
abbrev cX11_gains : ByteArray := prog_13_method_105_code
def yX11_gains : MethodName := ⟨RX11, "gains", "(II)I"⟩
abbrev cX11_exchange : ByteArray := prog_13_method_109_code
def yX11_exchange : MethodName := ⟨RX11, "exchange", "(I)I"⟩
abbrev cX11_agree : ByteArray := prog_13_method_111_code
def yX11_agree : MethodName := ⟨RX11, "agree", "(I)I"⟩
abbrev cX11_vote : ByteArray := prog_13_method_112_code
def yX11_vote : MethodName := ⟨RX11, "vote", "(II)I"⟩
abbrev cX11_image : ByteArray := prog_13_method_113_code
def yX11_image : MethodName := ⟨RX11, "image", "()I"⟩
abbrev cX11_back : ByteArray := prog_13_method_114_code
def yX11_back : MethodName := ⟨RX11, "back", "()I"⟩
abbrev cX11_told : ByteArray := prog_13_method_115_code
def yX11_told : MethodName := ⟨RX11, "told", "(I)I"⟩
def RJ6 : String := "java/lang/Integer"
def RJ9 : String := "java/lang/Math"
def RJ0 : String := "java/lang/String"
def RJ1 : String := "java/lang/StringLatin1"
def RJ2 : String := "java/lang/StringUTF16"
def RJ10 : String := "java/lang/System"
def RJ7 : String := "java/util/Arrays"
abbrev cJ7_fill_53178 : ByteArray := prog_29_method_103_code
def yJ7_fill_53178 : MethodName := ⟨RJ7, "fill", "([II)V"⟩
def RJ3 : String := "jdk/internal/util/Preconditions"
def RL : String := "DeskMovesLaw"
abbrev cL_desk : ByteArray := method_3_code
def yL_desk : MethodName := ⟨RL, "desk", "(LDeskMoves;I[J)I"⟩
abbrev cL_law : ByteArray := code
def yL_law : MethodName := ⟨RL, "law", "([I)Z"⟩
theorem dX1_init_0 : decode cX1_init 0 = .ok (.aload_n 0, 1) := by decide +kernel
theorem dX1_init_1 : decode cX1_init 1 = .ok (.invokespecial 3, 3) := by decide +kernel
theorem dX1_init_4 : decode cX1_init 4 = .ok (.aload_n 0, 1) := by decide +kernel
theorem dX1_init_5 : decode cX1_init 5 = .ok (.bipush 100, 2) := by decide +kernel
theorem dX1_init_7 : decode cX1_init 7 = .ok (.newarray .int, 2) := by decide +kernel
theorem dX1_init_9 : decode cX1_init 9 = .ok (.putfield 11, 3) := by decide +kernel
theorem dX1_init_12 : decode cX1_init 12 = .ok (.aload_n 0, 1) := by decide +kernel
theorem dX1_init_13 : decode cX1_init 13 = .ok (.bipush 100, 2) := by decide +kernel
theorem dX1_init_15 : decode cX1_init 15 = .ok (.newarray .int, 2) := by decide +kernel
theorem dX1_init_17 : decode cX1_init 17 = .ok (.putfield 15, 3) := by decide +kernel
theorem dX1_init_20 : decode cX1_init 20 = .ok (.aload_n 0, 1) := by decide +kernel
theorem dX1_init_21 : decode cX1_init 21 = .ok (.bipush 12, 2) := by decide +kernel
theorem dX1_init_23 : decode cX1_init 23 = .ok (.newarray .int, 2) := by decide +kernel
theorem dX1_init_25 : decode cX1_init 25 = .ok (.putfield 18, 3) := by decide +kernel
theorem dX1_init_28 : decode cX1_init 28 = .ok (.return_, 1) := by decide +kernel
theorem dX1_moveAt_0 : decode cX1_moveAt 0 = .ok (.iload_n 1, 1) := by decide +kernel
theorem dX1_moveAt_1 : decode cX1_moveAt 1 = .ok (.ifCond .lt 24, 3) := by decide +kernel
theorem dX1_moveAt_4 : decode cX1_moveAt 4 = .ok (.iload_n 1, 1) := by decide +kernel
theorem dX1_moveAt_5 : decode cX1_moveAt 5 = .ok (.aload_n 0, 1) := by decide +kernel
theorem dX1_moveAt_6 : decode cX1_moveAt 6 = .ok (.getfield 21, 3) := by decide +kernel
theorem dX1_moveAt_9 : decode cX1_moveAt 9 = .ok (.if_icmp .ge 16, 3) := by decide +kernel
theorem dX1_moveAt_25 : decode cX1_moveAt 25 = .ok (.iconst (-1), 1) := by decide +kernel
theorem dX1_moveAt_26 : decode cX1_moveAt 26 = .ok (.ireturn, 1) := by decide +kernel
theorem dX3_init_0 : decode cX3_init 0 = .ok (.aload_n 0, 1) := by decide +kernel
theorem dX3_init_1 : decode cX3_init 1 = .ok (.invokespecial 1, 3) := by decide +kernel
theorem dX3_init_4 : decode cX3_init 4 = .ok (.aload_n 0, 1) := by decide +kernel
theorem dX3_init_5 : decode cX3_init 5 = .ok (.sipush 161, 3) := by decide +kernel
theorem dX3_init_8 : decode cX3_init 8 = .ok (.newarray .int, 2) := by decide +kernel
theorem dX3_init_10 : decode cX3_init 10 = .ok (.putfield 9, 3) := by decide +kernel
theorem dX3_init_13 : decode cX3_init 13 = .ok (.aload_n 0, 1) := by decide +kernel
theorem dX3_init_14 : decode cX3_init 14 = .ok (.aload_n 1, 1) := by decide +kernel
theorem dX3_init_15 : decode cX3_init 15 = .ok (.putfield 15, 3) := by decide +kernel
theorem dX3_init_18 : decode cX3_init 18 = .ok (.return_, 1) := by decide +kernel
theorem dX3_isRead_0 : decode cX3_isRead 0 = .ok (.aload_n 0, 1) := by decide +kernel
theorem dX3_isRead_1 : decode cX3_isRead 1 = .ok (.getfield 15, 3) := by decide +kernel
theorem dX3_isRead_4 : decode cX3_isRead 4 = .ok (.iconst 0, 1) := by decide +kernel
theorem dX3_isRead_5 : decode cX3_isRead 5 = .ok (.putfield 19, 3) := by decide +kernel
theorem dX3_isRead_8 : decode cX3_isRead 8 = .ok (.aload_n 0, 1) := by decide +kernel
theorem dX3_isRead_9 : decode cX3_isRead 9 = .ok (.iconst 0, 1) := by decide +kernel
theorem dX3_isRead_10 : decode cX3_isRead 10 = .ok (.putfield 23, 3) := by decide +kernel
theorem dX3_isRead_13 : decode cX3_isRead 13 = .ok (.aload_n 0, 1) := by decide +kernel
theorem dX3_isRead_14 : decode cX3_isRead 14 = .ok (.iconst 0, 1) := by decide +kernel
theorem dX3_isRead_15 : decode cX3_isRead 15 = .ok (.putfield 26, 3) := by decide +kernel
theorem dX3_isRead_18 : decode cX3_isRead 18 = .ok (.iconst 0, 1) := by decide +kernel
theorem dX3_isRead_19 : decode cX3_isRead 19 = .ok (.istore_n 1, 1) := by decide +kernel
theorem dX3_isRead_20 : decode cX3_isRead 20 = .ok (.iload_n 1, 1) := by decide +kernel
theorem dX3_isRead_21 : decode cX3_isRead 21 = .ok (.sipush 160, 3) := by decide +kernel
theorem dX3_isRead_24 : decode cX3_isRead 24 = .ok (.if_icmp .gt 45, 3) := by decide +kernel
theorem dX3_isRead_27 : decode cX3_isRead 27 = .ok (.aload_n 0, 1) := by decide +kernel
theorem dX3_isRead_28 : decode cX3_isRead 28 = .ok (.invokevirtual 30, 3) := by decide +kernel
theorem dX3_isRead_31 : decode cX3_isRead 31 = .ok (.ifCond .ne 5, 3) := by decide +kernel
theorem dX3_isRead_34 : decode cX3_isRead 34 = .ok (.iconst 0, 1) := by decide +kernel
theorem dX3_isRead_35 : decode cX3_isRead 35 = .ok (.ireturn, 1) := by decide +kernel
theorem dX3_readClause_0 : decode cX3_readClause 0 = .ok (.aload_n 0, 1) := by decide +kernel
theorem dX3_readClause_1 : decode cX3_readClause 1 = .ok (.getfield 15, 3) := by decide +kernel
theorem dX3_readClause_4 : decode cX3_readClause 4 = .ok (.bipush 121, 2) := by decide +kernel
theorem dX3_readClause_6 : decode cX3_readClause 6 = .ok (.invokevirtual 38, 3) := by decide +kernel
theorem dX3_readClause_9 : decode cX3_readClause 9 = .ok (.ifCond .eq 15, 3) := by decide +kernel
theorem dX3_readClause_24 : decode cX3_readClause 24 = .ok (.iconst 0, 1) := by decide +kernel
theorem dX3_readClause_25 : decode cX3_readClause 25 = .ok (.ireturn, 1) := by decide +kernel
theorem dX4_init_0 : decode cX4_init 0 = .ok (.aload_n 0, 1) := by decide +kernel
theorem dX4_init_1 : decode cX4_init 1 = .ok (.invokespecial 3, 3) := by decide +kernel
theorem dX4_init_4 : decode cX4_init 4 = .ok (.aload_n 0, 1) := by decide +kernel
theorem dX4_init_5 : decode cX4_init 5 = .ok (.bipush 12, 2) := by decide +kernel
theorem dX4_init_7 : decode cX4_init 7 = .ok (.newarray .int, 2) := by decide +kernel
theorem dX4_init_9 : decode cX4_init 9 = .ok (.putfield 9, 3) := by decide +kernel
theorem dX4_init_12 : decode cX4_init 12 = .ok (.aload_n 0, 1) := by decide +kernel
theorem dX4_init_13 : decode cX4_init 13 = .ok (.bipush 12, 2) := by decide +kernel
theorem dX4_init_15 : decode cX4_init 15 = .ok (.newarray .int, 2) := by decide +kernel
theorem dX4_init_17 : decode cX4_init 17 = .ok (.putfield 15, 3) := by decide +kernel
theorem dX4_init_20 : decode cX4_init 20 = .ok (.aload_n 0, 1) := by decide +kernel
theorem dX4_init_21 : decode cX4_init 21 = .ok (.sipush 144, 3) := by decide +kernel
theorem dX4_init_24 : decode cX4_init 24 = .ok (.newarray .int, 2) := by decide +kernel
theorem dX4_init_26 : decode cX4_init 26 = .ok (.putfield 18, 3) := by decide +kernel
theorem dX4_init_29 : decode cX4_init 29 = .ok (.aload_n 0, 1) := by decide +kernel
theorem dX4_init_30 : decode cX4_init 30 = .ok (.bipush 12, 2) := by decide +kernel
theorem dX4_init_32 : decode cX4_init 32 = .ok (.newarray .int, 2) := by decide +kernel
theorem dX4_init_34 : decode cX4_init 34 = .ok (.putfield 21, 3) := by decide +kernel
theorem dX4_init_37 : decode cX4_init 37 = .ok (.aload_n 0, 1) := by decide +kernel
theorem dX4_init_38 : decode cX4_init 38 = .ok (.bipush 12, 2) := by decide +kernel
theorem dX4_init_40 : decode cX4_init 40 = .ok (.newarray .int, 2) := by decide +kernel
theorem dX4_init_42 : decode cX4_init 42 = .ok (.putfield 24, 3) := by decide +kernel
theorem dX4_init_45 : decode cX4_init 45 = .ok (.aload_n 0, 1) := by decide +kernel
theorem dX4_init_46 : decode cX4_init 46 = .ok (.bipush 12, 2) := by decide +kernel
theorem dX4_init_48 : decode cX4_init 48 = .ok (.newarray .int, 2) := by decide +kernel
theorem dX4_init_50 : decode cX4_init 50 = .ok (.putfield 27, 3) := by decide +kernel
theorem dX4_init_53 : decode cX4_init 53 = .ok (.aload_n 0, 1) := by decide +kernel
theorem dX4_init_54 : decode cX4_init 54 = .ok (.bipush 12, 2) := by decide +kernel
theorem dX4_init_56 : decode cX4_init 56 = .ok (.newarray .int, 2) := by decide +kernel
theorem dX4_init_58 : decode cX4_init 58 = .ok (.putfield 30, 3) := by decide +kernel
theorem dX4_init_61 : decode cX4_init 61 = .ok (.aload_n 0, 1) := by decide +kernel
theorem dX4_init_62 : decode cX4_init 62 = .ok (.bipush 12, 2) := by decide +kernel
theorem dX4_init_64 : decode cX4_init 64 = .ok (.newarray .int, 2) := by decide +kernel
theorem dX4_init_66 : decode cX4_init 66 = .ok (.putfield 33, 3) := by decide +kernel
theorem dX4_init_69 : decode cX4_init 69 = .ok (.aload_n 0, 1) := by decide +kernel
theorem dX4_init_70 : decode cX4_init 70 = .ok (.sipush 144, 3) := by decide +kernel
theorem dX4_init_73 : decode cX4_init 73 = .ok (.newarray .int, 2) := by decide +kernel
theorem dX4_init_75 : decode cX4_init 75 = .ok (.putfield 36, 3) := by decide +kernel
theorem dX4_init_78 : decode cX4_init 78 = .ok (.return_, 1) := by decide +kernel
theorem dX4_clear_0 : decode cX4_clear 0 = .ok (.aload_n 0, 1) := by decide +kernel
theorem dX4_clear_1 : decode cX4_clear 1 = .ok (.iconst 0, 1) := by decide +kernel
theorem dX4_clear_2 : decode cX4_clear 2 = .ok (.putfield 39, 3) := by decide +kernel
theorem dX4_clear_5 : decode cX4_clear 5 = .ok (.aload_n 0, 1) := by decide +kernel
theorem dX4_clear_6 : decode cX4_clear 6 = .ok (.iconst 0, 1) := by decide +kernel
theorem dX4_clear_7 : decode cX4_clear 7 = .ok (.putfield 43, 3) := by decide +kernel
theorem dX4_clear_10 : decode cX4_clear 10 = .ok (.aload_n 0, 1) := by decide +kernel
theorem dX4_clear_11 : decode cX4_clear 11 = .ok (.getfield 9, 3) := by decide +kernel
theorem dX4_clear_14 : decode cX4_clear 14 = .ok (.iconst (-1), 1) := by decide +kernel
theorem dX4_clear_15 : decode cX4_clear 15 = .ok (.invokestatic 46, 3) := by decide +kernel
theorem dX4_clear_18 : decode cX4_clear 18 = .ok (.aload_n 0, 1) := by decide +kernel
theorem dX4_clear_19 : decode cX4_clear 19 = .ok (.getfield 15, 3) := by decide +kernel
theorem dX4_clear_22 : decode cX4_clear 22 = .ok (.iconst (-1), 1) := by decide +kernel
theorem dX4_clear_23 : decode cX4_clear 23 = .ok (.invokestatic 46, 3) := by decide +kernel
theorem dX4_clear_26 : decode cX4_clear 26 = .ok (.aload_n 0, 1) := by decide +kernel
theorem dX4_clear_27 : decode cX4_clear 27 = .ok (.getfield 18, 3) := by decide +kernel
theorem dX4_clear_30 : decode cX4_clear 30 = .ok (.iconst 0, 1) := by decide +kernel
theorem dX4_clear_31 : decode cX4_clear 31 = .ok (.invokestatic 46, 3) := by decide +kernel
theorem dX4_clear_34 : decode cX4_clear 34 = .ok (.aload_n 0, 1) := by decide +kernel
theorem dX4_clear_35 : decode cX4_clear 35 = .ok (.getfield 21, 3) := by decide +kernel
theorem dX4_clear_38 : decode cX4_clear 38 = .ok (.iconst 0, 1) := by decide +kernel
theorem dX4_clear_39 : decode cX4_clear 39 = .ok (.invokestatic 46, 3) := by decide +kernel
theorem dX4_clear_42 : decode cX4_clear 42 = .ok (.aload_n 0, 1) := by decide +kernel
theorem dX4_clear_43 : decode cX4_clear 43 = .ok (.getfield 24, 3) := by decide +kernel
theorem dX4_clear_46 : decode cX4_clear 46 = .ok (.iconst 0, 1) := by decide +kernel
theorem dX4_clear_47 : decode cX4_clear 47 = .ok (.invokestatic 46, 3) := by decide +kernel
theorem dX4_clear_50 : decode cX4_clear 50 = .ok (.aload_n 0, 1) := by decide +kernel
theorem dX4_clear_51 : decode cX4_clear 51 = .ok (.getfield 27, 3) := by decide +kernel
theorem dX4_clear_54 : decode cX4_clear 54 = .ok (.iconst 0, 1) := by decide +kernel
theorem dX4_clear_55 : decode cX4_clear 55 = .ok (.invokestatic 46, 3) := by decide +kernel
theorem dX4_clear_58 : decode cX4_clear 58 = .ok (.aload_n 0, 1) := by decide +kernel
theorem dX4_clear_59 : decode cX4_clear 59 = .ok (.getfield 30, 3) := by decide +kernel
theorem dX4_clear_62 : decode cX4_clear 62 = .ok (.iconst 1, 1) := by decide +kernel
theorem dX4_clear_63 : decode cX4_clear 63 = .ok (.invokestatic 46, 3) := by decide +kernel
theorem dX4_clear_66 : decode cX4_clear 66 = .ok (.aload_n 0, 1) := by decide +kernel
theorem dX4_clear_67 : decode cX4_clear 67 = .ok (.getfield 33, 3) := by decide +kernel
theorem dX4_clear_70 : decode cX4_clear 70 = .ok (.iconst (-1), 1) := by decide +kernel
theorem dX4_clear_71 : decode cX4_clear 71 = .ok (.invokestatic 46, 3) := by decide +kernel
theorem dX4_clear_74 : decode cX4_clear 74 = .ok (.aload_n 0, 1) := by decide +kernel
theorem dX4_clear_75 : decode cX4_clear 75 = .ok (.getfield 36, 3) := by decide +kernel
theorem dX4_clear_78 : decode cX4_clear 78 = .ok (.iconst 0, 1) := by decide +kernel
theorem dX4_clear_79 : decode cX4_clear 79 = .ok (.invokestatic 46, 3) := by decide +kernel
theorem dX4_clear_82 : decode cX4_clear 82 = .ok (.return_, 1) := by decide +kernel
theorem dX4_isReadFrom_0 : decode cX4_isReadFrom 0 = .ok (.aload_n 0, 1) := by decide +kernel
theorem dX4_isReadFrom_1 : decode cX4_isReadFrom 1 = .ok (.invokevirtual 52, 3) := by decide +kernel
theorem dX4_isReadFrom_4 : decode cX4_isReadFrom 4 = .ok (.aload_n 1, 1) := by decide +kernel
theorem dX4_isReadFrom_5 : decode cX4_isReadFrom 5 = .ok (.iconst 0, 1) := by decide +kernel
theorem dX4_isReadFrom_6 : decode cX4_isReadFrom 6 = .ok (.putfield 55, 3) := by decide +kernel
theorem dX4_isReadFrom_9 : decode cX4_isReadFrom 9 = .ok (.aload_n 0, 1) := by decide +kernel
theorem dX4_isReadFrom_10 : decode cX4_isReadFrom 10 = .ok (.aload_n 1, 1) := by decide +kernel
theorem dX4_isReadFrom_11 : decode cX4_isReadFrom 11 = .ok (.invokevirtual 60, 3) := by decide +kernel
theorem dX4_isReadFrom_14 : decode cX4_isReadFrom 14 = .ok (.ifCond .eq 15, 3) := by decide +kernel
theorem dX4_isReadFrom_29 : decode cX4_isReadFrom 29 = .ok (.iconst 0, 1) := by decide +kernel
theorem dX4_isReadFrom_30 : decode cX4_isReadFrom 30 = .ok (.ireturn, 1) := by decide +kernel
theorem dX4_readSeats_0 : decode cX4_readSeats 0 = .ok (.iconst 0, 1) := by decide +kernel
theorem dX4_readSeats_1 : decode cX4_readSeats 1 = .ok (.istore_n 2, 1) := by decide +kernel
theorem dX4_readSeats_2 : decode cX4_readSeats 2 = .ok (.iload_n 2, 1) := by decide +kernel
theorem dX4_readSeats_3 : decode cX4_readSeats 3 = .ok (.bipush 12, 2) := by decide +kernel
theorem dX4_readSeats_5 : decode cX4_readSeats 5 = .ok (.if_icmp .gt 58, 3) := by decide +kernel
theorem dX4_readSeats_8 : decode cX4_readSeats 8 = .ok (.aload_n 1, 1) := by decide +kernel
theorem dX4_readSeats_9 : decode cX4_readSeats 9 = .ok (.invokevirtual 67, 3) := by decide +kernel
theorem dX4_readSeats_12 : decode cX4_readSeats 12 = .ok (.istore_n 3, 1) := by decide +kernel
theorem dX4_readSeats_13 : decode cX4_readSeats 13 = .ok (.iload_n 3, 1) := by decide +kernel
theorem dX4_readSeats_14 : decode cX4_readSeats 14 = .ok (.bipush 59, 2) := by decide +kernel
theorem dX4_readSeats_16 : decode cX4_readSeats 16 = .ok (.if_icmp .ne 25, 3) := by decide +kernel
theorem dX4_readSeats_41 : decode cX4_readSeats 41 = .ok (.aload_n 0, 1) := by decide +kernel
theorem dX4_readSeats_42 : decode cX4_readSeats 42 = .ok (.iload_n 3, 1) := by decide +kernel
theorem dX4_readSeats_43 : decode cX4_readSeats 43 = .ok (.invokevirtual 79, 3) := by decide +kernel
theorem dX4_readSeats_46 : decode cX4_readSeats 46 = .ok (.ifCond .ne 5, 3) := by decide +kernel
theorem dX4_readSeats_49 : decode cX4_readSeats 49 = .ok (.iconst 0, 1) := by decide +kernel
theorem dX4_readSeats_50 : decode cX4_readSeats 50 = .ok (.ireturn, 1) := by decide +kernel
theorem dX4_addDesk_0 : decode cX4_addDesk 0 = .ok (.iload_n 1, 1) := by decide +kernel
theorem dX4_addDesk_1 : decode cX4_addDesk 1 = .ok (.bipush 65, 2) := by decide +kernel
theorem dX4_addDesk_3 : decode cX4_addDesk 3 = .ok (.isub, 1) := by decide +kernel
theorem dX4_addDesk_4 : decode cX4_addDesk 4 = .ok (.istore_n 2, 1) := by decide +kernel
theorem dX4_addDesk_5 : decode cX4_addDesk 5 = .ok (.iload_n 1, 1) := by decide +kernel
theorem dX4_addDesk_6 : decode cX4_addDesk 6 = .ok (.bipush 46, 2) := by decide +kernel
theorem dX4_addDesk_8 : decode cX4_addDesk 8 = .ok (.if_icmp .ne 7, 3) := by decide +kernel
theorem dX4_addDesk_15 : decode cX4_addDesk 15 = .ok (.iconst 0, 1) := by decide +kernel
theorem dX4_addDesk_16 : decode cX4_addDesk 16 = .ok (.istore_n 3, 1) := by decide +kernel
theorem dX4_addDesk_17 : decode cX4_addDesk 17 = .ok (.aload_n 0, 1) := by decide +kernel
theorem dX4_addDesk_18 : decode cX4_addDesk 18 = .ok (.getfield 39, 3) := by decide +kernel
theorem dX4_addDesk_21 : decode cX4_addDesk 21 = .ok (.bipush 12, 2) := by decide +kernel
theorem dX4_addDesk_23 : decode cX4_addDesk 23 = .ok (.if_icmp .ge 25, 3) := by decide +kernel
theorem dX4_addDesk_26 : decode cX4_addDesk 26 = .ok (.iload_n 3, 1) := by decide +kernel
theorem dX4_addDesk_27 : decode cX4_addDesk 27 = .ok (.ifCond .ne 23, 3) := by decide +kernel
theorem dX4_addDesk_30 : decode cX4_addDesk 30 = .ok (.iload_n 2, 1) := by decide +kernel
theorem dX4_addDesk_31 : decode cX4_addDesk 31 = .ok (.ifCond .lt 17, 3) := by decide +kernel
theorem dX4_addDesk_48 : decode cX4_addDesk 48 = .ok (.iconst 0, 1) := by decide +kernel
theorem dX4_addDesk_49 : decode cX4_addDesk 49 = .ok (.ireturn, 1) := by decide +kernel
theorem dX4_hasDesk_0 : decode cX4_hasDesk 0 = .ok (.iload_n 1, 1) := by decide +kernel
theorem dX4_hasDesk_1 : decode cX4_hasDesk 1 = .ok (.ifCond .lt 21, 3) := by decide +kernel
theorem dX4_hasDesk_4 : decode cX4_hasDesk 4 = .ok (.iload_n 1, 1) := by decide +kernel
theorem dX4_hasDesk_5 : decode cX4_hasDesk 5 = .ok (.aload_n 0, 1) := by decide +kernel
theorem dX4_hasDesk_6 : decode cX4_hasDesk 6 = .ok (.getfield 39, 3) := by decide +kernel
theorem dX4_hasDesk_9 : decode cX4_hasDesk 9 = .ok (.if_icmp .ge 13, 3) := by decide +kernel
theorem dX4_hasDesk_22 : decode cX4_hasDesk 22 = .ok (.iconst 0, 1) := by decide +kernel
theorem dX4_hasDesk_23 : decode cX4_hasDesk 23 = .ok (.ireturn, 1) := by decide +kernel
theorem dX4_hasClerk_0 : decode cX4_hasClerk 0 = .ok (.iload_n 1, 1) := by decide +kernel
theorem dX4_hasClerk_1 : decode cX4_hasClerk 1 = .ok (.ifCond .lt 24, 3) := by decide +kernel
theorem dX4_hasClerk_4 : decode cX4_hasClerk 4 = .ok (.iload_n 1, 1) := by decide +kernel
theorem dX4_hasClerk_5 : decode cX4_hasClerk 5 = .ok (.bipush 12, 2) := by decide +kernel
theorem dX4_hasClerk_7 : decode cX4_hasClerk 7 = .ok (.if_icmp .ge 18, 3) := by decide +kernel
theorem dX4_hasClerk_10 : decode cX4_hasClerk 10 = .ok (.aload_n 0, 1) := by decide +kernel
theorem dX4_hasClerk_11 : decode cX4_hasClerk 11 = .ok (.getfield 43, 3) := by decide +kernel
theorem dX4_hasClerk_14 : decode cX4_hasClerk 14 = .ok (.iload_n 1, 1) := by decide +kernel
theorem dX4_hasClerk_15 : decode cX4_hasClerk 15 = .ok (.ishr, 1) := by decide +kernel
theorem dX4_hasClerk_16 : decode cX4_hasClerk 16 = .ok (.iconst 1, 1) := by decide +kernel
theorem dX4_hasClerk_17 : decode cX4_hasClerk 17 = .ok (.iand, 1) := by decide +kernel
theorem dX4_hasClerk_18 : decode cX4_hasClerk 18 = .ok (.ifCond .eq 7, 3) := by decide +kernel
theorem dX4_hasClerk_25 : decode cX4_hasClerk 25 = .ok (.iconst 0, 1) := by decide +kernel
theorem dX4_hasClerk_26 : decode cX4_hasClerk 26 = .ok (.ireturn, 1) := by decide +kernel
theorem dX4_lengthBetween_0 : decode cX4_lengthBetween 0 = .ok (.aload_n 0, 1) := by decide +kernel
theorem dX4_lengthBetween_1 : decode cX4_lengthBetween 1 = .ok (.iload_n 1, 1) := by decide +kernel
theorem dX4_lengthBetween_2 : decode cX4_lengthBetween 2 = .ok (.invokevirtual 97, 3) := by decide +kernel
theorem dX4_lengthBetween_5 : decode cX4_lengthBetween 5 = .ok (.ifCond .eq 25, 3) := by decide +kernel
theorem dX4_lengthBetween_30 : decode cX4_lengthBetween 30 = .ok (.iconst 0, 1) := by decide +kernel
theorem dX4_lengthBetween_31 : decode cX4_lengthBetween 31 = .ok (.ireturn, 1) := by decide +kernel
theorem dX4_hindrance_0 : decode cX4_hindrance 0 = .ok (.aload_n 0, 1) := by decide +kernel
theorem dX4_hindrance_1 : decode cX4_hindrance 1 = .ok (.iload_n 2, 1) := by decide +kernel
theorem dX4_hindrance_2 : decode cX4_hindrance 2 = .ok (.invokevirtual 88, 3) := by decide +kernel
theorem dX4_hindrance_5 : decode cX4_hindrance 5 = .ok (.ifCond .eq 11, 3) := by decide +kernel
theorem dX4_hindrance_16 : decode cX4_hindrance 16 = .ok (.iconst 1, 1) := by decide +kernel
theorem dX4_hindrance_17 : decode cX4_hindrance 17 = .ok (.ireturn, 1) := by decide +kernel
theorem dX5_init_0 : decode cX5_init 0 = .ok (.aload_n 0, 1) := by decide +kernel
theorem dX5_init_1 : decode cX5_init 1 = .ok (.invokespecial 3, 3) := by decide +kernel
theorem dX5_init_4 : decode cX5_init 4 = .ok (.aload_n 0, 1) := by decide +kernel
theorem dX5_init_5 : decode cX5_init 5 = .ok (.bipush 40, 2) := by decide +kernel
theorem dX5_init_7 : decode cX5_init 7 = .ok (.newarray .int, 2) := by decide +kernel
theorem dX5_init_9 : decode cX5_init 9 = .ok (.putfield 11, 3) := by decide +kernel
theorem dX5_init_12 : decode cX5_init 12 = .ok (.aload_n 0, 1) := by decide +kernel
theorem dX5_init_13 : decode cX5_init 13 = .ok (.bipush 12, 2) := by decide +kernel
theorem dX5_init_15 : decode cX5_init 15 = .ok (.newarray .int, 2) := by decide +kernel
theorem dX5_init_17 : decode cX5_init 17 = .ok (.putfield 15, 3) := by decide +kernel
theorem dX5_init_20 : decode cX5_init 20 = .ok (.return_, 1) := by decide +kernel
theorem dX5_isReadFrom_0 : decode cX5_isReadFrom 0 = .ok (.aload_n 0, 1) := by decide +kernel
theorem dX5_isReadFrom_1 : decode cX5_isReadFrom 1 = .ok (.iconst 0, 1) := by decide +kernel
theorem dX5_isReadFrom_2 : decode cX5_isReadFrom 2 = .ok (.putfield 18, 3) := by decide +kernel
theorem dX5_isReadFrom_5 : decode cX5_isReadFrom 5 = .ok (.aload_n 1, 1) := by decide +kernel
theorem dX5_isReadFrom_6 : decode cX5_isReadFrom 6 = .ok (.iconst 0, 1) := by decide +kernel
theorem dX5_isReadFrom_7 : decode cX5_isReadFrom 7 = .ok (.putfield 22, 3) := by decide +kernel
theorem dX5_isReadFrom_10 : decode cX5_isReadFrom 10 = .ok (.iconst 0, 1) := by decide +kernel
theorem dX5_isReadFrom_11 : decode cX5_isReadFrom 11 = .ok (.istore_n 2, 1) := by decide +kernel
theorem dX5_isReadFrom_12 : decode cX5_isReadFrom 12 = .ok (.iload_n 2, 1) := by decide +kernel
theorem dX5_isReadFrom_13 : decode cX5_isReadFrom 13 = .ok (.bipush 40, 2) := by decide +kernel
theorem dX5_isReadFrom_15 : decode cX5_isReadFrom 15 = .ok (.if_icmp .ge 122, 3) := by decide +kernel
theorem dX5_isReadFrom_18 : decode cX5_isReadFrom 18 = .ok (.aload_n 1, 1) := by decide +kernel
theorem dX5_isReadFrom_19 : decode cX5_isReadFrom 19 = .ok (.invokevirtual 27, 3) := by decide +kernel
theorem dX5_isReadFrom_22 : decode cX5_isReadFrom 22 = .ok (.bipush 65, 2) := by decide +kernel
theorem dX5_isReadFrom_24 : decode cX5_isReadFrom 24 = .ok (.isub, 1) := by decide +kernel
theorem dX5_isReadFrom_25 : decode cX5_isReadFrom 25 = .ok (.istore_n 3, 1) := by decide +kernel
theorem dX5_isReadFrom_26 : decode cX5_isReadFrom 26 = .ok (.iload_n 3, 1) := by decide +kernel
theorem dX5_isReadFrom_27 : decode cX5_isReadFrom 27 = .ok (.ifCond .lt 9, 3) := by decide +kernel
theorem dX5_isReadFrom_36 : decode cX5_isReadFrom 36 = .ok (.iconst 0, 1) := by decide +kernel
theorem dX5_isReadFrom_37 : decode cX5_isReadFrom 37 = .ok (.ireturn, 1) := by decide +kernel
theorem dX6_init_0 : decode cX6_init 0 = .ok (.aload_n 0, 1) := by decide +kernel
theorem dX6_init_1 : decode cX6_init 1 = .ok (.invokespecial 1, 3) := by decide +kernel
theorem dX6_init_4 : decode cX6_init 4 = .ok (.aload_n 0, 1) := by decide +kernel
theorem dX6_init_5 : decode cX6_init 5 = .ok (.sipush 160, 3) := by decide +kernel
theorem dX6_init_8 : decode cX6_init 8 = .ok (.newarray .int, 2) := by decide +kernel
theorem dX6_init_10 : decode cX6_init 10 = .ok (.putfield 9, 3) := by decide +kernel
theorem dX6_init_13 : decode cX6_init 13 = .ok (.return_, 1) := by decide +kernel
theorem dX6_signsIn_0 : decode cX6_signsIn 0 = .ok (.iconst 0, 1) := by decide +kernel
theorem dX6_signsIn_1 : decode cX6_signsIn 1 = .ok (.istore_n 1, 1) := by decide +kernel
theorem dX6_signsIn_2 : decode cX6_signsIn 2 = .ok (.bipush 24, 2) := by decide +kernel
theorem dX6_signsIn_4 : decode cX6_signsIn 4 = .ok (.istore_n 2, 1) := by decide +kernel
theorem dX6_signsIn_5 : decode cX6_signsIn 5 = .ok (.iload_n 2, 1) := by decide +kernel
theorem dX6_signsIn_6 : decode cX6_signsIn 6 = .ok (.ifCond .lt 27, 3) := by decide +kernel
theorem dX6_signsIn_9 : decode cX6_signsIn 9 = .ok (.iload_n 1, 1) := by decide +kernel
theorem dX6_signsIn_10 : decode cX6_signsIn 10 = .ok (.iload_n 0, 1) := by decide +kernel
theorem dX6_signsIn_11 : decode cX6_signsIn 11 = .ok (.iload_n 2, 1) := by decide +kernel
theorem dX6_signsIn_12 : decode cX6_signsIn 12 = .ok (.iushr, 1) := by decide +kernel
theorem dX6_signsIn_13 : decode cX6_signsIn 13 = .ok (.sipush 255, 3) := by decide +kernel
theorem dX6_signsIn_16 : decode cX6_signsIn 16 = .ok (.iand, 1) := by decide +kernel
theorem dX6_signsIn_17 : decode cX6_signsIn 17 = .ok (.ifCond .eq 7, 3) := by decide +kernel
theorem dX6_signsIn_20 : decode cX6_signsIn 20 = .ok (.iconst 1, 1) := by decide +kernel
theorem dX6_signsIn_21 : decode cX6_signsIn 21 = .ok (.goto 4, 3) := by decide +kernel
theorem dX6_signsIn_24 : decode cX6_signsIn 24 = .ok (.iconst 0, 1) := by decide +kernel
theorem dX6_signsIn_25 : decode cX6_signsIn 25 = .ok (.iadd, 1) := by decide +kernel
theorem dX6_signsIn_26 : decode cX6_signsIn 26 = .ok (.istore_n 1, 1) := by decide +kernel
theorem dX6_signsIn_27 : decode cX6_signsIn 27 = .ok (.iinc 2 (-8), 3) := by decide +kernel
theorem dX6_signsIn_30 : decode cX6_signsIn 30 = .ok (.goto (-25), 3) := by decide +kernel
theorem dX6_signsIn_33 : decode cX6_signsIn 33 = .ok (.iload_n 1, 1) := by decide +kernel
theorem dX6_signsIn_34 : decode cX6_signsIn 34 = .ok (.ireturn, 1) := by decide +kernel
theorem dX6_append_0 : decode cX6_append 0 = .ok (.bipush 24, 2) := by decide +kernel
theorem dX6_append_2 : decode cX6_append 2 = .ok (.istore_n 2, 1) := by decide +kernel
theorem dX6_append_3 : decode cX6_append 3 = .ok (.iload_n 2, 1) := by decide +kernel
theorem dX6_append_4 : decode cX6_append 4 = .ok (.ifCond .lt 51, 3) := by decide +kernel
theorem dX6_append_7 : decode cX6_append 7 = .ok (.iload_n 1, 1) := by decide +kernel
theorem dX6_append_8 : decode cX6_append 8 = .ok (.iload_n 2, 1) := by decide +kernel
theorem dX6_append_9 : decode cX6_append 9 = .ok (.iushr, 1) := by decide +kernel
theorem dX6_append_10 : decode cX6_append 10 = .ok (.sipush 255, 3) := by decide +kernel
theorem dX6_append_13 : decode cX6_append 13 = .ok (.iand, 1) := by decide +kernel
theorem dX6_append_14 : decode cX6_append 14 = .ok (.istore_n 3, 1) := by decide +kernel
theorem dX6_append_15 : decode cX6_append 15 = .ok (.iload_n 3, 1) := by decide +kernel
theorem dX6_append_16 : decode cX6_append 16 = .ok (.ifCond .eq 33, 3) := by decide +kernel
theorem dX6_append_19 : decode cX6_append 19 = .ok (.aload_n 0, 1) := by decide +kernel
theorem dX6_append_20 : decode cX6_append 20 = .ok (.getfield 13, 3) := by decide +kernel
theorem dX6_append_23 : decode cX6_append 23 = .ok (.sipush 160, 3) := by decide +kernel
theorem dX6_append_26 : decode cX6_append 26 = .ok (.if_icmp .ge 23, 3) := by decide +kernel
theorem dX6_append_29 : decode cX6_append 29 = .ok (.aload_n 0, 1) := by decide +kernel
theorem dX6_append_30 : decode cX6_append 30 = .ok (.getfield 9, 3) := by decide +kernel
theorem dX6_append_33 : decode cX6_append 33 = .ok (.aload_n 0, 1) := by decide +kernel
theorem dX6_append_34 : decode cX6_append 34 = .ok (.getfield 13, 3) := by decide +kernel
theorem dX6_append_37 : decode cX6_append 37 = .ok (.iload_n 3, 1) := by decide +kernel
theorem dX6_append_38 : decode cX6_append 38 = .ok (.iastore, 1) := by decide +kernel
theorem dX6_append_39 : decode cX6_append 39 = .ok (.aload_n 0, 1) := by decide +kernel
theorem dX6_append_40 : decode cX6_append 40 = .ok (.dup, 1) := by decide +kernel
theorem dX6_append_41 : decode cX6_append 41 = .ok (.getfield 13, 3) := by decide +kernel
theorem dX6_append_44 : decode cX6_append 44 = .ok (.iconst 1, 1) := by decide +kernel
theorem dX6_append_45 : decode cX6_append 45 = .ok (.iadd, 1) := by decide +kernel
theorem dX6_append_46 : decode cX6_append 46 = .ok (.putfield 13, 3) := by decide +kernel
theorem dX6_append_49 : decode cX6_append 49 = .ok (.iinc 2 (-8), 3) := by decide +kernel
theorem dX6_append_52 : decode cX6_append 52 = .ok (.goto (-49), 3) := by decide +kernel
theorem dX6_append_55 : decode cX6_append 55 = .ok (.return_, 1) := by decide +kernel
theorem dX6_look_0 : decode cX6_look 0 = .ok (.aload_n 0, 1) := by decide +kernel
theorem dX6_look_1 : decode cX6_look 1 = .ok (.getfield 17, 3) := by decide +kernel
theorem dX6_look_4 : decode cX6_look 4 = .ok (.aload_n 0, 1) := by decide +kernel
theorem dX6_look_5 : decode cX6_look 5 = .ok (.getfield 13, 3) := by decide +kernel
theorem dX6_look_8 : decode cX6_look 8 = .ok (.if_icmp .ge 40, 3) := by decide +kernel
theorem dX6_look_48 : decode cX6_look 48 = .ok (.aload_n 0, 1) := by decide +kernel
theorem dX6_look_49 : decode cX6_look 49 = .ok (.getfield 17, 3) := by decide +kernel
theorem dX6_look_52 : decode cX6_look 52 = .ok (.aload_n 0, 1) := by decide +kernel
theorem dX6_look_53 : decode cX6_look 53 = .ok (.getfield 13, 3) := by decide +kernel
theorem dX6_look_56 : decode cX6_look 56 = .ok (.if_icmp .ge 25, 3) := by decide +kernel
theorem dX6_look_81 : decode cX6_look 81 = .ok (.iconst (-1), 1) := by decide +kernel
theorem dX6_look_82 : decode cX6_look 82 = .ok (.ireturn, 1) := by decide +kernel
theorem dX6_takes_0 : decode cX6_takes 0 = .ok (.aload_n 0, 1) := by decide +kernel
theorem dX6_takes_1 : decode cX6_takes 1 = .ok (.invokevirtual 20, 3) := by decide +kernel
theorem dX6_takes_4 : decode cX6_takes 4 = .ok (.iload_n 1, 1) := by decide +kernel
theorem dX6_takes_5 : decode cX6_takes 5 = .ok (.if_icmp .eq 5, 3) := by decide +kernel
theorem dX6_takes_8 : decode cX6_takes 8 = .ok (.iconst 0, 1) := by decide +kernel
theorem dX6_takes_9 : decode cX6_takes 9 = .ok (.ireturn, 1) := by decide +kernel
theorem dX7_init_0 : decode cX7_init 0 = .ok (.aload_n 0, 1) := by decide +kernel
theorem dX7_init_1 : decode cX7_init 1 = .ok (.invokespecial 3, 3) := by decide +kernel
theorem dX7_init_4 : decode cX7_init 4 = .ok (.aload_n 0, 1) := by decide +kernel
theorem dX7_init_5 : decode cX7_init 5 = .ok (.bipush 12, 2) := by decide +kernel
theorem dX7_init_7 : decode cX7_init 7 = .ok (.newarray .int, 2) := by decide +kernel
theorem dX7_init_9 : decode cX7_init 9 = .ok (.putfield 9, 3) := by decide +kernel
theorem dX7_init_12 : decode cX7_init 12 = .ok (.aload_n 0, 1) := by decide +kernel
theorem dX7_init_13 : decode cX7_init 13 = .ok (.bipush 12, 2) := by decide +kernel
theorem dX7_init_15 : decode cX7_init 15 = .ok (.newarray .int, 2) := by decide +kernel
theorem dX7_init_17 : decode cX7_init 17 = .ok (.putfield 15, 3) := by decide +kernel
theorem dX7_init_20 : decode cX7_init 20 = .ok (.aload_n 0, 1) := by decide +kernel
theorem dX7_init_21 : decode cX7_init 21 = .ok (.bipush 12, 2) := by decide +kernel
theorem dX7_init_23 : decode cX7_init 23 = .ok (.newarray .int, 2) := by decide +kernel
theorem dX7_init_25 : decode cX7_init 25 = .ok (.putfield 18, 3) := by decide +kernel
theorem dX7_init_28 : decode cX7_init 28 = .ok (.return_, 1) := by decide +kernel
theorem dX7_kindOf_0 : decode cX7_kindOf 0 = .ok (.aload_n 1, 1) := by decide +kernel
theorem dX7_kindOf_1 : decode cX7_kindOf 1 = .ok (.getfield 21, 3) := by decide +kernel
theorem dX7_kindOf_4 : decode cX7_kindOf 4 = .ok (.ifCond .eq 19, 3) := by decide +kernel
theorem dX7_kindOf_23 : decode cX7_kindOf 23 = .ok (.iconst (-1), 1) := by decide +kernel
theorem dX7_kindOf_24 : decode cX7_kindOf 24 = .ok (.ireturn, 1) := by decide +kernel
theorem dX9_init_0 : decode cX9_init 0 = .ok (.aload_n 0, 1) := by decide +kernel
theorem dX9_init_1 : decode cX9_init 1 = .ok (.invokespecial 3, 3) := by decide +kernel
theorem dX9_init_4 : decode cX9_init 4 = .ok (.aload_n 0, 1) := by decide +kernel
theorem dX9_init_5 : decode cX9_init 5 = .ok (.iconst 4, 1) := by decide +kernel
theorem dX9_init_6 : decode cX9_init 6 = .ok (.newarray .int, 2) := by decide +kernel
theorem dX9_init_8 : decode cX9_init 8 = .ok (.putfield 9, 3) := by decide +kernel
theorem dX9_init_11 : decode cX9_init 11 = .ok (.aload_n 0, 1) := by decide +kernel
theorem dX9_init_12 : decode cX9_init 12 = .ok (.sipush 144, 3) := by decide +kernel
theorem dX9_init_15 : decode cX9_init 15 = .ok (.newarray .int, 2) := by decide +kernel
theorem dX9_init_17 : decode cX9_init 17 = .ok (.putfield 15, 3) := by decide +kernel
theorem dX9_init_20 : decode cX9_init 20 = .ok (.aload_n 0, 1) := by decide +kernel
theorem dX9_init_21 : decode cX9_init 21 = .ok (.bipush 12, 2) := by decide +kernel
theorem dX9_init_23 : decode cX9_init 23 = .ok (.newarray .int, 2) := by decide +kernel
theorem dX9_init_25 : decode cX9_init 25 = .ok (.putfield 18, 3) := by decide +kernel
theorem dX9_init_28 : decode cX9_init 28 = .ok (.aload_n 0, 1) := by decide +kernel
theorem dX9_init_29 : decode cX9_init 29 = .ok (.bipush 12, 2) := by decide +kernel
theorem dX9_init_31 : decode cX9_init 31 = .ok (.newarray .int, 2) := by decide +kernel
theorem dX9_init_33 : decode cX9_init 33 = .ok (.putfield 21, 3) := by decide +kernel
theorem dX9_init_36 : decode cX9_init 36 = .ok (.aload_n 0, 1) := by decide +kernel
theorem dX9_init_37 : decode cX9_init 37 = .ok (.bipush 12, 2) := by decide +kernel
theorem dX9_init_39 : decode cX9_init 39 = .ok (.newarray .int, 2) := by decide +kernel
theorem dX9_init_41 : decode cX9_init 41 = .ok (.putfield 24, 3) := by decide +kernel
theorem dX9_init_44 : decode cX9_init 44 = .ok (.aload_n 0, 1) := by decide +kernel
theorem dX9_init_45 : decode cX9_init 45 = .ok (.bipush 12, 2) := by decide +kernel
theorem dX9_init_47 : decode cX9_init 47 = .ok (.newarray .int, 2) := by decide +kernel
theorem dX9_init_49 : decode cX9_init 49 = .ok (.putfield 27, 3) := by decide +kernel
theorem dX9_init_52 : decode cX9_init 52 = .ok (.aload_n 0, 1) := by decide +kernel
theorem dX9_init_53 : decode cX9_init 53 = .ok (.bipush 12, 2) := by decide +kernel
theorem dX9_init_55 : decode cX9_init 55 = .ok (.newarray .int, 2) := by decide +kernel
theorem dX9_init_57 : decode cX9_init 57 = .ok (.putfield 30, 3) := by decide +kernel
theorem dX9_init_60 : decode cX9_init 60 = .ok (.aload_n 0, 1) := by decide +kernel
theorem dX9_init_61 : decode cX9_init 61 = .ok (.bipush 12, 2) := by decide +kernel
theorem dX9_init_63 : decode cX9_init 63 = .ok (.newarray .int, 2) := by decide +kernel
theorem dX9_init_65 : decode cX9_init 65 = .ok (.putfield 33, 3) := by decide +kernel
theorem dX9_init_68 : decode cX9_init 68 = .ok (.return_, 1) := by decide +kernel
theorem dX10_init_0 : decode cX10_init 0 = .ok (.aload_n 0, 1) := by decide +kernel
theorem dX10_init_1 : decode cX10_init 1 = .ok (.invokespecial 1, 3) := by decide +kernel
theorem dX10_init_4 : decode cX10_init 4 = .ok (.aload_n 0, 1) := by decide +kernel
theorem dX10_init_5 : decode cX10_init 5 = .ok (.new 7, 3) := by decide +kernel
theorem dX10_init_8 : decode cX10_init 8 = .ok (.dup, 1) := by decide +kernel
theorem dX10_init_9 : decode cX10_init 9 = .ok (.invokespecial 9, 3) := by decide +kernel
theorem dX10_init_12 : decode cX10_init 12 = .ok (.putfield 10, 3) := by decide +kernel
theorem dX10_init_15 : decode cX10_init 15 = .ok (.aload_n 0, 1) := by decide +kernel
theorem dX10_init_16 : decode cX10_init 16 = .ok (.new 16, 3) := by decide +kernel
theorem dX10_init_19 : decode cX10_init 19 = .ok (.dup, 1) := by decide +kernel
theorem dX10_init_20 : decode cX10_init 20 = .ok (.aload_n 0, 1) := by decide +kernel
theorem dX10_init_21 : decode cX10_init 21 = .ok (.getfield 10, 3) := by decide +kernel
theorem dX10_init_24 : decode cX10_init 24 = .ok (.invokespecial 18, 3) := by decide +kernel
theorem dX10_init_27 : decode cX10_init 27 = .ok (.putfield 21, 3) := by decide +kernel
theorem dX10_init_30 : decode cX10_init 30 = .ok (.aload_n 0, 1) := by decide +kernel
theorem dX10_init_31 : decode cX10_init 31 = .ok (.iconst 4, 1) := by decide +kernel
theorem dX10_init_32 : decode cX10_init 32 = .ok (.anewarray 25, 3) := by decide +kernel
theorem dX10_init_35 : decode cX10_init 35 = .ok (.putfield 27, 3) := by decide +kernel
theorem dX10_init_38 : decode cX10_init 38 = .ok (.aload_n 0, 1) := by decide +kernel
theorem dX10_init_39 : decode cX10_init 39 = .ok (.iconst (-1), 1) := by decide +kernel
theorem dX10_init_40 : decode cX10_init 40 = .ok (.putfield 31, 3) := by decide +kernel
theorem dX10_init_43 : decode cX10_init 43 = .ok (.aload_n 0, 1) := by decide +kernel
theorem dX10_init_44 : decode cX10_init 44 = .ok (.new 35, 3) := by decide +kernel
theorem dX10_init_47 : decode cX10_init 47 = .ok (.dup, 1) := by decide +kernel
theorem dX10_init_48 : decode cX10_init 48 = .ok (.invokespecial 37, 3) := by decide +kernel
theorem dX10_init_51 : decode cX10_init 51 = .ok (.putfield 38, 3) := by decide +kernel
theorem dX10_init_54 : decode cX10_init 54 = .ok (.aload_n 0, 1) := by decide +kernel
theorem dX10_init_55 : decode cX10_init 55 = .ok (.new 35, 3) := by decide +kernel
theorem dX10_init_58 : decode cX10_init 58 = .ok (.dup, 1) := by decide +kernel
theorem dX10_init_59 : decode cX10_init 59 = .ok (.invokespecial 37, 3) := by decide +kernel
theorem dX10_init_62 : decode cX10_init 62 = .ok (.putfield 42, 3) := by decide +kernel
theorem dX10_init_65 : decode cX10_init 65 = .ok (.aload_n 0, 1) := by decide +kernel
theorem dX10_init_66 : decode cX10_init 66 = .ok (.new 45, 3) := by decide +kernel
theorem dX10_init_69 : decode cX10_init 69 = .ok (.dup, 1) := by decide +kernel
theorem dX10_init_70 : decode cX10_init 70 = .ok (.invokespecial 47, 3) := by decide +kernel
theorem dX10_init_73 : decode cX10_init 73 = .ok (.putfield 48, 3) := by decide +kernel
theorem dX10_init_76 : decode cX10_init 76 = .ok (.aload_n 0, 1) := by decide +kernel
theorem dX10_init_77 : decode cX10_init 77 = .ok (.new 45, 3) := by decide +kernel
theorem dX10_init_80 : decode cX10_init 80 = .ok (.dup, 1) := by decide +kernel
theorem dX10_init_81 : decode cX10_init 81 = .ok (.invokespecial 47, 3) := by decide +kernel
theorem dX10_init_84 : decode cX10_init 84 = .ok (.putfield 52, 3) := by decide +kernel
theorem dX10_init_87 : decode cX10_init 87 = .ok (.aload_n 0, 1) := by decide +kernel
theorem dX10_init_88 : decode cX10_init 88 = .ok (.new 55, 3) := by decide +kernel
theorem dX10_init_91 : decode cX10_init 91 = .ok (.dup, 1) := by decide +kernel
theorem dX10_init_92 : decode cX10_init 92 = .ok (.invokespecial 57, 3) := by decide +kernel
theorem dX10_init_95 : decode cX10_init 95 = .ok (.putfield 58, 3) := by decide +kernel
theorem dX10_init_98 : decode cX10_init 98 = .ok (.aload_n 0, 1) := by decide +kernel
theorem dX10_init_99 : decode cX10_init 99 = .ok (.new 62, 3) := by decide +kernel
theorem dX10_init_102 : decode cX10_init 102 = .ok (.dup, 1) := by decide +kernel
theorem dX10_init_103 : decode cX10_init 103 = .ok (.invokespecial 64, 3) := by decide +kernel
theorem dX10_init_106 : decode cX10_init 106 = .ok (.putfield 65, 3) := by decide +kernel
theorem dX10_init_109 : decode cX10_init 109 = .ok (.aload_n 0, 1) := by decide +kernel
theorem dX10_init_110 : decode cX10_init 110 = .ok (.new 69, 3) := by decide +kernel
theorem dX10_init_113 : decode cX10_init 113 = .ok (.dup, 1) := by decide +kernel
theorem dX10_init_114 : decode cX10_init 114 = .ok (.invokespecial 71, 3) := by decide +kernel
theorem dX10_init_117 : decode cX10_init 117 = .ok (.putfield 72, 3) := by decide +kernel
theorem dX10_init_120 : decode cX10_init 120 = .ok (.aload_n 0, 1) := by decide +kernel
theorem dX10_init_121 : decode cX10_init 121 = .ok (.iconst (-1), 1) := by decide +kernel
theorem dX10_init_122 : decode cX10_init 122 = .ok (.putfield 76, 3) := by decide +kernel
theorem dX10_init_125 : decode cX10_init 125 = .ok (.aload_n 0, 1) := by decide +kernel
theorem dX10_init_126 : decode cX10_init 126 = .ok (.bipush 13, 2) := by decide +kernel
theorem dX10_init_128 : decode cX10_init 128 = .ok (.newarray .int, 2) := by decide +kernel
theorem dX10_init_130 : decode cX10_init 130 = .ok (.putfield 79, 3) := by decide +kernel
theorem dX10_init_133 : decode cX10_init 133 = .ok (.aload_n 0, 1) := by decide +kernel
theorem dX10_init_134 : decode cX10_init 134 = .ok (.getfield 79, 3) := by decide +kernel
theorem dX10_init_137 : decode cX10_init 137 = .ok (.bipush (-2), 2) := by decide +kernel
theorem dX10_init_139 : decode cX10_init 139 = .ok (.invokestatic 83, 3) := by decide +kernel
theorem dX10_init_142 : decode cX10_init 142 = .ok (.return_, 1) := by decide +kernel
theorem dX10_feed_0 : decode cX10_feed 0 = .ok (.iload_n 1, 1) := by decide +kernel
theorem dX10_feed_1 : decode cX10_feed 1 = .ok (.invokestatic 89, 3) := by decide +kernel
theorem dX10_feed_4 : decode cX10_feed 4 = .ok (.iload_n 2, 1) := by decide +kernel
theorem dX10_feed_5 : decode cX10_feed 5 = .ok (.invokestatic 89, 3) := by decide +kernel
theorem dX10_feed_8 : decode cX10_feed 8 = .ok (.iadd, 1) := by decide +kernel
theorem dX10_feed_9 : decode cX10_feed 9 = .ok (.iload_n 3, 1) := by decide +kernel
theorem dX10_feed_10 : decode cX10_feed 10 = .ok (.invokestatic 89, 3) := by decide +kernel
theorem dX10_feed_13 : decode cX10_feed 13 = .ok (.iadd, 1) := by decide +kernel
theorem dX10_feed_14 : decode cX10_feed 14 = .ok (.iload 4, 2) := by decide +kernel
theorem dX10_feed_16 : decode cX10_feed 16 = .ok (.invokestatic 89, 3) := by decide +kernel
theorem dX10_feed_19 : decode cX10_feed 19 = .ok (.iadd, 1) := by decide +kernel
theorem dX10_feed_20 : decode cX10_feed 20 = .ok (.iload 5, 2) := by decide +kernel
theorem dX10_feed_22 : decode cX10_feed 22 = .ok (.invokestatic 89, 3) := by decide +kernel
theorem dX10_feed_25 : decode cX10_feed 25 = .ok (.iadd, 1) := by decide +kernel
theorem dX10_feed_26 : decode cX10_feed 26 = .ok (.istore 6, 2) := by decide +kernel
theorem dX10_feed_28 : decode cX10_feed 28 = .ok (.aload_n 0, 1) := by decide +kernel
theorem dX10_feed_29 : decode cX10_feed 29 = .ok (.getfield 10, 3) := by decide +kernel
theorem dX10_feed_32 : decode cX10_feed 32 = .ok (.getfield 93, 3) := by decide +kernel
theorem dX10_feed_35 : decode cX10_feed 35 = .ok (.iload 6, 2) := by decide +kernel
theorem dX10_feed_37 : decode cX10_feed 37 = .ok (.iadd, 1) := by decide +kernel
theorem dX10_feed_38 : decode cX10_feed 38 = .ok (.sipush 160, 3) := by decide +kernel
theorem dX10_feed_41 : decode cX10_feed 41 = .ok (.if_icmp .le 5, 3) := by decide +kernel
theorem dX10_feed_46 : decode cX10_feed 46 = .ok (.aload_n 0, 1) := by decide +kernel
theorem dX10_feed_47 : decode cX10_feed 47 = .ok (.getfield 10, 3) := by decide +kernel
theorem dX10_feed_50 : decode cX10_feed 50 = .ok (.iload_n 1, 1) := by decide +kernel
theorem dX10_feed_51 : decode cX10_feed 51 = .ok (.invokevirtual 96, 3) := by decide +kernel
theorem dX10_feed_54 : decode cX10_feed 54 = .ok (.aload_n 0, 1) := by decide +kernel
theorem dX10_feed_55 : decode cX10_feed 55 = .ok (.getfield 10, 3) := by decide +kernel
theorem dX10_feed_58 : decode cX10_feed 58 = .ok (.iload_n 2, 1) := by decide +kernel
theorem dX10_feed_59 : decode cX10_feed 59 = .ok (.invokevirtual 96, 3) := by decide +kernel
theorem dX10_feed_62 : decode cX10_feed 62 = .ok (.aload_n 0, 1) := by decide +kernel
theorem dX10_feed_63 : decode cX10_feed 63 = .ok (.getfield 10, 3) := by decide +kernel
theorem dX10_feed_66 : decode cX10_feed 66 = .ok (.iload_n 3, 1) := by decide +kernel
theorem dX10_feed_67 : decode cX10_feed 67 = .ok (.invokevirtual 96, 3) := by decide +kernel
theorem dX10_feed_70 : decode cX10_feed 70 = .ok (.aload_n 0, 1) := by decide +kernel
theorem dX10_feed_71 : decode cX10_feed 71 = .ok (.getfield 10, 3) := by decide +kernel
theorem dX10_feed_74 : decode cX10_feed 74 = .ok (.iload 4, 2) := by decide +kernel
theorem dX10_feed_76 : decode cX10_feed 76 = .ok (.invokevirtual 96, 3) := by decide +kernel
theorem dX10_feed_79 : decode cX10_feed 79 = .ok (.aload_n 0, 1) := by decide +kernel
theorem dX10_feed_80 : decode cX10_feed 80 = .ok (.getfield 10, 3) := by decide +kernel
theorem dX10_feed_83 : decode cX10_feed 83 = .ok (.iload 5, 2) := by decide +kernel
theorem dX10_feed_85 : decode cX10_feed 85 = .ok (.invokevirtual 96, 3) := by decide +kernel
theorem dX10_feed_88 : decode cX10_feed 88 = .ok (.aload_n 0, 1) := by decide +kernel
theorem dX10_feed_89 : decode cX10_feed 89 = .ok (.getfield 10, 3) := by decide +kernel
theorem dX10_feed_92 : decode cX10_feed 92 = .ok (.getfield 93, 3) := by decide +kernel
theorem dX10_feed_95 : decode cX10_feed 95 = .ok (.ireturn, 1) := by decide +kernel
theorem dX10_end_0 : decode cX10_end 0 = .ok (.iload_n 1, 1) := by decide +kernel
theorem dX10_end_1 : decode cX10_end 1 = .ok (.ifCond .lt 14, 3) := by decide +kernel
theorem dX10_end_4 : decode cX10_end 4 = .ok (.iload_n 1, 1) := by decide +kernel
theorem dX10_end_5 : decode cX10_end 5 = .ok (.aload_n 0, 1) := by decide +kernel
theorem dX10_end_6 : decode cX10_end 6 = .ok (.getfield 10, 3) := by decide +kernel
theorem dX10_end_9 : decode cX10_end 9 = .ok (.getfield 93, 3) := by decide +kernel
theorem dX10_end_12 : decode cX10_end 12 = .ok (.if_icmp .le 5, 3) := by decide +kernel
theorem dX10_end_15 : decode cX10_end 15 = .ok (.iconst 0, 1) := by decide +kernel
theorem dX10_end_16 : decode cX10_end 16 = .ok (.ireturn, 1) := by decide +kernel
theorem dX10_end_17 : decode cX10_end 17 = .ok (.aload_n 0, 1) := by decide +kernel
theorem dX10_end_18 : decode cX10_end 18 = .ok (.getfield 10, 3) := by decide +kernel
theorem dX10_end_21 : decode cX10_end 21 = .ok (.iload_n 1, 1) := by decide +kernel
theorem dX10_end_22 : decode cX10_end 22 = .ok (.putfield 93, 3) := by decide +kernel
theorem dX10_end_25 : decode cX10_end 25 = .ok (.iconst 1, 1) := by decide +kernel
theorem dX10_end_26 : decode cX10_end 26 = .ok (.ireturn, 1) := by decide +kernel
theorem dX10_fault_0 : decode cX10_fault 0 = .ok (.iload_n 1, 1) := by decide +kernel
theorem dX10_fault_1 : decode cX10_fault 1 = .ok (.ifCond .lt 8, 3) := by decide +kernel
theorem dX10_fault_4 : decode cX10_fault 4 = .ok (.iload_n 1, 1) := by decide +kernel
theorem dX10_fault_5 : decode cX10_fault 5 = .ok (.iconst 2, 1) := by decide +kernel
theorem dX10_fault_6 : decode cX10_fault 6 = .ok (.if_icmp .le 6, 3) := by decide +kernel
theorem dX10_fault_9 : decode cX10_fault 9 = .ok (.bipush (-2), 2) := by decide +kernel
theorem dX10_fault_11 : decode cX10_fault 11 = .ok (.ireturn, 1) := by decide +kernel
theorem dX10_fault_12 : decode cX10_fault 12 = .ok (.iload_n 1, 1) := by decide +kernel
theorem dX10_fault_13 : decode cX10_fault 13 = .ok (.ifCond .ne 18, 3) := by decide +kernel
theorem dX10_fault_16 : decode cX10_fault 16 = .ok (.aload_n 0, 1) := by decide +kernel
theorem dX10_fault_17 : decode cX10_fault 17 = .ok (.getfield 42, 3) := by decide +kernel
theorem dX10_fault_20 : decode cX10_fault 20 = .ok (.aload_n 0, 1) := by decide +kernel
theorem dX10_fault_21 : decode cX10_fault 21 = .ok (.getfield 10, 3) := by decide +kernel
theorem dX10_fault_24 : decode cX10_fault 24 = .ok (.invokevirtual 100, 3) := by decide +kernel
theorem dX10_fault_27 : decode cX10_fault 27 = .ok (.istore_n 2, 1) := by decide +kernel
theorem dX10_fault_28 : decode cX10_fault 28 = .ok (.goto 30, 3) := by decide +kernel
theorem dX10_fault_31 : decode cX10_fault 31 = .ok (.iload_n 1, 1) := by decide +kernel
theorem dX10_fault_32 : decode cX10_fault 32 = .ok (.iconst 1, 1) := by decide +kernel
theorem dX10_fault_33 : decode cX10_fault 33 = .ok (.if_icmp .ne 13, 3) := by decide +kernel
theorem dX10_fault_36 : decode cX10_fault 36 = .ok (.aload_n 0, 1) := by decide +kernel
theorem dX10_fault_37 : decode cX10_fault 37 = .ok (.getfield 21, 3) := by decide +kernel
theorem dX10_fault_40 : decode cX10_fault 40 = .ok (.invokevirtual 104, 3) := by decide +kernel
theorem dX10_fault_43 : decode cX10_fault 43 = .ok (.goto 14, 3) := by decide +kernel
theorem dX10_fault_46 : decode cX10_fault 46 = .ok (.aload_n 0, 1) := by decide +kernel
theorem dX10_fault_47 : decode cX10_fault 47 = .ok (.getfield 52, 3) := by decide +kernel
theorem dX10_fault_50 : decode cX10_fault 50 = .ok (.aload_n 0, 1) := by decide +kernel
theorem dX10_fault_51 : decode cX10_fault 51 = .ok (.getfield 10, 3) := by decide +kernel
theorem dX10_fault_54 : decode cX10_fault 54 = .ok (.invokevirtual 108, 3) := by decide +kernel
theorem dX10_fault_57 : decode cX10_fault 57 = .ok (.istore_n 2, 1) := by decide +kernel
theorem dX10_fault_58 : decode cX10_fault 58 = .ok (.iload_n 2, 1) := by decide +kernel
theorem dX10_fault_59 : decode cX10_fault 59 = .ok (.ifCond .eq 7, 3) := by decide +kernel
theorem dX10_fault_66 : decode cX10_fault 66 = .ok (.aload_n 0, 1) := by decide +kernel
theorem dX10_fault_67 : decode cX10_fault 67 = .ok (.getfield 10, 3) := by decide +kernel
theorem dX10_fault_70 : decode cX10_fault 70 = .ok (.getfield 109, 3) := by decide +kernel
theorem dX10_fault_73 : decode cX10_fault 73 = .ok (.ireturn, 1) := by decide +kernel
theorem dX10_text_0 : decode cX10_text 0 = .ok (.iload_n 1, 1) := by decide +kernel
theorem dX10_text_1 : decode cX10_text 1 = .ok (.ifCond .ne 8, 3) := by decide +kernel
theorem dX10_text_4 : decode cX10_text 4 = .ok (.aload_n 0, 1) := by decide +kernel
theorem dX10_text_5 : decode cX10_text 5 = .ok (.invokevirtual 112, 3) := by decide +kernel
theorem dX10_text_8 : decode cX10_text 8 = .ok (.ireturn, 1) := by decide +kernel
theorem dX10_text_9 : decode cX10_text 9 = .ok (.iload_n 1, 1) := by decide +kernel
theorem dX10_text_10 : decode cX10_text 10 = .ok (.iconst 1, 1) := by decide +kernel
theorem dX10_text_11 : decode cX10_text 11 = .ok (.if_icmp .ne 8, 3) := by decide +kernel
theorem dX10_text_14 : decode cX10_text 14 = .ok (.aload_n 0, 1) := by decide +kernel
theorem dX10_text_15 : decode cX10_text 15 = .ok (.invokevirtual 116, 3) := by decide +kernel
theorem dX10_text_18 : decode cX10_text 18 = .ok (.ireturn, 1) := by decide +kernel
theorem dX10_text_19 : decode cX10_text 19 = .ok (.iload_n 1, 1) := by decide +kernel
theorem dX10_text_20 : decode cX10_text 20 = .ok (.iconst 2, 1) := by decide +kernel
theorem dX10_text_21 : decode cX10_text 21 = .ok (.if_icmp .ne 10, 3) := by decide +kernel
theorem dX10_text_24 : decode cX10_text 24 = .ok (.aload_n 0, 1) := by decide +kernel
theorem dX10_text_25 : decode cX10_text 25 = .ok (.invokevirtual 119, 3) := by decide +kernel
theorem dX10_text_28 : decode cX10_text 28 = .ok (.goto 4, 3) := by decide +kernel
theorem dX10_text_31 : decode cX10_text 31 = .ok (.iconst (-1), 1) := by decide +kernel
theorem dX10_text_32 : decode cX10_text 32 = .ok (.ireturn, 1) := by decide +kernel
theorem dX10_desk_0 : decode cX10_desk 0 = .ok (.aload_n 0, 1) := by decide +kernel
theorem dX10_desk_1 : decode cX10_desk 1 = .ok (.getfield 38, 3) := by decide +kernel
theorem dX10_desk_4 : decode cX10_desk 4 = .ok (.iload_n 1, 1) := by decide +kernel
theorem dX10_desk_5 : decode cX10_desk 5 = .ok (.invokevirtual 122, 3) := by decide +kernel
theorem dX10_desk_8 : decode cX10_desk 8 = .ok (.ifCond .ne 11, 3) := by decide +kernel
theorem dX10_desk_11 : decode cX10_desk 11 = .ok (.new 126, 3) := by decide +kernel
theorem dX10_desk_14 : decode cX10_desk 14 = .ok (.dup, 1) := by decide +kernel
theorem dX10_desk_15 : decode cX10_desk 15 = .ok (.invokespecial 128, 3) := by decide +kernel
theorem dX10_desk_18 : decode cX10_desk 18 = .ok (.athrow, 1) := by decide +kernel
theorem dX10_door_0 : decode cX10_door 0 = .ok (.aload_n 0, 1) := by decide +kernel
theorem dX10_door_1 : decode cX10_door 1 = .ok (.getfield 38, 3) := by decide +kernel
theorem dX10_door_4 : decode cX10_door 4 = .ok (.iload_n 1, 1) := by decide +kernel
theorem dX10_door_5 : decode cX10_door 5 = .ok (.iload_n 2, 1) := by decide +kernel
theorem dX10_door_6 : decode cX10_door 6 = .ok (.invokevirtual 132, 3) := by decide +kernel
theorem dX10_door_9 : decode cX10_door 9 = .ok (.istore_n 3, 1) := by decide +kernel
theorem dX10_door_10 : decode cX10_door 10 = .ok (.iload_n 3, 1) := by decide +kernel
theorem dX10_door_11 : decode cX10_door 11 = .ok (.ifCond .le 7, 3) := by decide +kernel
theorem dX10_door_18 : decode cX10_door 18 = .ok (.iconst (-1), 1) := by decide +kernel
theorem dX10_door_19 : decode cX10_door 19 = .ok (.ireturn, 1) := by decide +kernel
theorem dX10_quarrel_0 : decode cX10_quarrel 0 = .ok (.aload_n 0, 1) := by decide +kernel
theorem dX10_quarrel_1 : decode cX10_quarrel 1 = .ok (.getfield 38, 3) := by decide +kernel
theorem dX10_quarrel_4 : decode cX10_quarrel 4 = .ok (.iload_n 1, 1) := by decide +kernel
theorem dX10_quarrel_5 : decode cX10_quarrel 5 = .ok (.invokevirtual 136, 3) := by decide +kernel
theorem dX10_quarrel_8 : decode cX10_quarrel 8 = .ok (.ifCond .eq 19, 3) := by decide +kernel
theorem dX10_quarrel_27 : decode cX10_quarrel 27 = .ok (.iconst (-1), 1) := by decide +kernel
theorem dX10_quarrel_28 : decode cX10_quarrel 28 = .ok (.ireturn, 1) := by decide +kernel
theorem dX10_set_0 : decode cX10_set 0 = .ok (.aload_n 0, 1) := by decide +kernel
theorem dX10_set_1 : decode cX10_set 1 = .ok (.getfield 38, 3) := by decide +kernel
theorem dX10_set_4 : decode cX10_set 4 = .ok (.iload_n 1, 1) := by decide +kernel
theorem dX10_set_5 : decode cX10_set 5 = .ok (.invokevirtual 136, 3) := by decide +kernel
theorem dX10_set_8 : decode cX10_set 8 = .ok (.ifCond .eq 22, 3) := by decide +kernel
theorem dX10_set_30 : decode cX10_set 30 = .ok (.iconst 0, 1) := by decide +kernel
theorem dX10_set_31 : decode cX10_set 31 = .ok (.ireturn, 1) := by decide +kernel
theorem dX10_clerk_0 : decode cX10_clerk 0 = .ok (.aload_n 0, 1) := by decide +kernel
theorem dX10_clerk_1 : decode cX10_clerk 1 = .ok (.getfield 38, 3) := by decide +kernel
theorem dX10_clerk_4 : decode cX10_clerk 4 = .ok (.iload_n 1, 1) := by decide +kernel
theorem dX10_clerk_5 : decode cX10_clerk 5 = .ok (.invokevirtual 136, 3) := by decide +kernel
theorem dX10_clerk_8 : decode cX10_clerk 8 = .ok (.ifCond .ne 5, 3) := by decide +kernel
theorem dX10_clerk_11 : decode cX10_clerk 11 = .ok (.iconst (-1), 1) := by decide +kernel
theorem dX10_clerk_12 : decode cX10_clerk 12 = .ok (.ireturn, 1) := by decide +kernel
theorem dX10_law_0 : decode cX10_law 0 = .ok (.aload_n 0, 1) := by decide +kernel
theorem dX10_law_1 : decode cX10_law 1 = .ok (.getfield 38, 3) := by decide +kernel
theorem dX10_law_4 : decode cX10_law 4 = .ok (.getfield 160, 3) := by decide +kernel
theorem dX10_law_7 : decode cX10_law 7 = .ok (.ifCond .eq 16, 3) := by decide +kernel
theorem dX10_law_23 : decode cX10_law 23 = .ok (.iconst 0, 1) := by decide +kernel
theorem dX10_law_24 : decode cX10_law 24 = .ok (.ireturn, 1) := by decide +kernel
theorem dX10_let_0 : decode cX10_let 0 = .ok (.aload_n 0, 1) := by decide +kernel
theorem dX10_let_1 : decode cX10_let 1 = .ok (.getfield 38, 3) := by decide +kernel
theorem dX10_let_4 : decode cX10_let 4 = .ok (.aload_n 0, 1) := by decide +kernel
theorem dX10_let_5 : decode cX10_let 5 = .ok (.aload_n 0, 1) := by decide +kernel
theorem dX10_let_6 : decode cX10_let 6 = .ok (.getfield 31, 3) := by decide +kernel
theorem dX10_let_9 : decode cX10_let 9 = .ok (.invokevirtual 169, 3) := by decide +kernel
theorem dX10_let_12 : decode cX10_let 12 = .ok (.iload_n 1, 1) := by decide +kernel
theorem dX10_let_13 : decode cX10_let 13 = .ok (.iload_n 2, 1) := by decide +kernel
theorem dX10_let_14 : decode cX10_let 14 = .ok (.invokevirtual 173, 3) := by decide +kernel
theorem dX10_let_17 : decode cX10_let 17 = .ok (.istore_n 3, 1) := by decide +kernel
theorem dX10_let_18 : decode cX10_let 18 = .ok (.iload_n 3, 1) := by decide +kernel
theorem dX10_let_19 : decode cX10_let 19 = .ok (.iconst 4, 1) := by decide +kernel
theorem dX10_let_20 : decode cX10_let 20 = .ok (.if_icmp .ne 5, 3) := by decide +kernel
theorem dX10_let_25 : decode cX10_let 25 = .ok (.iload_n 3, 1) := by decide +kernel
theorem dX10_let_26 : decode cX10_let 26 = .ok (.ifCond .ne 7, 3) := by decide +kernel
theorem dX10_let_33 : decode cX10_let 33 = .ok (.iconst (-1), 1) := by decide +kernel
theorem dX10_let_34 : decode cX10_let 34 = .ok (.ireturn, 1) := by decide +kernel
theorem dX10_move_0 : decode cX10_move 0 = .ok (.aload_n 0, 1) := by decide +kernel
theorem dX10_move_1 : decode cX10_move 1 = .ok (.getfield 38, 3) := by decide +kernel
theorem dX10_move_4 : decode cX10_move 4 = .ok (.aload_n 0, 1) := by decide +kernel
theorem dX10_move_5 : decode cX10_move 5 = .ok (.aload_n 0, 1) := by decide +kernel
theorem dX10_move_6 : decode cX10_move 6 = .ok (.getfield 31, 3) := by decide +kernel
theorem dX10_move_9 : decode cX10_move 9 = .ok (.invokevirtual 169, 3) := by decide +kernel
theorem dX10_move_12 : decode cX10_move 12 = .ok (.iload_n 1, 1) := by decide +kernel
theorem dX10_move_13 : decode cX10_move 13 = .ok (.iload_n 2, 1) := by decide +kernel
theorem dX10_move_14 : decode cX10_move 14 = .ok (.invokevirtual 173, 3) := by decide +kernel
theorem dX10_move_17 : decode cX10_move 17 = .ok (.ifCond .eq 5, 3) := by decide +kernel
theorem dX10_move_20 : decode cX10_move 20 = .ok (.iconst (-1), 1) := by decide +kernel
theorem dX10_move_21 : decode cX10_move 21 = .ok (.ireturn, 1) := by decide +kernel
theorem dX10_undo_0 : decode cX10_undo 0 = .ok (.aload_n 0, 1) := by decide +kernel
theorem dX10_undo_1 : decode cX10_undo 1 = .ok (.getfield 58, 3) := by decide +kernel
theorem dX10_undo_4 : decode cX10_undo 4 = .ok (.getfield 188, 3) := by decide +kernel
theorem dX10_undo_7 : decode cX10_undo 7 = .ok (.ifCond .ne 5, 3) := by decide +kernel
theorem dX10_undo_10 : decode cX10_undo 10 = .ok (.iconst (-1), 1) := by decide +kernel
theorem dX10_undo_11 : decode cX10_undo 11 = .ok (.ireturn, 1) := by decide +kernel
theorem dX10_diary_0 : decode cX10_diary 0 = .ok (.aload_n 0, 1) := by decide +kernel
theorem dX10_diary_1 : decode cX10_diary 1 = .ok (.getfield 58, 3) := by decide +kernel
theorem dX10_diary_4 : decode cX10_diary 4 = .ok (.iload_n 1, 1) := by decide +kernel
theorem dX10_diary_5 : decode cX10_diary 5 = .ok (.invokevirtual 195, 3) := by decide +kernel
theorem dX10_diary_8 : decode cX10_diary 8 = .ok (.ireturn, 1) := by decide +kernel
theorem dX10_judge_0 : decode cX10_judge 0 = .ok (.aload_n 0, 1) := by decide +kernel
theorem dX10_judge_1 : decode cX10_judge 1 = .ok (.getfield 48, 3) := by decide +kernel
theorem dX10_judge_4 : decode cX10_judge 4 = .ok (.getfield 198, 3) := by decide +kernel
theorem dX10_judge_7 : decode cX10_judge 7 = .ok (.ifCond .eq 22, 3) := by decide +kernel
theorem dX10_judge_29 : decode cX10_judge 29 = .ok (.ldc 199, 2) := by decide +kernel
theorem dX10_judge_31 : decode cX10_judge 31 = .ok (.ireturn, 1) := by decide +kernel
theorem dX10_wish_0 : decode cX10_wish 0 = .ok (.aload_n 0, 1) := by decide +kernel
theorem dX10_wish_1 : decode cX10_wish 1 = .ok (.getfield 38, 3) := by decide +kernel
theorem dX10_wish_4 : decode cX10_wish 4 = .ok (.iload_n 1, 1) := by decide +kernel
theorem dX10_wish_5 : decode cX10_wish 5 = .ok (.invokevirtual 122, 3) := by decide +kernel
theorem dX10_wish_8 : decode cX10_wish 8 = .ok (.ifCond .ne 5, 3) := by decide +kernel
theorem dX10_wish_11 : decode cX10_wish 11 = .ok (.iconst 0, 1) := by decide +kernel
theorem dX10_wish_12 : decode cX10_wish 12 = .ok (.ireturn, 1) := by decide +kernel
theorem dX10_done_0 : decode cX10_done 0 = .ok (.aload_n 0, 1) := by decide +kernel
theorem dX10_done_1 : decode cX10_done 1 = .ok (.getfield 38, 3) := by decide +kernel
theorem dX10_done_4 : decode cX10_done 4 = .ok (.getfield 160, 3) := by decide +kernel
theorem dX10_done_7 : decode cX10_done 7 = .ok (.ifCond .ne 5, 3) := by decide +kernel
theorem dX10_done_10 : decode cX10_done 10 = .ok (.iconst (-1), 1) := by decide +kernel
theorem dX10_done_11 : decode cX10_done 11 = .ok (.ireturn, 1) := by decide +kernel
theorem dX10_fewest_0 : decode cX10_fewest 0 = .ok (.aload_n 0, 1) := by decide +kernel
theorem dX10_fewest_1 : decode cX10_fewest 1 = .ok (.invokevirtual 223, 3) := by decide +kernel
theorem dX10_fewest_4 : decode cX10_fewest 4 = .ok (.ifCond .ne 6, 3) := by decide +kernel
theorem dX10_fewest_7 : decode cX10_fewest 7 = .ok (.ldc 199, 2) := by decide +kernel
theorem dX10_fewest_9 : decode cX10_fewest 9 = .ok (.ireturn, 1) := by decide +kernel
theorem dX10_cheapest_0 : decode cX10_cheapest 0 = .ok (.aload_n 0, 1) := by decide +kernel
theorem dX10_cheapest_1 : decode cX10_cheapest 1 = .ok (.invokevirtual 223, 3) := by decide +kernel
theorem dX10_cheapest_4 : decode cX10_cheapest 4 = .ok (.ifCond .eq 19, 3) := by decide +kernel
theorem dX10_cheapest_23 : decode cX10_cheapest 23 = .ok (.ldc 199, 2) := by decide +kernel
theorem dX10_cheapest_25 : decode cX10_cheapest 25 = .ok (.ireturn, 1) := by decide +kernel
theorem dX10_all_0 : decode cX10_all 0 = .ok (.aload_n 0, 1) := by decide +kernel
theorem dX10_all_1 : decode cX10_all 1 = .ok (.invokevirtual 223, 3) := by decide +kernel
theorem dX10_all_4 : decode cX10_all 4 = .ok (.ifCond .eq 12, 3) := by decide +kernel
theorem dX10_all_16 : decode cX10_all 16 = .ok (.ldc 199, 2) := by decide +kernel
theorem dX10_all_18 : decode cX10_all 18 = .ok (.ireturn, 1) := by decide +kernel
theorem dX10_count_0 : decode cX10_count 0 = .ok (.aload_n 0, 1) := by decide +kernel
theorem dX10_count_1 : decode cX10_count 1 = .ok (.invokevirtual 223, 3) := by decide +kernel
theorem dX10_count_4 : decode cX10_count 4 = .ok (.ifCond .eq 13, 3) := by decide +kernel
theorem dX10_count_17 : decode cX10_count 17 = .ok (.ldc 199, 2) := by decide +kernel
theorem dX10_count_19 : decode cX10_count 19 = .ok (.ireturn, 1) := by decide +kernel
theorem dX10_ill_0 : decode cX10_ill 0 = .ok (.aload_n 0, 1) := by decide +kernel
theorem dX10_ill_1 : decode cX10_ill 1 = .ok (.invokevirtual 223, 3) := by decide +kernel
theorem dX10_ill_4 : decode cX10_ill 4 = .ok (.ifCond .eq 14, 3) := by decide +kernel
theorem dX10_ill_18 : decode cX10_ill 18 = .ok (.ldc 199, 2) := by decide +kernel
theorem dX10_ill_20 : decode cX10_ill 20 = .ok (.ireturn, 1) := by decide +kernel
theorem dX10_holds_0 : decode cX10_holds 0 = .ok (.aload_n 0, 1) := by decide +kernel
theorem dX10_holds_1 : decode cX10_holds 1 = .ok (.invokevirtual 223, 3) := by decide +kernel
theorem dX10_holds_4 : decode cX10_holds 4 = .ok (.ifCond .ne 6, 3) := by decide +kernel
theorem dX10_holds_7 : decode cX10_holds 7 = .ok (.ldc 199, 2) := by decide +kernel
theorem dX10_holds_9 : decode cX10_holds 9 = .ok (.ireturn, 1) := by decide +kernel
theorem dX10_sort_0 : decode cX10_sort 0 = .ok (.aload_n 0, 1) := by decide +kernel
theorem dX10_sort_1 : decode cX10_sort 1 = .ok (.getfield 65, 3) := by decide +kernel
theorem dX10_sort_4 : decode cX10_sort 4 = .ok (.aload_n 0, 1) := by decide +kernel
theorem dX10_sort_5 : decode cX10_sort 5 = .ok (.getfield 38, 3) := by decide +kernel
theorem dX10_sort_8 : decode cX10_sort 8 = .ok (.invokevirtual 263, 3) := by decide +kernel
theorem dX10_sort_11 : decode cX10_sort 11 = .ok (.ireturn, 1) := by decide +kernel
theorem dX10_can_0 : decode cX10_can 0 = .ok (.aload_n 0, 1) := by decide +kernel
theorem dX10_can_1 : decode cX10_can 1 = .ok (.getfield 65, 3) := by decide +kernel
theorem dX10_can_4 : decode cX10_can 4 = .ok (.aload_n 0, 1) := by decide +kernel
theorem dX10_can_5 : decode cX10_can 5 = .ok (.getfield 38, 3) := by decide +kernel
theorem dX10_can_8 : decode cX10_can 8 = .ok (.invokevirtual 263, 3) := by decide +kernel
theorem dX10_can_11 : decode cX10_can 11 = .ok (.istore_n 1, 1) := by decide +kernel
theorem dX10_can_12 : decode cX10_can 12 = .ok (.iload_n 1, 1) := by decide +kernel
theorem dX10_can_13 : decode cX10_can 13 = .ok (.iconst (-1), 1) := by decide +kernel
theorem dX10_can_14 : decode cX10_can 14 = .ok (.if_icmp .eq 13, 3) := by decide +kernel
theorem dX10_can_27 : decode cX10_can 27 = .ok (.iconst (-1), 1) := by decide +kernel
theorem dX10_can_28 : decode cX10_can 28 = .ok (.ireturn, 1) := by decide +kernel
theorem dX10_worth_0 : decode cX10_worth 0 = .ok (.aload_n 0, 1) := by decide +kernel
theorem dX10_worth_1 : decode cX10_worth 1 = .ok (.getfield 38, 3) := by decide +kernel
theorem dX10_worth_4 : decode cX10_worth 4 = .ok (.iload_n 1, 1) := by decide +kernel
theorem dX10_worth_5 : decode cX10_worth 5 = .ok (.invokevirtual 136, 3) := by decide +kernel
theorem dX10_worth_8 : decode cX10_worth 8 = .ok (.ifCond .eq 24, 3) := by decide +kernel
theorem dX10_worth_32 : decode cX10_worth 32 = .ok (.iconst 0, 1) := by decide +kernel
theorem dX10_worth_33 : decode cX10_worth 33 = .ok (.ireturn, 1) := by decide +kernel
theorem dX10_seated_0 : decode cX10_seated 0 = .ok (.iload_n 1, 1) := by decide +kernel
theorem dX10_seated_1 : decode cX10_seated 1 = .ok (.iconst (-1), 1) := by decide +kernel
theorem dX10_seated_2 : decode cX10_seated 2 = .ok (.if_icmp .ne 57, 3) := by decide +kernel
theorem dX10_seated_5 : decode cX10_seated 5 = .ok (.aload_n 0, 1) := by decide +kernel
theorem dX10_seated_6 : decode cX10_seated 6 = .ok (.getfield 38, 3) := by decide +kernel
theorem dX10_seated_9 : decode cX10_seated 9 = .ok (.getfield 160, 3) := by decide +kernel
theorem dX10_seated_12 : decode cX10_seated 12 = .ok (.ifCond .le 47, 3) := by decide +kernel
theorem dX10_seated_59 : decode cX10_seated 59 = .ok (.aload_n 0, 1) := by decide +kernel
theorem dX10_seated_60 : decode cX10_seated 60 = .ok (.getfield 38, 3) := by decide +kernel
theorem dX10_seated_63 : decode cX10_seated 63 = .ok (.iload_n 1, 1) := by decide +kernel
theorem dX10_seated_64 : decode cX10_seated 64 = .ok (.invokevirtual 136, 3) := by decide +kernel
theorem dX10_seated_67 : decode cX10_seated 67 = .ok (.ifCond .eq 14, 3) := by decide +kernel
theorem dX10_seated_81 : decode cX10_seated 81 = .ok (.iconst (-1), 1) := by decide +kernel
theorem dX10_seated_82 : decode cX10_seated 82 = .ok (.ireturn, 1) := by decide +kernel
theorem dX10_best_0 : decode cX10_best 0 = .ok (.iload_n 1, 1) := by decide +kernel
theorem dX10_best_1 : decode cX10_best 1 = .ok (.iconst (-1), 1) := by decide +kernel
theorem dX10_best_2 : decode cX10_best 2 = .ok (.if_icmp .ne 25, 3) := by decide +kernel
theorem dX10_best_5 : decode cX10_best 5 = .ok (.aload_n 0, 1) := by decide +kernel
theorem dX10_best_6 : decode cX10_best 6 = .ok (.getfield 38, 3) := by decide +kernel
theorem dX10_best_9 : decode cX10_best 9 = .ok (.getfield 160, 3) := by decide +kernel
theorem dX10_best_12 : decode cX10_best 12 = .ok (.ifCond .le 15, 3) := by decide +kernel
theorem dX10_best_27 : decode cX10_best 27 = .ok (.aload_n 0, 1) := by decide +kernel
theorem dX10_best_28 : decode cX10_best 28 = .ok (.getfield 38, 3) := by decide +kernel
theorem dX10_best_31 : decode cX10_best 31 = .ok (.iload_n 1, 1) := by decide +kernel
theorem dX10_best_32 : decode cX10_best 32 = .ok (.invokevirtual 136, 3) := by decide +kernel
theorem dX10_best_35 : decode cX10_best 35 = .ok (.ifCond .eq 18, 3) := by decide +kernel
theorem dX10_best_53 : decode cX10_best 53 = .ok (.iconst (-1), 1) := by decide +kernel
theorem dX10_best_54 : decode cX10_best 54 = .ok (.ireturn, 1) := by decide +kernel
theorem dX10_gains_0 : decode cX10_gains 0 = .ok (.aload_n 0, 1) := by decide +kernel
theorem dX10_gains_1 : decode cX10_gains 1 = .ok (.getfield 38, 3) := by decide +kernel
theorem dX10_gains_4 : decode cX10_gains 4 = .ok (.iload_n 1, 1) := by decide +kernel
theorem dX10_gains_5 : decode cX10_gains 5 = .ok (.invokevirtual 136, 3) := by decide +kernel
theorem dX10_gains_8 : decode cX10_gains 8 = .ok (.ifCond .eq 12, 3) := by decide +kernel
theorem dX10_gains_20 : decode cX10_gains 20 = .ok (.iconst (-1), 1) := by decide +kernel
theorem dX10_gains_21 : decode cX10_gains 21 = .ok (.ireturn, 1) := by decide +kernel
theorem dX10_exchange_0 : decode cX10_exchange 0 = .ok (.aload_n 0, 1) := by decide +kernel
theorem dX10_exchange_1 : decode cX10_exchange 1 = .ok (.getfield 38, 3) := by decide +kernel
theorem dX10_exchange_4 : decode cX10_exchange 4 = .ok (.iload_n 1, 1) := by decide +kernel
theorem dX10_exchange_5 : decode cX10_exchange 5 = .ok (.invokevirtual 136, 3) := by decide +kernel
theorem dX10_exchange_8 : decode cX10_exchange 8 = .ok (.ifCond .ne 5, 3) := by decide +kernel
theorem dX10_exchange_11 : decode cX10_exchange 11 = .ok (.iconst (-1), 1) := by decide +kernel
theorem dX10_exchange_12 : decode cX10_exchange 12 = .ok (.ireturn, 1) := by decide +kernel
theorem dX10_agree_0 : decode cX10_agree 0 = .ok (.aload_n 0, 1) := by decide +kernel
theorem dX10_agree_1 : decode cX10_agree 1 = .ok (.getfield 38, 3) := by decide +kernel
theorem dX10_agree_4 : decode cX10_agree 4 = .ok (.getfield 160, 3) := by decide +kernel
theorem dX10_agree_7 : decode cX10_agree 7 = .ok (.ifCond .eq 8, 3) := by decide +kernel
theorem dX10_agree_15 : decode cX10_agree 15 = .ok (.iconst (-1), 1) := by decide +kernel
theorem dX10_agree_16 : decode cX10_agree 16 = .ok (.ireturn, 1) := by decide +kernel
theorem dX10_vote_0 : decode cX10_vote 0 = .ok (.aload_n 0, 1) := by decide +kernel
theorem dX10_vote_1 : decode cX10_vote 1 = .ok (.getfield 38, 3) := by decide +kernel
theorem dX10_vote_4 : decode cX10_vote 4 = .ok (.iload_n 1, 1) := by decide +kernel
theorem dX10_vote_5 : decode cX10_vote 5 = .ok (.invokevirtual 122, 3) := by decide +kernel
theorem dX10_vote_8 : decode cX10_vote 8 = .ok (.ifCond .eq 19, 3) := by decide +kernel
theorem dX10_vote_27 : decode cX10_vote 27 = .ok (.ldc 199, 2) := by decide +kernel
theorem dX10_vote_29 : decode cX10_vote 29 = .ok (.ireturn, 1) := by decide +kernel
theorem dX10_image_0 : decode cX10_image 0 = .ok (.aload_n 0, 1) := by decide +kernel
theorem dX10_image_1 : decode cX10_image 1 = .ok (.getfield 38, 3) := by decide +kernel
theorem dX10_image_4 : decode cX10_image 4 = .ok (.getfield 160, 3) := by decide +kernel
theorem dX10_image_7 : decode cX10_image 7 = .ok (.ifCond .ne 5, 3) := by decide +kernel
theorem dX10_image_10 : decode cX10_image 10 = .ok (.iconst (-1), 1) := by decide +kernel
theorem dX10_image_11 : decode cX10_image 11 = .ok (.ireturn, 1) := by decide +kernel
theorem dX10_back_0 : decode cX10_back 0 = .ok (.aload_n 0, 1) := by decide +kernel
theorem dX10_back_1 : decode cX10_back 1 = .ok (.getfield 58, 3) := by decide +kernel
theorem dX10_back_4 : decode cX10_back 4 = .ok (.getfield 317, 3) := by decide +kernel
theorem dX10_back_7 : decode cX10_back 7 = .ok (.ifCond .ne 5, 3) := by decide +kernel
theorem dX10_back_10 : decode cX10_back 10 = .ok (.iconst (-1), 1) := by decide +kernel
theorem dX10_back_11 : decode cX10_back 11 = .ok (.ireturn, 1) := by decide +kernel
theorem dX10_told_0 : decode cX10_told 0 = .ok (.iload_n 1, 1) := by decide +kernel
theorem dX10_told_1 : decode cX10_told 1 = .ok (.tableswitch 107 0 6 #[43, 51, 59, 64, 72, 94, 102], 43) := by decide +kernel
theorem dX10_told_44 : decode cX10_told 44 = .ok (.aload_n 0, 1) := by decide +kernel
theorem dX10_told_45 : decode cX10_told 45 = .ok (.getfield 38, 3) := by decide +kernel
theorem dX10_told_48 : decode cX10_told 48 = .ok (.getfield 160, 3) := by decide +kernel
theorem dX10_told_51 : decode cX10_told 51 = .ok (.ireturn, 1) := by decide +kernel
theorem dX10_told_52 : decode cX10_told 52 = .ok (.aload_n 0, 1) := by decide +kernel
theorem dX10_told_53 : decode cX10_told 53 = .ok (.getfield 38, 3) := by decide +kernel
theorem dX10_told_56 : decode cX10_told 56 = .ok (.getfield 324, 3) := by decide +kernel
theorem dX10_told_59 : decode cX10_told 59 = .ok (.ireturn, 1) := by decide +kernel
theorem dX10_told_60 : decode cX10_told 60 = .ok (.aload_n 0, 1) := by decide +kernel
theorem dX10_told_61 : decode cX10_told 61 = .ok (.getfield 163, 3) := by decide +kernel
theorem dX10_told_64 : decode cX10_told 64 = .ok (.ireturn, 1) := by decide +kernel
theorem dX10_told_65 : decode cX10_told 65 = .ok (.aload_n 0, 1) := by decide +kernel
theorem dX10_told_66 : decode cX10_told 66 = .ok (.getfield 10, 3) := by decide +kernel
theorem dX10_told_69 : decode cX10_told 69 = .ok (.getfield 93, 3) := by decide +kernel
theorem dX10_told_72 : decode cX10_told 72 = .ok (.ireturn, 1) := by decide +kernel
theorem dX10_told_73 : decode cX10_told 73 = .ok (.aload_n 0, 1) := by decide +kernel
theorem dX10_told_74 : decode cX10_told 74 = .ok (.getfield 48, 3) := by decide +kernel
theorem dX10_told_77 : decode cX10_told 77 = .ok (.getfield 198, 3) := by decide +kernel
theorem dX10_told_80 : decode cX10_told 80 = .ok (.ifCond .le 13, 3) := by decide +kernel
theorem dX10_told_93 : decode cX10_told 93 = .ok (.iconst (-1), 1) := by decide +kernel
theorem dX10_told_94 : decode cX10_told 94 = .ok (.ireturn, 1) := by decide +kernel
theorem dX10_told_95 : decode cX10_told 95 = .ok (.aload_n 0, 1) := by decide +kernel
theorem dX10_told_96 : decode cX10_told 96 = .ok (.getfield 58, 3) := by decide +kernel
theorem dX10_told_99 : decode cX10_told 99 = .ok (.getfield 188, 3) := by decide +kernel
theorem dX10_told_102 : decode cX10_told 102 = .ok (.ireturn, 1) := by decide +kernel
theorem dX10_told_103 : decode cX10_told 103 = .ok (.aload_n 0, 1) := by decide +kernel
theorem dX10_told_104 : decode cX10_told 104 = .ok (.getfield 31, 3) := by decide +kernel
theorem dX10_told_107 : decode cX10_told 107 = .ok (.ireturn, 1) := by decide +kernel
theorem dX10_told_108 : decode cX10_told 108 = .ok (.ldc 199, 2) := by decide +kernel
theorem dX10_told_110 : decode cX10_told 110 = .ok (.ireturn, 1) := by decide +kernel
theorem dX10_takeOffice_0 : decode cX10_takeOffice 0 = .ok (.aload_n 0, 1) := by decide +kernel
theorem dX10_takeOffice_1 : decode cX10_takeOffice 1 = .ok (.getfield 42, 3) := by decide +kernel
theorem dX10_takeOffice_4 : decode cX10_takeOffice 4 = .ok (.aload_n 0, 1) := by decide +kernel
theorem dX10_takeOffice_5 : decode cX10_takeOffice 5 = .ok (.getfield 10, 3) := by decide +kernel
theorem dX10_takeOffice_8 : decode cX10_takeOffice 8 = .ok (.invokevirtual 100, 3) := by decide +kernel
theorem dX10_takeOffice_11 : decode cX10_takeOffice 11 = .ok (.ifCond .ne 5, 3) := by decide +kernel
theorem dX10_takeOffice_14 : decode cX10_takeOffice 14 = .ok (.iconst (-1), 1) := by decide +kernel
theorem dX10_takeOffice_15 : decode cX10_takeOffice 15 = .ok (.ireturn, 1) := by decide +kernel
theorem dX10_takeLaw_0 : decode cX10_takeLaw 0 = .ok (.aload_n 0, 1) := by decide +kernel
theorem dX10_takeLaw_1 : decode cX10_takeLaw 1 = .ok (.getfield 163, 3) := by decide +kernel
theorem dX10_takeLaw_4 : decode cX10_takeLaw 4 = .ok (.iconst 4, 1) := by decide +kernel
theorem dX10_takeLaw_5 : decode cX10_takeLaw 5 = .ok (.if_icmp .ge 13, 3) := by decide +kernel
theorem dX10_takeLaw_8 : decode cX10_takeLaw 8 = .ok (.aload_n 0, 1) := by decide +kernel
theorem dX10_takeLaw_9 : decode cX10_takeLaw 9 = .ok (.getfield 21, 3) := by decide +kernel
theorem dX10_takeLaw_12 : decode cX10_takeLaw 12 = .ok (.invokevirtual 104, 3) := by decide +kernel
theorem dX10_takeLaw_15 : decode cX10_takeLaw 15 = .ok (.ifCond .ne 5, 3) := by decide +kernel
theorem dX10_takeLaw_18 : decode cX10_takeLaw 18 = .ok (.iconst (-1), 1) := by decide +kernel
theorem dX10_takeLaw_19 : decode cX10_takeLaw 19 = .ok (.ireturn, 1) := by decide +kernel
theorem dX10_takePlan_0 : decode cX10_takePlan 0 = .ok (.aload_n 0, 1) := by decide +kernel
theorem dX10_takePlan_1 : decode cX10_takePlan 1 = .ok (.getfield 38, 3) := by decide +kernel
theorem dX10_takePlan_4 : decode cX10_takePlan 4 = .ok (.getfield 160, 3) := by decide +kernel
theorem dX10_takePlan_7 : decode cX10_takePlan 7 = .ok (.ifCond .eq 17, 3) := by decide +kernel
theorem dX10_takePlan_24 : decode cX10_takePlan 24 = .ok (.iconst (-1), 1) := by decide +kernel
theorem dX10_takePlan_25 : decode cX10_takePlan 25 = .ok (.ireturn, 1) := by decide +kernel
theorem dX10_lawOf_0 : decode cX10_lawOf 0 = .ok (.iload_n 1, 1) := by decide +kernel
theorem dX10_lawOf_1 : decode cX10_lawOf 1 = .ok (.ifCond .lt 20, 3) := by decide +kernel
theorem dX10_lawOf_21 : decode cX10_lawOf 21 = .ok (.aconst_null, 1) := by decide +kernel
theorem dX10_lawOf_22 : decode cX10_lawOf 22 = .ok (.areturn, 1) := by decide +kernel
theorem dX10_isSearched_0 : decode cX10_isSearched 0 = .ok (.aload_n 0, 1) := by decide +kernel
theorem dX10_isSearched_1 : decode cX10_isSearched 1 = .ok (.getfield 38, 3) := by decide +kernel
theorem dX10_isSearched_4 : decode cX10_isSearched 4 = .ok (.getfield 160, 3) := by decide +kernel
theorem dX10_isSearched_7 : decode cX10_isSearched 7 = .ok (.ifCond .le 19, 3) := by decide +kernel
theorem dX10_isSearched_26 : decode cX10_isSearched 26 = .ok (.iconst 0, 1) := by decide +kernel
theorem dX10_isSearched_27 : decode cX10_isSearched 27 = .ok (.ireturn, 1) := by decide +kernel
theorem dX11_in_0 : decode cX11_in 0 = .ok (.iload_n 0, 1) := by decide +kernel
theorem dX11_in_1 : decode cX11_in 1 = .ok (.iload_n 1, 1) := by decide +kernel
theorem dX11_in_2 : decode cX11_in 2 = .ok (.if_icmp .lt 12, 3) := by decide +kernel
theorem dX11_in_5 : decode cX11_in 5 = .ok (.iload_n 0, 1) := by decide +kernel
theorem dX11_in_6 : decode cX11_in 6 = .ok (.iload_n 2, 1) := by decide +kernel
theorem dX11_in_7 : decode cX11_in 7 = .ok (.if_icmp .gt 7, 3) := by decide +kernel
theorem dX11_in_10 : decode cX11_in 10 = .ok (.iconst 1, 1) := by decide +kernel
theorem dX11_in_11 : decode cX11_in 11 = .ok (.goto 4, 3) := by decide +kernel
theorem dX11_in_14 : decode cX11_in 14 = .ok (.iconst 0, 1) := by decide +kernel
theorem dX11_in_15 : decode cX11_in 15 = .ok (.ireturn, 1) := by decide +kernel
theorem dX11_init_0 : decode cX11_init 0 = .ok (.aload_n 0, 1) := by decide +kernel
theorem dX11_init_1 : decode cX11_init 1 = .ok (.invokespecial 3, 3) := by decide +kernel
theorem dX11_init_4 : decode cX11_init 4 = .ok (.aload_n 0, 1) := by decide +kernel
theorem dX11_init_5 : decode cX11_init 5 = .ok (.sipush 160, 3) := by decide +kernel
theorem dX11_init_8 : decode cX11_init 8 = .ok (.newarray .int, 2) := by decide +kernel
theorem dX11_init_10 : decode cX11_init 10 = .ok (.putfield 9, 3) := by decide +kernel
theorem dX11_init_13 : decode cX11_init 13 = .ok (.aload_n 0, 1) := by decide +kernel
theorem dX11_init_14 : decode cX11_init 14 = .ok (.sipush 1700, 3) := by decide +kernel
theorem dX11_init_17 : decode cX11_init 17 = .ok (.newarray .int, 2) := by decide +kernel
theorem dX11_init_19 : decode cX11_init 19 = .ok (.putfield 13, 3) := by decide +kernel
theorem dX11_init_22 : decode cX11_init 22 = .ok (.aload_n 0, 1) := by decide +kernel
theorem dX11_init_23 : decode cX11_init 23 = .ok (.sipush 1700, 3) := by decide +kernel
theorem dX11_init_26 : decode cX11_init 26 = .ok (.newarray .int, 2) := by decide +kernel
theorem dX11_init_28 : decode cX11_init 28 = .ok (.putfield 16, 3) := by decide +kernel
theorem dX11_init_31 : decode cX11_init 31 = .ok (.aload_n 0, 1) := by decide +kernel
theorem dX11_init_32 : decode cX11_init 32 = .ok (.iconst 5, 1) := by decide +kernel
theorem dX11_init_33 : decode cX11_init 33 = .ok (.newarray .int, 2) := by decide +kernel
theorem dX11_init_35 : decode cX11_init 35 = .ok (.putfield 19, 3) := by decide +kernel
theorem dX11_init_38 : decode cX11_init 38 = .ok (.aload_n 0, 1) := by decide +kernel
theorem dX11_init_39 : decode cX11_init 39 = .ok (.iconst 5, 1) := by decide +kernel
theorem dX11_init_40 : decode cX11_init 40 = .ok (.newarray .int, 2) := by decide +kernel
theorem dX11_init_42 : decode cX11_init 42 = .ok (.putfield 22, 3) := by decide +kernel
theorem dX11_init_45 : decode cX11_init 45 = .ok (.aload_n 0, 1) := by decide +kernel
theorem dX11_init_46 : decode cX11_init 46 = .ok (.sipush 450, 3) := by decide +kernel
theorem dX11_init_49 : decode cX11_init 49 = .ok (.newarray .int, 2) := by decide +kernel
theorem dX11_init_51 : decode cX11_init 51 = .ok (.putfield 25, 3) := by decide +kernel
theorem dX11_init_54 : decode cX11_init 54 = .ok (.aload_n 0, 1) := by decide +kernel
theorem dX11_init_55 : decode cX11_init 55 = .ok (.sipush 450, 3) := by decide +kernel
theorem dX11_init_58 : decode cX11_init 58 = .ok (.newarray .int, 2) := by decide +kernel
theorem dX11_init_60 : decode cX11_init 60 = .ok (.putfield 28, 3) := by decide +kernel
theorem dX11_init_63 : decode cX11_init 63 = .ok (.aload_n 0, 1) := by decide +kernel
theorem dX11_init_64 : decode cX11_init 64 = .ok (.sipush 450, 3) := by decide +kernel
theorem dX11_init_67 : decode cX11_init 67 = .ok (.newarray .int, 2) := by decide +kernel
theorem dX11_init_69 : decode cX11_init 69 = .ok (.putfield 31, 3) := by decide +kernel
theorem dX11_init_72 : decode cX11_init 72 = .ok (.aload_n 0, 1) := by decide +kernel
theorem dX11_init_73 : decode cX11_init 73 = .ok (.bipush 8, 2) := by decide +kernel
theorem dX11_init_75 : decode cX11_init 75 = .ok (.newarray .int, 2) := by decide +kernel
theorem dX11_init_77 : decode cX11_init 77 = .ok (.putfield 34, 3) := by decide +kernel
theorem dX11_init_80 : decode cX11_init 80 = .ok (.aload_n 0, 1) := by decide +kernel
theorem dX11_init_81 : decode cX11_init 81 = .ok (.bipush 80, 2) := by decide +kernel
theorem dX11_init_83 : decode cX11_init 83 = .ok (.newarray .int, 2) := by decide +kernel
theorem dX11_init_85 : decode cX11_init 85 = .ok (.putfield 37, 3) := by decide +kernel
theorem dX11_init_88 : decode cX11_init 88 = .ok (.aload_n 0, 1) := by decide +kernel
theorem dX11_init_89 : decode cX11_init 89 = .ok (.bipush 12, 2) := by decide +kernel
theorem dX11_init_91 : decode cX11_init 91 = .ok (.newarray .int, 2) := by decide +kernel
theorem dX11_init_93 : decode cX11_init 93 = .ok (.putfield 40, 3) := by decide +kernel
theorem dX11_init_96 : decode cX11_init 96 = .ok (.aload_n 0, 1) := by decide +kernel
theorem dX11_init_97 : decode cX11_init 97 = .ok (.sipush 144, 3) := by decide +kernel
theorem dX11_init_100 : decode cX11_init 100 = .ok (.newarray .int, 2) := by decide +kernel
theorem dX11_init_102 : decode cX11_init 102 = .ok (.putfield 43, 3) := by decide +kernel
theorem dX11_init_105 : decode cX11_init 105 = .ok (.aload_n 0, 1) := by decide +kernel
theorem dX11_init_106 : decode cX11_init 106 = .ok (.bipush 12, 2) := by decide +kernel
theorem dX11_init_108 : decode cX11_init 108 = .ok (.newarray .int, 2) := by decide +kernel
theorem dX11_init_110 : decode cX11_init 110 = .ok (.putfield 46, 3) := by decide +kernel
theorem dX11_init_113 : decode cX11_init 113 = .ok (.aload_n 0, 1) := by decide +kernel
theorem dX11_init_114 : decode cX11_init 114 = .ok (.bipush 12, 2) := by decide +kernel
theorem dX11_init_116 : decode cX11_init 116 = .ok (.newarray .int, 2) := by decide +kernel
theorem dX11_init_118 : decode cX11_init 118 = .ok (.putfield 49, 3) := by decide +kernel
theorem dX11_init_121 : decode cX11_init 121 = .ok (.aload_n 0, 1) := by decide +kernel
theorem dX11_init_122 : decode cX11_init 122 = .ok (.sipush 144, 3) := by decide +kernel
theorem dX11_init_125 : decode cX11_init 125 = .ok (.newarray .int, 2) := by decide +kernel
theorem dX11_init_127 : decode cX11_init 127 = .ok (.putfield 52, 3) := by decide +kernel
theorem dX11_init_130 : decode cX11_init 130 = .ok (.aload_n 0, 1) := by decide +kernel
theorem dX11_init_131 : decode cX11_init 131 = .ok (.bipush 12, 2) := by decide +kernel
theorem dX11_init_133 : decode cX11_init 133 = .ok (.newarray .int, 2) := by decide +kernel
theorem dX11_init_135 : decode cX11_init 135 = .ok (.putfield 55, 3) := by decide +kernel
theorem dX11_init_138 : decode cX11_init 138 = .ok (.aload_n 0, 1) := by decide +kernel
theorem dX11_init_139 : decode cX11_init 139 = .ok (.bipush 40, 2) := by decide +kernel
theorem dX11_init_141 : decode cX11_init 141 = .ok (.newarray .int, 2) := by decide +kernel
theorem dX11_init_143 : decode cX11_init 143 = .ok (.putfield 58, 3) := by decide +kernel
theorem dX11_init_146 : decode cX11_init 146 = .ok (.aload_n 0, 1) := by decide +kernel
theorem dX11_init_147 : decode cX11_init 147 = .ok (.bipush 40, 2) := by decide +kernel
theorem dX11_init_149 : decode cX11_init 149 = .ok (.newarray .int, 2) := by decide +kernel
theorem dX11_init_151 : decode cX11_init 151 = .ok (.putfield 61, 3) := by decide +kernel
theorem dX11_init_154 : decode cX11_init 154 = .ok (.aload_n 0, 1) := by decide +kernel
theorem dX11_init_155 : decode cX11_init 155 = .ok (.iconst (-1), 1) := by decide +kernel
theorem dX11_init_156 : decode cX11_init 156 = .ok (.putfield 64, 3) := by decide +kernel
theorem dX11_init_159 : decode cX11_init 159 = .ok (.aload_n 0, 1) := by decide +kernel
theorem dX11_init_160 : decode cX11_init 160 = .ok (.bipush 12, 2) := by decide +kernel
theorem dX11_init_162 : decode cX11_init 162 = .ok (.newarray .int, 2) := by decide +kernel
theorem dX11_init_164 : decode cX11_init 164 = .ok (.putfield 68, 3) := by decide +kernel
theorem dX11_init_167 : decode cX11_init 167 = .ok (.aload_n 0, 1) := by decide +kernel
theorem dX11_init_168 : decode cX11_init 168 = .ok (.bipush 12, 2) := by decide +kernel
theorem dX11_init_170 : decode cX11_init 170 = .ok (.newarray .int, 2) := by decide +kernel
theorem dX11_init_172 : decode cX11_init 172 = .ok (.putfield 71, 3) := by decide +kernel
theorem dX11_init_175 : decode cX11_init 175 = .ok (.aload_n 0, 1) := by decide +kernel
theorem dX11_init_176 : decode cX11_init 176 = .ok (.iconst (-1), 1) := by decide +kernel
theorem dX11_init_177 : decode cX11_init 177 = .ok (.putfield 74, 3) := by decide +kernel
theorem dX11_init_180 : decode cX11_init 180 = .ok (.aload_n 0, 1) := by decide +kernel
theorem dX11_init_181 : decode cX11_init 181 = .ok (.bipush 100, 2) := by decide +kernel
theorem dX11_init_183 : decode cX11_init 183 = .ok (.newarray .int, 2) := by decide +kernel
theorem dX11_init_185 : decode cX11_init 185 = .ok (.putfield 77, 3) := by decide +kernel
theorem dX11_init_188 : decode cX11_init 188 = .ok (.aload_n 0, 1) := by decide +kernel
theorem dX11_init_189 : decode cX11_init 189 = .ok (.bipush 100, 2) := by decide +kernel
theorem dX11_init_191 : decode cX11_init 191 = .ok (.newarray .int, 2) := by decide +kernel
theorem dX11_init_193 : decode cX11_init 193 = .ok (.putfield 80, 3) := by decide +kernel
theorem dX11_init_196 : decode cX11_init 196 = .ok (.aload_n 0, 1) := by decide +kernel
theorem dX11_init_197 : decode cX11_init 197 = .ok (.bipush 12, 2) := by decide +kernel
theorem dX11_init_199 : decode cX11_init 199 = .ok (.newarray .int, 2) := by decide +kernel
theorem dX11_init_201 : decode cX11_init 201 = .ok (.putfield 83, 3) := by decide +kernel
theorem dX11_init_204 : decode cX11_init 204 = .ok (.aload_n 0, 1) := by decide +kernel
theorem dX11_init_205 : decode cX11_init 205 = .ok (.bipush 12, 2) := by decide +kernel
theorem dX11_init_207 : decode cX11_init 207 = .ok (.newarray .int, 2) := by decide +kernel
theorem dX11_init_209 : decode cX11_init 209 = .ok (.putfield 86, 3) := by decide +kernel
theorem dX11_init_212 : decode cX11_init 212 = .ok (.aload_n 0, 1) := by decide +kernel
theorem dX11_init_213 : decode cX11_init 213 = .ok (.ldc 89, 2) := by decide +kernel
theorem dX11_init_215 : decode cX11_init 215 = .ok (.newarray .int, 2) := by decide +kernel
theorem dX11_init_217 : decode cX11_init 217 = .ok (.putfield 90, 3) := by decide +kernel
theorem dX11_init_220 : decode cX11_init 220 = .ok (.aload_n 0, 1) := by decide +kernel
theorem dX11_init_221 : decode cX11_init 221 = .ok (.ldc 89, 2) := by decide +kernel
theorem dX11_init_223 : decode cX11_init 223 = .ok (.newarray .int, 2) := by decide +kernel
theorem dX11_init_225 : decode cX11_init 225 = .ok (.putfield 93, 3) := by decide +kernel
theorem dX11_init_228 : decode cX11_init 228 = .ok (.aload_n 0, 1) := by decide +kernel
theorem dX11_init_229 : decode cX11_init 229 = .ok (.ldc 96, 2) := by decide +kernel
theorem dX11_init_231 : decode cX11_init 231 = .ok (.newarray .int, 2) := by decide +kernel
theorem dX11_init_233 : decode cX11_init 233 = .ok (.putfield 97, 3) := by decide +kernel
theorem dX11_init_236 : decode cX11_init 236 = .ok (.aload_n 0, 1) := by decide +kernel
theorem dX11_init_237 : decode cX11_init 237 = .ok (.ldc 96, 2) := by decide +kernel
theorem dX11_init_239 : decode cX11_init 239 = .ok (.newarray .int, 2) := by decide +kernel
theorem dX11_init_241 : decode cX11_init 241 = .ok (.putfield 100, 3) := by decide +kernel
theorem dX11_init_244 : decode cX11_init 244 = .ok (.aload_n 0, 1) := by decide +kernel
theorem dX11_init_245 : decode cX11_init 245 = .ok (.ldc 96, 2) := by decide +kernel
theorem dX11_init_247 : decode cX11_init 247 = .ok (.newarray .int, 2) := by decide +kernel
theorem dX11_init_249 : decode cX11_init 249 = .ok (.putfield 103, 3) := by decide +kernel
theorem dX11_init_252 : decode cX11_init 252 = .ok (.aload_n 0, 1) := by decide +kernel
theorem dX11_init_253 : decode cX11_init 253 = .ok (.ldc 106, 2) := by decide +kernel
theorem dX11_init_255 : decode cX11_init 255 = .ok (.newarray .int, 2) := by decide +kernel
theorem dX11_init_257 : decode cX11_init 257 = .ok (.putfield 107, 3) := by decide +kernel
theorem dX11_init_260 : decode cX11_init 260 = .ok (.aload_n 0, 1) := by decide +kernel
theorem dX11_init_261 : decode cX11_init 261 = .ok (.ldc 110, 2) := by decide +kernel
theorem dX11_init_263 : decode cX11_init 263 = .ok (.newarray .int, 2) := by decide +kernel
theorem dX11_init_265 : decode cX11_init 265 = .ok (.putfield 111, 3) := by decide +kernel
theorem dX11_init_268 : decode cX11_init 268 = .ok (.aload_n 0, 1) := by decide +kernel
theorem dX11_init_269 : decode cX11_init 269 = .ok (.ldc 110, 2) := by decide +kernel
theorem dX11_init_271 : decode cX11_init 271 = .ok (.newarray .int, 2) := by decide +kernel
theorem dX11_init_273 : decode cX11_init 273 = .ok (.putfield 114, 3) := by decide +kernel
theorem dX11_init_276 : decode cX11_init 276 = .ok (.aload_n 0, 1) := by decide +kernel
theorem dX11_init_277 : decode cX11_init 277 = .ok (.bipush 12, 2) := by decide +kernel
theorem dX11_init_279 : decode cX11_init 279 = .ok (.newarray .int, 2) := by decide +kernel
theorem dX11_init_281 : decode cX11_init 281 = .ok (.putfield 117, 3) := by decide +kernel
theorem dX11_init_284 : decode cX11_init 284 = .ok (.aload_n 0, 1) := by decide +kernel
theorem dX11_init_285 : decode cX11_init 285 = .ok (.bipush 12, 2) := by decide +kernel
theorem dX11_init_287 : decode cX11_init 287 = .ok (.newarray .int, 2) := by decide +kernel
theorem dX11_init_289 : decode cX11_init 289 = .ok (.putfield 120, 3) := by decide +kernel
theorem dX11_init_292 : decode cX11_init 292 = .ok (.aload_n 0, 1) := by decide +kernel
theorem dX11_init_293 : decode cX11_init 293 = .ok (.bipush 12, 2) := by decide +kernel
theorem dX11_init_295 : decode cX11_init 295 = .ok (.newarray .int, 2) := by decide +kernel
theorem dX11_init_297 : decode cX11_init 297 = .ok (.putfield 123, 3) := by decide +kernel
theorem dX11_init_300 : decode cX11_init 300 = .ok (.aload_n 0, 1) := by decide +kernel
theorem dX11_init_301 : decode cX11_init 301 = .ok (.sipush 144, 3) := by decide +kernel
theorem dX11_init_304 : decode cX11_init 304 = .ok (.newarray .int, 2) := by decide +kernel
theorem dX11_init_306 : decode cX11_init 306 = .ok (.putfield 126, 3) := by decide +kernel
theorem dX11_init_309 : decode cX11_init 309 = .ok (.aload_n 0, 1) := by decide +kernel
theorem dX11_init_310 : decode cX11_init 310 = .ok (.sipush 4096, 3) := by decide +kernel
theorem dX11_init_313 : decode cX11_init 313 = .ok (.newarray .int, 2) := by decide +kernel
theorem dX11_init_315 : decode cX11_init 315 = .ok (.putfield 129, 3) := by decide +kernel
theorem dX11_init_318 : decode cX11_init 318 = .ok (.aload_n 0, 1) := by decide +kernel
theorem dX11_init_319 : decode cX11_init 319 = .ok (.iconst (-1), 1) := by decide +kernel
theorem dX11_init_320 : decode cX11_init 320 = .ok (.putfield 132, 3) := by decide +kernel
theorem dX11_init_323 : decode cX11_init 323 = .ok (.aload_n 0, 1) := by decide +kernel
theorem dX11_init_324 : decode cX11_init 324 = .ok (.bipush 12, 2) := by decide +kernel
theorem dX11_init_326 : decode cX11_init 326 = .ok (.newarray .int, 2) := by decide +kernel
theorem dX11_init_328 : decode cX11_init 328 = .ok (.putfield 135, 3) := by decide +kernel
theorem dX11_init_331 : decode cX11_init 331 = .ok (.aload_n 0, 1) := by decide +kernel
theorem dX11_init_332 : decode cX11_init 332 = .ok (.bipush 12, 2) := by decide +kernel
theorem dX11_init_334 : decode cX11_init 334 = .ok (.newarray .int, 2) := by decide +kernel
theorem dX11_init_336 : decode cX11_init 336 = .ok (.putfield 138, 3) := by decide +kernel
theorem dX11_init_339 : decode cX11_init 339 = .ok (.aload_n 0, 1) := by decide +kernel
theorem dX11_init_340 : decode cX11_init 340 = .ok (.bipush 12, 2) := by decide +kernel
theorem dX11_init_342 : decode cX11_init 342 = .ok (.newarray .int, 2) := by decide +kernel
theorem dX11_init_344 : decode cX11_init 344 = .ok (.putfield 141, 3) := by decide +kernel
theorem dX11_init_347 : decode cX11_init 347 = .ok (.aload_n 0, 1) := by decide +kernel
theorem dX11_init_348 : decode cX11_init 348 = .ok (.bipush 12, 2) := by decide +kernel
theorem dX11_init_350 : decode cX11_init 350 = .ok (.newarray .int, 2) := by decide +kernel
theorem dX11_init_352 : decode cX11_init 352 = .ok (.putfield 144, 3) := by decide +kernel
theorem dX11_init_355 : decode cX11_init 355 = .ok (.aload_n 0, 1) := by decide +kernel
theorem dX11_init_356 : decode cX11_init 356 = .ok (.bipush 100, 2) := by decide +kernel
theorem dX11_init_358 : decode cX11_init 358 = .ok (.newarray .int, 2) := by decide +kernel
theorem dX11_init_360 : decode cX11_init 360 = .ok (.putfield 147, 3) := by decide +kernel
theorem dX11_init_363 : decode cX11_init 363 = .ok (.aload_n 0, 1) := by decide +kernel
theorem dX11_init_364 : decode cX11_init 364 = .ok (.bipush 100, 2) := by decide +kernel
theorem dX11_init_366 : decode cX11_init 366 = .ok (.newarray .int, 2) := by decide +kernel
theorem dX11_init_368 : decode cX11_init 368 = .ok (.putfield 150, 3) := by decide +kernel
theorem dX11_init_371 : decode cX11_init 371 = .ok (.return_, 1) := by decide +kernel
theorem dX11_thrown_0 : decode cX11_thrown 0 = .ok (.aload_n 0, 1) := by decide +kernel
theorem dX11_thrown_1 : decode cX11_thrown 1 = .ok (.getfield 153, 3) := by decide +kernel
theorem dX11_thrown_4 : decode cX11_thrown 4 = .ok (.ireturn, 1) := by decide +kernel
theorem dX11_byteOf_0 : decode cX11_byteOf 0 = .ok (.iload 5, 2) := by decide +kernel
theorem dX11_byteOf_2 : decode cX11_byteOf 2 = .ok (.iconst 4, 1) := by decide +kernel
theorem dX11_byteOf_3 : decode cX11_byteOf 3 = .ok (.if_icmp .ge 7, 3) := by decide +kernel
theorem dX11_byteOf_6 : decode cX11_byteOf 6 = .ok (.iload_n 0, 1) := by decide +kernel
theorem dX11_byteOf_7 : decode cX11_byteOf 7 = .ok (.goto 38, 3) := by decide +kernel
theorem dX11_byteOf_10 : decode cX11_byteOf 10 = .ok (.iload 5, 2) := by decide +kernel
theorem dX11_byteOf_12 : decode cX11_byteOf 12 = .ok (.bipush 8, 2) := by decide +kernel
theorem dX11_byteOf_14 : decode cX11_byteOf 14 = .ok (.if_icmp .ge 7, 3) := by decide +kernel
theorem dX11_byteOf_17 : decode cX11_byteOf 17 = .ok (.iload_n 1, 1) := by decide +kernel
theorem dX11_byteOf_18 : decode cX11_byteOf 18 = .ok (.goto 27, 3) := by decide +kernel
theorem dX11_byteOf_21 : decode cX11_byteOf 21 = .ok (.iload 5, 2) := by decide +kernel
theorem dX11_byteOf_23 : decode cX11_byteOf 23 = .ok (.bipush 12, 2) := by decide +kernel
theorem dX11_byteOf_25 : decode cX11_byteOf 25 = .ok (.if_icmp .ge 7, 3) := by decide +kernel
theorem dX11_byteOf_28 : decode cX11_byteOf 28 = .ok (.iload_n 2, 1) := by decide +kernel
theorem dX11_byteOf_29 : decode cX11_byteOf 29 = .ok (.goto 16, 3) := by decide +kernel
theorem dX11_byteOf_32 : decode cX11_byteOf 32 = .ok (.iload 5, 2) := by decide +kernel
theorem dX11_byteOf_34 : decode cX11_byteOf 34 = .ok (.bipush 16, 2) := by decide +kernel
theorem dX11_byteOf_36 : decode cX11_byteOf 36 = .ok (.if_icmp .ge 7, 3) := by decide +kernel
theorem dX11_byteOf_39 : decode cX11_byteOf 39 = .ok (.iload_n 3, 1) := by decide +kernel
theorem dX11_byteOf_40 : decode cX11_byteOf 40 = .ok (.goto 5, 3) := by decide +kernel
theorem dX11_byteOf_43 : decode cX11_byteOf 43 = .ok (.iload 4, 2) := by decide +kernel
theorem dX11_byteOf_45 : decode cX11_byteOf 45 = .ok (.istore 6, 2) := by decide +kernel
theorem dX11_byteOf_47 : decode cX11_byteOf 47 = .ok (.iload 6, 2) := by decide +kernel
theorem dX11_byteOf_49 : decode cX11_byteOf 49 = .ok (.bipush 24, 2) := by decide +kernel
theorem dX11_byteOf_51 : decode cX11_byteOf 51 = .ok (.bipush 8, 2) := by decide +kernel
theorem dX11_byteOf_53 : decode cX11_byteOf 53 = .ok (.iload 5, 2) := by decide +kernel
theorem dX11_byteOf_55 : decode cX11_byteOf 55 = .ok (.iconst 4, 1) := by decide +kernel
theorem dX11_byteOf_56 : decode cX11_byteOf 56 = .ok (.irem, 1) := by decide +kernel
theorem dX11_byteOf_57 : decode cX11_byteOf 57 = .ok (.imul, 1) := by decide +kernel
theorem dX11_byteOf_58 : decode cX11_byteOf 58 = .ok (.isub, 1) := by decide +kernel
theorem dX11_byteOf_59 : decode cX11_byteOf 59 = .ok (.ishr, 1) := by decide +kernel
theorem dX11_byteOf_60 : decode cX11_byteOf 60 = .ok (.sipush 255, 3) := by decide +kernel
theorem dX11_byteOf_63 : decode cX11_byteOf 63 = .ok (.iand, 1) := by decide +kernel
theorem dX11_byteOf_64 : decode cX11_byteOf 64 = .ok (.ireturn, 1) := by decide +kernel
theorem dX11_feed_0 : decode cX11_feed 0 = .ok (.iconst 0, 1) := by decide +kernel
theorem dX11_feed_1 : decode cX11_feed 1 = .ok (.istore 6, 2) := by decide +kernel
theorem dX11_feed_3 : decode cX11_feed 3 = .ok (.iconst 0, 1) := by decide +kernel
theorem dX11_feed_4 : decode cX11_feed 4 = .ok (.istore 7, 2) := by decide +kernel
theorem dX11_feed_6 : decode cX11_feed 6 = .ok (.iload 7, 2) := by decide +kernel
theorem dX11_feed_8 : decode cX11_feed 8 = .ok (.bipush 20, 2) := by decide +kernel
theorem dX11_feed_10 : decode cX11_feed 10 = .ok (.if_icmp .ge 34, 3) := by decide +kernel
theorem dX11_feed_13 : decode cX11_feed 13 = .ok (.iload 6, 2) := by decide +kernel
theorem dX11_feed_15 : decode cX11_feed 15 = .ok (.iload_n 1, 1) := by decide +kernel
theorem dX11_feed_16 : decode cX11_feed 16 = .ok (.iload_n 2, 1) := by decide +kernel
theorem dX11_feed_17 : decode cX11_feed 17 = .ok (.iload_n 3, 1) := by decide +kernel
theorem dX11_feed_18 : decode cX11_feed 18 = .ok (.iload 4, 2) := by decide +kernel
theorem dX11_feed_20 : decode cX11_feed 20 = .ok (.iload 5, 2) := by decide +kernel
theorem dX11_feed_22 : decode cX11_feed 22 = .ok (.iload 7, 2) := by decide +kernel
theorem dX11_feed_24 : decode cX11_feed 24 = .ok (.invokestatic 156, 3) := by decide +kernel
theorem dX11_feed_27 : decode cX11_feed 27 = .ok (.ifCond .eq 7, 3) := by decide +kernel
theorem dX11_feed_30 : decode cX11_feed 30 = .ok (.iconst 1, 1) := by decide +kernel
theorem dX11_feed_31 : decode cX11_feed 31 = .ok (.goto 4, 3) := by decide +kernel
theorem dX11_feed_34 : decode cX11_feed 34 = .ok (.iconst 0, 1) := by decide +kernel
theorem dX11_feed_35 : decode cX11_feed 35 = .ok (.iadd, 1) := by decide +kernel
theorem dX11_feed_36 : decode cX11_feed 36 = .ok (.istore 6, 2) := by decide +kernel
theorem dX11_feed_38 : decode cX11_feed 38 = .ok (.iinc 7 1, 3) := by decide +kernel
theorem dX11_feed_41 : decode cX11_feed 41 = .ok (.goto (-35), 3) := by decide +kernel
theorem dX11_feed_44 : decode cX11_feed 44 = .ok (.aload_n 0, 1) := by decide +kernel
theorem dX11_feed_45 : decode cX11_feed 45 = .ok (.getfield 160, 3) := by decide +kernel
theorem dX11_feed_48 : decode cX11_feed 48 = .ok (.iload 6, 2) := by decide +kernel
theorem dX11_feed_50 : decode cX11_feed 50 = .ok (.iadd, 1) := by decide +kernel
theorem dX11_feed_51 : decode cX11_feed 51 = .ok (.sipush 160, 3) := by decide +kernel
theorem dX11_feed_54 : decode cX11_feed 54 = .ok (.if_icmp .le 5, 3) := by decide +kernel
theorem dX11_feed_59 : decode cX11_feed 59 = .ok (.iconst 0, 1) := by decide +kernel
theorem dX11_feed_60 : decode cX11_feed 60 = .ok (.istore 7, 2) := by decide +kernel
theorem dX11_feed_62 : decode cX11_feed 62 = .ok (.iload 7, 2) := by decide +kernel
theorem dX11_feed_64 : decode cX11_feed 64 = .ok (.bipush 20, 2) := by decide +kernel
theorem dX11_feed_66 : decode cX11_feed 66 = .ok (.if_icmp .ge 49, 3) := by decide +kernel
theorem dX11_feed_69 : decode cX11_feed 69 = .ok (.iload_n 1, 1) := by decide +kernel
theorem dX11_feed_70 : decode cX11_feed 70 = .ok (.iload_n 2, 1) := by decide +kernel
theorem dX11_feed_71 : decode cX11_feed 71 = .ok (.iload_n 3, 1) := by decide +kernel
theorem dX11_feed_72 : decode cX11_feed 72 = .ok (.iload 4, 2) := by decide +kernel
theorem dX11_feed_74 : decode cX11_feed 74 = .ok (.iload 5, 2) := by decide +kernel
theorem dX11_feed_76 : decode cX11_feed 76 = .ok (.iload 7, 2) := by decide +kernel
theorem dX11_feed_78 : decode cX11_feed 78 = .ok (.invokestatic 156, 3) := by decide +kernel
theorem dX11_feed_81 : decode cX11_feed 81 = .ok (.istore 8, 2) := by decide +kernel
theorem dX11_feed_83 : decode cX11_feed 83 = .ok (.iload 8, 2) := by decide +kernel
theorem dX11_feed_85 : decode cX11_feed 85 = .ok (.ifCond .eq 24, 3) := by decide +kernel
theorem dX11_feed_88 : decode cX11_feed 88 = .ok (.aload_n 0, 1) := by decide +kernel
theorem dX11_feed_89 : decode cX11_feed 89 = .ok (.getfield 9, 3) := by decide +kernel
theorem dX11_feed_92 : decode cX11_feed 92 = .ok (.aload_n 0, 1) := by decide +kernel
theorem dX11_feed_93 : decode cX11_feed 93 = .ok (.getfield 160, 3) := by decide +kernel
theorem dX11_feed_96 : decode cX11_feed 96 = .ok (.iload 8, 2) := by decide +kernel
theorem dX11_feed_98 : decode cX11_feed 98 = .ok (.iastore, 1) := by decide +kernel
theorem dX11_feed_99 : decode cX11_feed 99 = .ok (.aload_n 0, 1) := by decide +kernel
theorem dX11_feed_100 : decode cX11_feed 100 = .ok (.dup, 1) := by decide +kernel
theorem dX11_feed_101 : decode cX11_feed 101 = .ok (.getfield 160, 3) := by decide +kernel
theorem dX11_feed_104 : decode cX11_feed 104 = .ok (.iconst 1, 1) := by decide +kernel
theorem dX11_feed_105 : decode cX11_feed 105 = .ok (.iadd, 1) := by decide +kernel
theorem dX11_feed_106 : decode cX11_feed 106 = .ok (.putfield 160, 3) := by decide +kernel
theorem dX11_feed_109 : decode cX11_feed 109 = .ok (.iinc 7 1, 3) := by decide +kernel
theorem dX11_feed_112 : decode cX11_feed 112 = .ok (.goto (-50), 3) := by decide +kernel
theorem dX11_feed_115 : decode cX11_feed 115 = .ok (.aload_n 0, 1) := by decide +kernel
theorem dX11_feed_116 : decode cX11_feed 116 = .ok (.getfield 160, 3) := by decide +kernel
theorem dX11_feed_119 : decode cX11_feed 119 = .ok (.ireturn, 1) := by decide +kernel
theorem dX11_end_0 : decode cX11_end 0 = .ok (.iload_n 1, 1) := by decide +kernel
theorem dX11_end_1 : decode cX11_end 1 = .ok (.ifCond .lt 11, 3) := by decide +kernel
theorem dX11_end_4 : decode cX11_end 4 = .ok (.iload_n 1, 1) := by decide +kernel
theorem dX11_end_5 : decode cX11_end 5 = .ok (.aload_n 0, 1) := by decide +kernel
theorem dX11_end_6 : decode cX11_end 6 = .ok (.getfield 160, 3) := by decide +kernel
theorem dX11_end_9 : decode cX11_end 9 = .ok (.if_icmp .le 5, 3) := by decide +kernel
theorem dX11_end_12 : decode cX11_end 12 = .ok (.iconst 0, 1) := by decide +kernel
theorem dX11_end_13 : decode cX11_end 13 = .ok (.ireturn, 1) := by decide +kernel
theorem dX11_end_14 : decode cX11_end 14 = .ok (.aload_n 0, 1) := by decide +kernel
theorem dX11_end_15 : decode cX11_end 15 = .ok (.iload_n 1, 1) := by decide +kernel
theorem dX11_end_16 : decode cX11_end 16 = .ok (.putfield 160, 3) := by decide +kernel
theorem dX11_end_19 : decode cX11_end 19 = .ok (.iconst 1, 1) := by decide +kernel
theorem dX11_end_20 : decode cX11_end 20 = .ok (.ireturn, 1) := by decide +kernel
theorem dX11_here_0 : decode cX11_here 0 = .ok (.aload_n 0, 1) := by decide +kernel
theorem dX11_here_1 : decode cX11_here 1 = .ok (.getfield 163, 3) := by decide +kernel
theorem dX11_here_4 : decode cX11_here 4 = .ok (.aload_n 0, 1) := by decide +kernel
theorem dX11_here_5 : decode cX11_here 5 = .ok (.getfield 160, 3) := by decide +kernel
theorem dX11_here_8 : decode cX11_here 8 = .ok (.if_icmp .ge 15, 3) := by decide +kernel
theorem dX11_here_23 : decode cX11_here 23 = .ok (.iconst (-1), 1) := by decide +kernel
theorem dX11_here_24 : decode cX11_here 24 = .ok (.ireturn, 1) := by decide +kernel
theorem dX11_look_0 : decode cX11_look 0 = .ok (.aload_n 0, 1) := by decide +kernel
theorem dX11_look_1 : decode cX11_look 1 = .ok (.invokevirtual 166, 3) := by decide +kernel
theorem dX11_look_4 : decode cX11_look 4 = .ok (.bipush 32, 2) := by decide +kernel
theorem dX11_look_6 : decode cX11_look 6 = .ok (.if_icmp .ne 16, 3) := by decide +kernel
theorem dX11_look_22 : decode cX11_look 22 = .ok (.aload_n 0, 1) := by decide +kernel
theorem dX11_look_23 : decode cX11_look 23 = .ok (.invokevirtual 166, 3) := by decide +kernel
theorem dX11_look_26 : decode cX11_look 26 = .ok (.ireturn, 1) := by decide +kernel
theorem dX11_bad_0 : decode cX11_bad 0 = .ok (.aload_n 0, 1) := by decide +kernel
theorem dX11_bad_1 : decode cX11_bad 1 = .ok (.aload_n 0, 1) := by decide +kernel
theorem dX11_bad_2 : decode cX11_bad 2 = .ok (.getfield 170, 3) := by decide +kernel
theorem dX11_bad_5 : decode cX11_bad 5 = .ok (.iconst (-1), 1) := by decide +kernel
theorem dX11_bad_6 : decode cX11_bad 6 = .ok (.if_icmp .ne 10, 3) := by decide +kernel
theorem dX11_bad_9 : decode cX11_bad 9 = .ok (.aload_n 0, 1) := by decide +kernel
theorem dX11_bad_10 : decode cX11_bad 10 = .ok (.getfield 163, 3) := by decide +kernel
theorem dX11_bad_13 : decode cX11_bad 13 = .ok (.goto 7, 3) := by decide +kernel
theorem dX11_bad_20 : decode cX11_bad 20 = .ok (.putfield 170, 3) := by decide +kernel
theorem dX11_bad_23 : decode cX11_bad 23 = .ok (.return_, 1) := by decide +kernel
theorem dX11_clause_0 : decode cX11_clause 0 = .ok (.bipush 90, 2) := by decide +kernel
theorem dX11_clause_2 : decode cX11_clause 2 = .ok (.aload_n 0, 1) := by decide +kernel
theorem dX11_clause_3 : decode cX11_clause 3 = .ok (.getfield 173, 3) := by decide +kernel
theorem dX11_clause_6 : decode cX11_clause 6 = .ok (.imul, 1) := by decide +kernel
theorem dX11_clause_7 : decode cX11_clause 7 = .ok (.aload_n 0, 1) := by decide +kernel
theorem dX11_clause_8 : decode cX11_clause 8 = .ok (.getfield 22, 3) := by decide +kernel
theorem dX11_clause_11 : decode cX11_clause 11 = .ok (.aload_n 0, 1) := by decide +kernel
theorem dX11_clause_12 : decode cX11_clause 12 = .ok (.getfield 173, 3) := by decide +kernel
theorem dX11_clause_15 : decode cX11_clause 15 = .ok (.iaload, 1) := by decide +kernel
theorem dX11_clause_16 : decode cX11_clause 16 = .ok (.iadd, 1) := by decide +kernel
theorem dX11_clause_17 : decode cX11_clause 17 = .ok (.istore_n 1, 1) := by decide +kernel
theorem dX11_clause_18 : decode cX11_clause 18 = .ok (.aload_n 0, 1) := by decide +kernel
theorem dX11_clause_19 : decode cX11_clause 19 = .ok (.getfield 170, 3) := by decide +kernel
theorem dX11_clause_22 : decode cX11_clause 22 = .ok (.iconst (-1), 1) := by decide +kernel
theorem dX11_clause_23 : decode cX11_clause 23 = .ok (.if_icmp .ne 16, 3) := by decide +kernel
theorem dX11_clause_26 : decode cX11_clause 26 = .ok (.aload_n 0, 1) := by decide +kernel
theorem dX11_clause_27 : decode cX11_clause 27 = .ok (.invokevirtual 182, 3) := by decide +kernel
theorem dX11_clause_30 : decode cX11_clause 30 = .ok (.bipush 121, 2) := by decide +kernel
theorem dX11_clause_32 : decode cX11_clause 32 = .ok (.if_icmp .eq 7, 3) := by decide +kernel
theorem dX11_clause_35 : decode cX11_clause 35 = .ok (.aload_n 0, 1) := by decide +kernel
theorem dX11_clause_36 : decode cX11_clause 36 = .ok (.invokevirtual 179, 3) := by decide +kernel
theorem dX11_clause_39 : decode cX11_clause 39 = .ok (.aload_n 0, 1) := by decide +kernel
theorem dX11_clause_40 : decode cX11_clause 40 = .ok (.dup, 1) := by decide +kernel
theorem dX11_clause_41 : decode cX11_clause 41 = .ok (.getfield 163, 3) := by decide +kernel
theorem dX11_clause_44 : decode cX11_clause 44 = .ok (.iconst 1, 1) := by decide +kernel
theorem dX11_clause_45 : decode cX11_clause 45 = .ok (.iadd, 1) := by decide +kernel
theorem dX11_clause_46 : decode cX11_clause 46 = .ok (.putfield 163, 3) := by decide +kernel
theorem dX11_clause_49 : decode cX11_clause 49 = .ok (.aload_n 0, 1) := by decide +kernel
theorem dX11_clause_50 : decode cX11_clause 50 = .ok (.getfield 170, 3) := by decide +kernel
theorem dX11_clause_53 : decode cX11_clause 53 = .ok (.iconst (-1), 1) := by decide +kernel
theorem dX11_clause_54 : decode cX11_clause 54 = .ok (.if_icmp .ne 16, 3) := by decide +kernel
theorem dX11_clause_70 : decode cX11_clause 70 = .ok (.aload_n 0, 1) := by decide +kernel
theorem dX11_clause_71 : decode cX11_clause 71 = .ok (.dup, 1) := by decide +kernel
theorem dX11_clause_72 : decode cX11_clause 72 = .ok (.getfield 163, 3) := by decide +kernel
theorem dX11_clause_75 : decode cX11_clause 75 = .ok (.iconst 1, 1) := by decide +kernel
theorem dX11_clause_76 : decode cX11_clause 76 = .ok (.iadd, 1) := by decide +kernel
theorem dX11_clause_77 : decode cX11_clause 77 = .ok (.putfield 163, 3) := by decide +kernel
theorem dX11_clause_80 : decode cX11_clause 80 = .ok (.aload_n 0, 1) := by decide +kernel
theorem dX11_clause_81 : decode cX11_clause 81 = .ok (.getfield 170, 3) := by decide +kernel
theorem dX11_clause_84 : decode cX11_clause 84 = .ok (.iconst (-1), 1) := by decide +kernel
theorem dX11_clause_85 : decode cX11_clause 85 = .ok (.if_icmp .eq 4, 3) := by decide +kernel
theorem dX11_clause_88 : decode cX11_clause 88 = .ok (.return_, 1) := by decide +kernel
theorem dX11_open_0 : decode cX11_open 0 = .ok (.aload_n 0, 1) := by decide +kernel
theorem dX11_open_1 : decode cX11_open 1 = .ok (.iload_n 1, 1) := by decide +kernel
theorem dX11_open_2 : decode cX11_open 2 = .ok (.putfield 173, 3) := by decide +kernel
theorem dX11_open_5 : decode cX11_open 5 = .ok (.aload_n 0, 1) := by decide +kernel
theorem dX11_open_6 : decode cX11_open 6 = .ok (.iconst 0, 1) := by decide +kernel
theorem dX11_open_7 : decode cX11_open 7 = .ok (.putfield 163, 3) := by decide +kernel
theorem dX11_open_10 : decode cX11_open 10 = .ok (.aload_n 0, 1) := by decide +kernel
theorem dX11_open_11 : decode cX11_open 11 = .ok (.iconst (-1), 1) := by decide +kernel
theorem dX11_open_12 : decode cX11_open 12 = .ok (.putfield 170, 3) := by decide +kernel
theorem dX11_open_15 : decode cX11_open 15 = .ok (.aload_n 0, 1) := by decide +kernel
theorem dX11_open_16 : decode cX11_open 16 = .ok (.iconst 0, 1) := by decide +kernel
theorem dX11_open_17 : decode cX11_open 17 = .ok (.putfield 176, 3) := by decide +kernel
theorem dX11_open_20 : decode cX11_open 20 = .ok (.aload_n 0, 1) := by decide +kernel
theorem dX11_open_21 : decode cX11_open 21 = .ok (.getfield 19, 3) := by decide +kernel
theorem dX11_open_24 : decode cX11_open 24 = .ok (.iload_n 1, 1) := by decide +kernel
theorem dX11_open_25 : decode cX11_open 25 = .ok (.iconst 0, 1) := by decide +kernel
theorem dX11_open_26 : decode cX11_open 26 = .ok (.iastore, 1) := by decide +kernel
theorem dX11_open_27 : decode cX11_open 27 = .ok (.aload_n 0, 1) := by decide +kernel
theorem dX11_open_28 : decode cX11_open 28 = .ok (.getfield 22, 3) := by decide +kernel
theorem dX11_open_31 : decode cX11_open 31 = .ok (.iload_n 1, 1) := by decide +kernel
theorem dX11_open_32 : decode cX11_open 32 = .ok (.iconst 0, 1) := by decide +kernel
theorem dX11_open_33 : decode cX11_open 33 = .ok (.iastore, 1) := by decide +kernel
theorem dX11_open_34 : decode cX11_open 34 = .ok (.return_, 1) := by decide +kernel
theorem dX11_atEnd_0 : decode cX11_atEnd 0 = .ok (.aload_n 0, 1) := by decide +kernel
theorem dX11_atEnd_1 : decode cX11_atEnd 1 = .ok (.getfield 170, 3) := by decide +kernel
theorem dX11_atEnd_4 : decode cX11_atEnd 4 = .ok (.iconst (-1), 1) := by decide +kernel
theorem dX11_atEnd_5 : decode cX11_atEnd 5 = .ok (.if_icmp .ne 15, 3) := by decide +kernel
theorem dX11_atEnd_20 : decode cX11_atEnd 20 = .ok (.aload_n 0, 1) := by decide +kernel
theorem dX11_atEnd_21 : decode cX11_atEnd 21 = .ok (.getfield 170, 3) := by decide +kernel
theorem dX11_atEnd_24 : decode cX11_atEnd 24 = .ok (.ireturn, 1) := by decide +kernel
theorem dX11_readLaw_0 : decode cX11_readLaw 0 = .ok (.aload_n 0, 1) := by decide +kernel
theorem dX11_readLaw_1 : decode cX11_readLaw 1 = .ok (.iload_n 1, 1) := by decide +kernel
theorem dX11_readLaw_2 : decode cX11_readLaw 2 = .ok (.invokevirtual 234, 3) := by decide +kernel
theorem dX11_readLaw_5 : decode cX11_readLaw 5 = .ok (.aload_n 0, 1) := by decide +kernel
theorem dX11_readLaw_6 : decode cX11_readLaw 6 = .ok (.invokevirtual 237, 3) := by decide +kernel
theorem dX11_readLaw_9 : decode cX11_readLaw 9 = .ok (.aload_n 0, 1) := by decide +kernel
theorem dX11_readLaw_10 : decode cX11_readLaw 10 = .ok (.getfield 170, 3) := by decide +kernel
theorem dX11_readLaw_13 : decode cX11_readLaw 13 = .ok (.iconst (-1), 1) := by decide +kernel
theorem dX11_readLaw_14 : decode cX11_readLaw 14 = .ok (.if_icmp .ne 29, 3) := by decide +kernel
theorem dX11_readLaw_43 : decode cX11_readLaw 43 = .ok (.aload_n 0, 1) := by decide +kernel
theorem dX11_readLaw_44 : decode cX11_readLaw 44 = .ok (.invokevirtual 240, 3) := by decide +kernel
theorem dX11_readLaw_47 : decode cX11_readLaw 47 = .ok (.ireturn, 1) := by decide +kernel
theorem dX11_seats_0 : decode cX11_seats 0 = .ok (.aload_n 0, 1) := by decide +kernel
theorem dX11_seats_1 : decode cX11_seats 1 = .ok (.iconst 0, 1) := by decide +kernel
theorem dX11_seats_2 : decode cX11_seats 2 = .ok (.putfield 268, 3) := by decide +kernel
theorem dX11_seats_5 : decode cX11_seats 5 = .ok (.aload_n 0, 1) := by decide +kernel
theorem dX11_seats_6 : decode cX11_seats 6 = .ok (.iconst 0, 1) := by decide +kernel
theorem dX11_seats_7 : decode cX11_seats 7 = .ok (.putfield 271, 3) := by decide +kernel
theorem dX11_seats_10 : decode cX11_seats 10 = .ok (.iconst 0, 1) := by decide +kernel
theorem dX11_seats_11 : decode cX11_seats 11 = .ok (.istore_n 1, 1) := by decide +kernel
theorem dX11_seats_12 : decode cX11_seats 12 = .ok (.aload_n 0, 1) := by decide +kernel
theorem dX11_seats_13 : decode cX11_seats 13 = .ok (.invokevirtual 182, 3) := by decide +kernel
theorem dX11_seats_16 : decode cX11_seats 16 = .ok (.istore_n 2, 1) := by decide +kernel
theorem dX11_seats_17 : decode cX11_seats 17 = .ok (.aload_n 0, 1) := by decide +kernel
theorem dX11_seats_18 : decode cX11_seats 18 = .ok (.getfield 170, 3) := by decide +kernel
theorem dX11_seats_21 : decode cX11_seats 21 = .ok (.iconst (-1), 1) := by decide +kernel
theorem dX11_seats_22 : decode cX11_seats 22 = .ok (.if_icmp .ne 149, 3) := by decide +kernel
theorem dX11_seats_25 : decode cX11_seats 25 = .ok (.iload_n 2, 1) := by decide +kernel
theorem dX11_seats_26 : decode cX11_seats 26 = .ok (.bipush 46, 2) := by decide +kernel
theorem dX11_seats_28 : decode cX11_seats 28 = .ok (.if_icmp .eq 16, 3) := by decide +kernel
theorem dX11_seats_31 : decode cX11_seats 31 = .ok (.iload_n 2, 1) := by decide +kernel
theorem dX11_seats_32 : decode cX11_seats 32 = .ok (.bipush 65, 2) := by decide +kernel
theorem dX11_seats_34 : decode cX11_seats 34 = .ok (.isub, 1) := by decide +kernel
theorem dX11_seats_35 : decode cX11_seats 35 = .ok (.iconst 0, 1) := by decide +kernel
theorem dX11_seats_36 : decode cX11_seats 36 = .ok (.bipush 11, 2) := by decide +kernel
theorem dX11_seats_38 : decode cX11_seats 38 = .ok (.invokestatic 274, 3) := by decide +kernel
theorem dX11_seats_41 : decode cX11_seats 41 = .ok (.ifCond .eq 130, 3) := by decide +kernel
theorem dX11_seats_171 : decode cX11_seats 171 = .ok (.iload_n 2, 1) := by decide +kernel
theorem dX11_seats_172 : decode cX11_seats 172 = .ok (.bipush 59, 2) := by decide +kernel
theorem dX11_seats_174 : decode cX11_seats 174 = .ok (.if_icmp .ne 22, 3) := by decide +kernel
theorem dX11_seats_196 : decode cX11_seats 196 = .ok (.aload_n 0, 1) := by decide +kernel
theorem dX11_seats_197 : decode cX11_seats 197 = .ok (.invokevirtual 179, 3) := by decide +kernel
theorem dX11_seats_200 : decode cX11_seats 200 = .ok (.return_, 1) := by decide +kernel
theorem dX11_readOffice_0 : decode cX11_readOffice 0 = .ok (.aload_n 0, 1) := by decide +kernel
theorem dX11_readOffice_1 : decode cX11_readOffice 1 = .ok (.iconst 0, 1) := by decide +kernel
theorem dX11_readOffice_2 : decode cX11_readOffice 2 = .ok (.putfield 163, 3) := by decide +kernel
theorem dX11_readOffice_5 : decode cX11_readOffice 5 = .ok (.aload_n 0, 1) := by decide +kernel
theorem dX11_readOffice_6 : decode cX11_readOffice 6 = .ok (.iconst (-1), 1) := by decide +kernel
theorem dX11_readOffice_7 : decode cX11_readOffice 7 = .ok (.putfield 170, 3) := by decide +kernel
theorem dX11_readOffice_10 : decode cX11_readOffice 10 = .ok (.iconst 0, 1) := by decide +kernel
theorem dX11_readOffice_11 : decode cX11_readOffice 11 = .ok (.istore_n 1, 1) := by decide +kernel
theorem dX11_readOffice_12 : decode cX11_readOffice 12 = .ok (.iload_n 1, 1) := by decide +kernel
theorem dX11_readOffice_13 : decode cX11_readOffice 13 = .ok (.bipush 12, 2) := by decide +kernel
theorem dX11_readOffice_15 : decode cX11_readOffice 15 = .ok (.if_icmp .ge 16, 3) := by decide +kernel
theorem dX11_readOffice_18 : decode cX11_readOffice 18 = .ok (.aload_n 0, 1) := by decide +kernel
theorem dX11_readOffice_19 : decode cX11_readOffice 19 = .ok (.getfield 46, 3) := by decide +kernel
theorem dX11_readOffice_22 : decode cX11_readOffice 22 = .ok (.iload_n 1, 1) := by decide +kernel
theorem dX11_readOffice_23 : decode cX11_readOffice 23 = .ok (.iconst 0, 1) := by decide +kernel
theorem dX11_readOffice_24 : decode cX11_readOffice 24 = .ok (.iastore, 1) := by decide +kernel
theorem dX11_readOffice_25 : decode cX11_readOffice 25 = .ok (.iinc 1 1, 3) := by decide +kernel
theorem dX11_readOffice_28 : decode cX11_readOffice 28 = .ok (.goto (-16), 3) := by decide +kernel
theorem dX11_readOffice_31 : decode cX11_readOffice 31 = .ok (.aload_n 0, 1) := by decide +kernel
theorem dX11_readOffice_32 : decode cX11_readOffice 32 = .ok (.invokevirtual 282, 3) := by decide +kernel
theorem dX11_readOffice_35 : decode cX11_readOffice 35 = .ok (.aload_n 0, 1) := by decide +kernel
theorem dX11_readOffice_36 : decode cX11_readOffice 36 = .ok (.getfield 170, 3) := by decide +kernel
theorem dX11_readOffice_39 : decode cX11_readOffice 39 = .ok (.iconst (-1), 1) := by decide +kernel
theorem dX11_readOffice_40 : decode cX11_readOffice 40 = .ok (.if_icmp .ne 7, 3) := by decide +kernel
theorem dX11_readOffice_47 : decode cX11_readOffice 47 = .ok (.aload_n 0, 1) := by decide +kernel
theorem dX11_readOffice_48 : decode cX11_readOffice 48 = .ok (.getfield 170, 3) := by decide +kernel
theorem dX11_readOffice_51 : decode cX11_readOffice 51 = .ok (.iconst (-1), 1) := by decide +kernel
theorem dX11_readOffice_52 : decode cX11_readOffice 52 = .ok (.if_icmp .ne 26, 3) := by decide +kernel
theorem dX11_readOffice_78 : decode cX11_readOffice 78 = .ok (.aload_n 0, 1) := by decide +kernel
theorem dX11_readOffice_79 : decode cX11_readOffice 79 = .ok (.invokevirtual 240, 3) := by decide +kernel
theorem dX11_readOffice_82 : decode cX11_readOffice 82 = .ok (.ireturn, 1) := by decide +kernel
theorem dX11_readPlan_0 : decode cX11_readPlan 0 = .ok (.aload_n 0, 1) := by decide +kernel
theorem dX11_readPlan_1 : decode cX11_readPlan 1 = .ok (.iconst 0, 1) := by decide +kernel
theorem dX11_readPlan_2 : decode cX11_readPlan 2 = .ok (.putfield 163, 3) := by decide +kernel
theorem dX11_readPlan_5 : decode cX11_readPlan 5 = .ok (.aload_n 0, 1) := by decide +kernel
theorem dX11_readPlan_6 : decode cX11_readPlan 6 = .ok (.iconst (-1), 1) := by decide +kernel
theorem dX11_readPlan_7 : decode cX11_readPlan 7 = .ok (.putfield 170, 3) := by decide +kernel
theorem dX11_readPlan_10 : decode cX11_readPlan 10 = .ok (.aload_n 0, 1) := by decide +kernel
theorem dX11_readPlan_11 : decode cX11_readPlan 11 = .ok (.iconst 0, 1) := by decide +kernel
theorem dX11_readPlan_12 : decode cX11_readPlan 12 = .ok (.putfield 291, 3) := by decide +kernel
theorem dX11_readPlan_15 : decode cX11_readPlan 15 = .ok (.iconst 1, 1) := by decide +kernel
theorem dX11_readPlan_16 : decode cX11_readPlan 16 = .ok (.istore_n 1, 1) := by decide +kernel
theorem dX11_readPlan_17 : decode cX11_readPlan 17 = .ok (.iload_n 1, 1) := by decide +kernel
theorem dX11_readPlan_18 : decode cX11_readPlan 18 = .ok (.ifCond .eq 155, 3) := by decide +kernel
theorem dX11_readPlan_21 : decode cX11_readPlan 21 = .ok (.aload_n 0, 1) := by decide +kernel
theorem dX11_readPlan_22 : decode cX11_readPlan 22 = .ok (.getfield 170, 3) := by decide +kernel
theorem dX11_readPlan_25 : decode cX11_readPlan 25 = .ok (.iconst (-1), 1) := by decide +kernel
theorem dX11_readPlan_26 : decode cX11_readPlan 26 = .ok (.if_icmp .ne 147, 3) := by decide +kernel
theorem dX11_readPlan_29 : decode cX11_readPlan 29 = .ok (.aload_n 0, 1) := by decide +kernel
theorem dX11_readPlan_30 : decode cX11_readPlan 30 = .ok (.invokevirtual 182, 3) := by decide +kernel
theorem dX11_readPlan_33 : decode cX11_readPlan 33 = .ok (.bipush 65, 2) := by decide +kernel
theorem dX11_readPlan_35 : decode cX11_readPlan 35 = .ok (.isub, 1) := by decide +kernel
theorem dX11_readPlan_36 : decode cX11_readPlan 36 = .ok (.istore_n 2, 1) := by decide +kernel
theorem dX11_readPlan_37 : decode cX11_readPlan 37 = .ok (.iload_n 2, 1) := by decide +kernel
theorem dX11_readPlan_38 : decode cX11_readPlan 38 = .ok (.iconst 0, 1) := by decide +kernel
theorem dX11_readPlan_39 : decode cX11_readPlan 39 = .ok (.bipush 11, 2) := by decide +kernel
theorem dX11_readPlan_41 : decode cX11_readPlan 41 = .ok (.invokestatic 274, 3) := by decide +kernel
theorem dX11_readPlan_44 : decode cX11_readPlan 44 = .ok (.ifCond .ne 12, 3) := by decide +kernel
theorem dX11_readPlan_47 : decode cX11_readPlan 47 = .ok (.aload_n 0, 1) := by decide +kernel
theorem dX11_readPlan_48 : decode cX11_readPlan 48 = .ok (.invokevirtual 179, 3) := by decide +kernel
theorem dX11_readPlan_51 : decode cX11_readPlan 51 = .ok (.aload_n 0, 1) := by decide +kernel
theorem dX11_readPlan_52 : decode cX11_readPlan 52 = .ok (.getfield 170, 3) := by decide +kernel
theorem dX11_readPlan_55 : decode cX11_readPlan 55 = .ok (.ireturn, 1) := by decide +kernel
theorem dX11_fault_0 : decode cX11_fault 0 = .ok (.iload_n 1, 1) := by decide +kernel
theorem dX11_fault_1 : decode cX11_fault 1 = .ok (.ifCond .ne 10, 3) := by decide +kernel
theorem dX11_fault_4 : decode cX11_fault 4 = .ok (.aload_n 0, 1) := by decide +kernel
theorem dX11_fault_5 : decode cX11_fault 5 = .ok (.invokevirtual 294, 3) := by decide +kernel
theorem dX11_fault_8 : decode cX11_fault 8 = .ok (.goto 30, 3) := by decide +kernel
theorem dX11_fault_11 : decode cX11_fault 11 = .ok (.iload_n 1, 1) := by decide +kernel
theorem dX11_fault_12 : decode cX11_fault 12 = .ok (.iconst 1, 1) := by decide +kernel
theorem dX11_fault_13 : decode cX11_fault 13 = .ok (.if_icmp .ne 11, 3) := by decide +kernel
theorem dX11_fault_16 : decode cX11_fault 16 = .ok (.aload_n 0, 1) := by decide +kernel
theorem dX11_fault_17 : decode cX11_fault 17 = .ok (.iconst 4, 1) := by decide +kernel
theorem dX11_fault_18 : decode cX11_fault 18 = .ok (.invokevirtual 297, 3) := by decide +kernel
theorem dX11_fault_21 : decode cX11_fault 21 = .ok (.goto 17, 3) := by decide +kernel
theorem dX11_fault_24 : decode cX11_fault 24 = .ok (.iload_n 1, 1) := by decide +kernel
theorem dX11_fault_25 : decode cX11_fault 25 = .ok (.iconst 2, 1) := by decide +kernel
theorem dX11_fault_26 : decode cX11_fault 26 = .ok (.if_icmp .ne 10, 3) := by decide +kernel
theorem dX11_fault_29 : decode cX11_fault 29 = .ok (.aload_n 0, 1) := by decide +kernel
theorem dX11_fault_30 : decode cX11_fault 30 = .ok (.invokevirtual 300, 3) := by decide +kernel
theorem dX11_fault_33 : decode cX11_fault 33 = .ok (.goto 5, 3) := by decide +kernel
theorem dX11_fault_36 : decode cX11_fault 36 = .ok (.bipush (-2), 2) := by decide +kernel
theorem dX11_fault_38 : decode cX11_fault 38 = .ok (.ireturn, 1) := by decide +kernel
theorem dX11_text_0 : decode cX11_text 0 = .ok (.iload_n 1, 1) := by decide +kernel
theorem dX11_text_1 : decode cX11_text 1 = .ok (.ifCond .ne 21, 3) := by decide +kernel
theorem dX11_text_4 : decode cX11_text 4 = .ok (.aload_n 0, 1) := by decide +kernel
theorem dX11_text_5 : decode cX11_text 5 = .ok (.invokevirtual 294, 3) := by decide +kernel
theorem dX11_text_8 : decode cX11_text 8 = .ok (.iconst (-1), 1) := by decide +kernel
theorem dX11_text_9 : decode cX11_text 9 = .ok (.if_icmp .ne 13, 3) := by decide +kernel
theorem dX11_text_22 : decode cX11_text 22 = .ok (.iload_n 1, 1) := by decide +kernel
theorem dX11_text_23 : decode cX11_text 23 = .ok (.iconst 1, 1) := by decide +kernel
theorem dX11_text_24 : decode cX11_text 24 = .ok (.if_icmp .ne 45, 3) := by decide +kernel
theorem dX11_text_27 : decode cX11_text 27 = .ok (.aload_n 0, 1) := by decide +kernel
theorem dX11_text_28 : decode cX11_text 28 = .ok (.getfield 322, 3) := by decide +kernel
theorem dX11_text_31 : decode cX11_text 31 = .ok (.iconst 4, 1) := by decide +kernel
theorem dX11_text_32 : decode cX11_text 32 = .ok (.if_icmp .ge 37, 3) := by decide +kernel
theorem dX11_text_35 : decode cX11_text 35 = .ok (.aload_n 0, 1) := by decide +kernel
theorem dX11_text_36 : decode cX11_text 36 = .ok (.aload_n 0, 1) := by decide +kernel
theorem dX11_text_37 : decode cX11_text 37 = .ok (.getfield 322, 3) := by decide +kernel
theorem dX11_text_40 : decode cX11_text 40 = .ok (.invokevirtual 297, 3) := by decide +kernel
theorem dX11_text_43 : decode cX11_text 43 = .ok (.iconst (-1), 1) := by decide +kernel
theorem dX11_text_44 : decode cX11_text 44 = .ok (.if_icmp .ne 25, 3) := by decide +kernel
theorem dX11_text_69 : decode cX11_text 69 = .ok (.iload_n 1, 1) := by decide +kernel
theorem dX11_text_70 : decode cX11_text 70 = .ok (.iconst 2, 1) := by decide +kernel
theorem dX11_text_71 : decode cX11_text 71 = .ok (.if_icmp .ne 64, 3) := by decide +kernel
theorem dX11_text_74 : decode cX11_text 74 = .ok (.aload_n 0, 1) := by decide +kernel
theorem dX11_text_75 : decode cX11_text 75 = .ok (.getfield 303, 3) := by decide +kernel
theorem dX11_text_78 : decode cX11_text 78 = .ok (.ifCond .le 57, 3) := by decide +kernel
theorem dX11_text_135 : decode cX11_text 135 = .ok (.iconst (-1), 1) := by decide +kernel
theorem dX11_text_136 : decode cX11_text 136 = .ok (.ireturn, 1) := by decide +kernel
theorem dX11_isDesk_0 : decode cX11_isDesk 0 = .ok (.iload_n 1, 1) := by decide +kernel
theorem dX11_isDesk_1 : decode cX11_isDesk 1 = .ok (.iconst 0, 1) := by decide +kernel
theorem dX11_isDesk_2 : decode cX11_isDesk 2 = .ok (.aload_n 0, 1) := by decide +kernel
theorem dX11_isDesk_3 : decode cX11_isDesk 3 = .ok (.getfield 303, 3) := by decide +kernel
theorem dX11_isDesk_6 : decode cX11_isDesk 6 = .ok (.iconst 1, 1) := by decide +kernel
theorem dX11_isDesk_7 : decode cX11_isDesk 7 = .ok (.isub, 1) := by decide +kernel
theorem dX11_isDesk_8 : decode cX11_isDesk 8 = .ok (.invokestatic 274, 3) := by decide +kernel
theorem dX11_isDesk_11 : decode cX11_isDesk 11 = .ok (.ireturn, 1) := by decide +kernel
theorem dX11_isClerk_0 : decode cX11_isClerk 0 = .ok (.iload_n 1, 1) := by decide +kernel
theorem dX11_isClerk_1 : decode cX11_isClerk 1 = .ok (.iconst 0, 1) := by decide +kernel
theorem dX11_isClerk_2 : decode cX11_isClerk 2 = .ok (.bipush 11, 2) := by decide +kernel
theorem dX11_isClerk_4 : decode cX11_isClerk 4 = .ok (.invokestatic 274, 3) := by decide +kernel
theorem dX11_isClerk_7 : decode cX11_isClerk 7 = .ok (.ifCond .eq 25, 3) := by decide +kernel
theorem dX11_isClerk_10 : decode cX11_isClerk 10 = .ok (.aload_n 0, 1) := by decide +kernel
theorem dX11_isClerk_11 : decode cX11_isClerk 11 = .ok (.getfield 303, 3) := by decide +kernel
theorem dX11_isClerk_14 : decode cX11_isClerk 14 = .ok (.ifCond .le 18, 3) := by decide +kernel
theorem dX11_isClerk_32 : decode cX11_isClerk 32 = .ok (.iconst 0, 1) := by decide +kernel
theorem dX11_isClerk_33 : decode cX11_isClerk 33 = .ok (.ireturn, 1) := by decide +kernel
theorem dX11_desk_0 : decode cX11_desk 0 = .ok (.aload_n 0, 1) := by decide +kernel
theorem dX11_desk_1 : decode cX11_desk 1 = .ok (.aload_n 0, 1) := by decide +kernel
theorem dX11_desk_2 : decode cX11_desk 2 = .ok (.iload_n 1, 1) := by decide +kernel
theorem dX11_desk_3 : decode cX11_desk 3 = .ok (.invokevirtual 325, 3) := by decide +kernel
theorem dX11_desk_6 : decode cX11_desk 6 = .ok (.ifCond .eq 7, 3) := by decide +kernel
theorem dX11_desk_13 : decode cX11_desk 13 = .ok (.iconst 1, 1) := by decide +kernel
theorem dX11_desk_14 : decode cX11_desk 14 = .ok (.putfield 153, 3) := by decide +kernel
theorem dX11_desk_17 : decode cX11_desk 17 = .ok (.aload_n 0, 1) := by decide +kernel
theorem dX11_desk_18 : decode cX11_desk 18 = .ok (.getfield 153, 3) := by decide +kernel
theorem dX11_desk_21 : decode cX11_desk 21 = .ok (.iconst 1, 1) := by decide +kernel
theorem dX11_desk_22 : decode cX11_desk 22 = .ok (.if_icmp .ne 7, 3) := by decide +kernel
theorem dX11_desk_25 : decode cX11_desk 25 = .ok (.iconst 0, 1) := by decide +kernel
theorem dX11_desk_26 : decode cX11_desk 26 = .ok (.goto 24, 3) := by decide +kernel
theorem dX11_desk_50 : decode cX11_desk 50 = .ok (.ireturn, 1) := by decide +kernel
theorem dX11_door_0 : decode cX11_door 0 = .ok (.aload_n 0, 1) := by decide +kernel
theorem dX11_door_1 : decode cX11_door 1 = .ok (.iload_n 1, 1) := by decide +kernel
theorem dX11_door_2 : decode cX11_door 2 = .ok (.invokevirtual 325, 3) := by decide +kernel
theorem dX11_door_5 : decode cX11_door 5 = .ok (.ifCond .eq 39, 3) := by decide +kernel
theorem dX11_door_44 : decode cX11_door 44 = .ok (.iconst (-1), 1) := by decide +kernel
theorem dX11_door_45 : decode cX11_door 45 = .ok (.ireturn, 1) := by decide +kernel
theorem dX11_quarrel_0 : decode cX11_quarrel 0 = .ok (.aload_n 0, 1) := by decide +kernel
theorem dX11_quarrel_1 : decode cX11_quarrel 1 = .ok (.iload_n 1, 1) := by decide +kernel
theorem dX11_quarrel_2 : decode cX11_quarrel 2 = .ok (.invokevirtual 328, 3) := by decide +kernel
theorem dX11_quarrel_5 : decode cX11_quarrel 5 = .ok (.ifCond .eq 37, 3) := by decide +kernel
theorem dX11_quarrel_42 : decode cX11_quarrel 42 = .ok (.iconst (-1), 1) := by decide +kernel
theorem dX11_quarrel_43 : decode cX11_quarrel 43 = .ok (.ireturn, 1) := by decide +kernel
theorem dX11_set_0 : decode cX11_set 0 = .ok (.aload_n 0, 1) := by decide +kernel
theorem dX11_set_1 : decode cX11_set 1 = .ok (.iload_n 1, 1) := by decide +kernel
theorem dX11_set_2 : decode cX11_set 2 = .ok (.invokevirtual 328, 3) := by decide +kernel
theorem dX11_set_5 : decode cX11_set 5 = .ok (.ifCond .eq 22, 3) := by decide +kernel
theorem dX11_set_27 : decode cX11_set 27 = .ok (.iconst 0, 1) := by decide +kernel
theorem dX11_set_28 : decode cX11_set 28 = .ok (.ireturn, 1) := by decide +kernel
theorem dX11_clerk_0 : decode cX11_clerk 0 = .ok (.aload_n 0, 1) := by decide +kernel
theorem dX11_clerk_1 : decode cX11_clerk 1 = .ok (.iload_n 1, 1) := by decide +kernel
theorem dX11_clerk_2 : decode cX11_clerk 2 = .ok (.invokevirtual 328, 3) := by decide +kernel
theorem dX11_clerk_5 : decode cX11_clerk 5 = .ok (.ifCond .ne 5, 3) := by decide +kernel
theorem dX11_clerk_8 : decode cX11_clerk 8 = .ok (.iconst (-1), 1) := by decide +kernel
theorem dX11_clerk_9 : decode cX11_clerk 9 = .ok (.ireturn, 1) := by decide +kernel
theorem dX11_law_0 : decode cX11_law 0 = .ok (.aload_n 0, 1) := by decide +kernel
theorem dX11_law_1 : decode cX11_law 1 = .ok (.getfield 303, 3) := by decide +kernel
theorem dX11_law_4 : decode cX11_law 4 = .ok (.ifCond .eq 22, 3) := by decide +kernel
theorem dX11_law_26 : decode cX11_law 26 = .ok (.iconst 0, 1) := by decide +kernel
theorem dX11_law_27 : decode cX11_law 27 = .ok (.ireturn, 1) := by decide +kernel
theorem dX11_bars_0 : decode cX11_bars 0 = .ok (.aload_n 0, 1) := by decide +kernel
theorem dX11_bars_1 : decode cX11_bars 1 = .ok (.iload_n 2, 1) := by decide +kernel
theorem dX11_bars_2 : decode cX11_bars 2 = .ok (.invokevirtual 328, 3) := by decide +kernel
theorem dX11_bars_5 : decode cX11_bars 5 = .ok (.ifCond .eq 11, 3) := by decide +kernel
theorem dX11_bars_16 : decode cX11_bars 16 = .ok (.iconst 1, 1) := by decide +kernel
theorem dX11_bars_17 : decode cX11_bars 17 = .ok (.ireturn, 1) := by decide +kernel
theorem dX11_let_0 : decode cX11_let 0 = .ok (.aload_n 0, 1) := by decide +kernel
theorem dX11_let_1 : decode cX11_let 1 = .ok (.aload_n 0, 1) := by decide +kernel
theorem dX11_let_2 : decode cX11_let 2 = .ok (.getfield 49, 3) := by decide +kernel
theorem dX11_let_5 : decode cX11_let 5 = .ok (.iload_n 1, 1) := by decide +kernel
theorem dX11_let_6 : decode cX11_let 6 = .ok (.iload_n 2, 1) := by decide +kernel
theorem dX11_let_7 : decode cX11_let 7 = .ok (.invokevirtual 346, 3) := by decide +kernel
theorem dX11_let_10 : decode cX11_let 10 = .ok (.istore_n 3, 1) := by decide +kernel
theorem dX11_let_11 : decode cX11_let 11 = .ok (.iload_n 3, 1) := by decide +kernel
theorem dX11_let_12 : decode cX11_let 12 = .ok (.ifCond .ne 7, 3) := by decide +kernel
theorem dX11_let_19 : decode cX11_let 19 = .ok (.iload_n 3, 1) := by decide +kernel
theorem dX11_let_20 : decode cX11_let 20 = .ok (.iconst 4, 1) := by decide +kernel
theorem dX11_let_21 : decode cX11_let 21 = .ok (.if_icmp .ne 7, 3) := by decide +kernel
theorem dX11_let_28 : decode cX11_let 28 = .ok (.iconst (-1), 1) := by decide +kernel
theorem dX11_let_29 : decode cX11_let 29 = .ok (.ireturn, 1) := by decide +kernel
theorem dX11_move_0 : decode cX11_move 0 = .ok (.aload_n 0, 1) := by decide +kernel
theorem dX11_move_1 : decode cX11_move 1 = .ok (.aload_n 0, 1) := by decide +kernel
theorem dX11_move_2 : decode cX11_move 2 = .ok (.getfield 49, 3) := by decide +kernel
theorem dX11_move_5 : decode cX11_move 5 = .ok (.iload_n 1, 1) := by decide +kernel
theorem dX11_move_6 : decode cX11_move 6 = .ok (.iload_n 2, 1) := by decide +kernel
theorem dX11_move_7 : decode cX11_move 7 = .ok (.invokevirtual 346, 3) := by decide +kernel
theorem dX11_move_10 : decode cX11_move 10 = .ok (.ifCond .eq 5, 3) := by decide +kernel
theorem dX11_move_13 : decode cX11_move 13 = .ok (.iconst (-1), 1) := by decide +kernel
theorem dX11_move_14 : decode cX11_move 14 = .ok (.ireturn, 1) := by decide +kernel
theorem dX11_undo_0 : decode cX11_undo 0 = .ok (.aload_n 0, 1) := by decide +kernel
theorem dX11_undo_1 : decode cX11_undo 1 = .ok (.getfield 309, 3) := by decide +kernel
theorem dX11_undo_4 : decode cX11_undo 4 = .ok (.ifCond .ne 5, 3) := by decide +kernel
theorem dX11_undo_7 : decode cX11_undo 7 = .ok (.iconst (-1), 1) := by decide +kernel
theorem dX11_undo_8 : decode cX11_undo 8 = .ok (.ireturn, 1) := by decide +kernel
theorem dX11_diary_0 : decode cX11_diary 0 = .ok (.iload_n 1, 1) := by decide +kernel
theorem dX11_diary_1 : decode cX11_diary 1 = .ok (.iconst 0, 1) := by decide +kernel
theorem dX11_diary_2 : decode cX11_diary 2 = .ok (.aload_n 0, 1) := by decide +kernel
theorem dX11_diary_3 : decode cX11_diary 3 = .ok (.getfield 309, 3) := by decide +kernel
theorem dX11_diary_6 : decode cX11_diary 6 = .ok (.iconst 1, 1) := by decide +kernel
theorem dX11_diary_7 : decode cX11_diary 7 = .ok (.isub, 1) := by decide +kernel
theorem dX11_diary_8 : decode cX11_diary 8 = .ok (.invokestatic 274, 3) := by decide +kernel
theorem dX11_diary_11 : decode cX11_diary 11 = .ok (.ifCond .eq 20, 3) := by decide +kernel
theorem dX11_diary_31 : decode cX11_diary 31 = .ok (.iconst (-1), 1) := by decide +kernel
theorem dX11_diary_32 : decode cX11_diary 32 = .ok (.ireturn, 1) := by decide +kernel
theorem dX11_judge_0 : decode cX11_judge 0 = .ok (.aload_n 0, 1) := by decide +kernel
theorem dX11_judge_1 : decode cX11_judge 1 = .ok (.getfield 64, 3) := by decide +kernel
theorem dX11_judge_4 : decode cX11_judge 4 = .ok (.iconst (-1), 1) := by decide +kernel
theorem dX11_judge_5 : decode cX11_judge 5 = .ok (.if_icmp .eq 22, 3) := by decide +kernel
theorem dX11_judge_27 : decode cX11_judge 27 = .ok (.ldc_w 356, 3) := by decide +kernel
theorem dX11_judge_30 : decode cX11_judge 30 = .ok (.ireturn, 1) := by decide +kernel
theorem dX11_wish_0 : decode cX11_wish 0 = .ok (.aload_n 0, 1) := by decide +kernel
theorem dX11_wish_1 : decode cX11_wish 1 = .ok (.iload_n 1, 1) := by decide +kernel
theorem dX11_wish_2 : decode cX11_wish 2 = .ok (.invokevirtual 325, 3) := by decide +kernel
theorem dX11_wish_5 : decode cX11_wish 5 = .ok (.ifCond .eq 22, 3) := by decide +kernel
theorem dX11_wish_27 : decode cX11_wish 27 = .ok (.iconst 0, 1) := by decide +kernel
theorem dX11_wish_28 : decode cX11_wish 28 = .ok (.ireturn, 1) := by decide +kernel
theorem dX11_done_0 : decode cX11_done 0 = .ok (.aload_n 0, 1) := by decide +kernel
theorem dX11_done_1 : decode cX11_done 1 = .ok (.getfield 303, 3) := by decide +kernel
theorem dX11_done_4 : decode cX11_done 4 = .ok (.ifCond .ne 7, 3) := by decide +kernel
theorem dX11_done_7 : decode cX11_done 7 = .ok (.iconst (-1), 1) := by decide +kernel
theorem dX11_done_8 : decode cX11_done 8 = .ok (.goto 21, 3) := by decide +kernel
theorem dX11_done_29 : decode cX11_done 29 = .ok (.ireturn, 1) := by decide +kernel
theorem dX11_isSmall_0 : decode cX11_isSmall 0 = .ok (.aload_n 0, 1) := by decide +kernel
theorem dX11_isSmall_1 : decode cX11_isSmall 1 = .ok (.getfield 303, 3) := by decide +kernel
theorem dX11_isSmall_4 : decode cX11_isSmall 4 = .ok (.iconst 1, 1) := by decide +kernel
theorem dX11_isSmall_5 : decode cX11_isSmall 5 = .ok (.bipush 8, 2) := by decide +kernel
theorem dX11_isSmall_7 : decode cX11_isSmall 7 = .ok (.invokestatic 274, 3) := by decide +kernel
theorem dX11_isSmall_10 : decode cX11_isSmall 10 = .ok (.ireturn, 1) := by decide +kernel
theorem dX11_fewest_0 : decode cX11_fewest 0 = .ok (.aload_n 0, 1) := by decide +kernel
theorem dX11_fewest_1 : decode cX11_fewest 1 = .ok (.invokevirtual 394, 3) := by decide +kernel
theorem dX11_fewest_4 : decode cX11_fewest 4 = .ok (.ifCond .ne 7, 3) := by decide +kernel
theorem dX11_fewest_7 : decode cX11_fewest 7 = .ok (.ldc_w 356, 3) := by decide +kernel
theorem dX11_fewest_10 : decode cX11_fewest 10 = .ok (.ireturn, 1) := by decide +kernel
theorem dX11_cheapest_0 : decode cX11_cheapest 0 = .ok (.aload_n 0, 1) := by decide +kernel
theorem dX11_cheapest_1 : decode cX11_cheapest 1 = .ok (.invokevirtual 394, 3) := by decide +kernel
theorem dX11_cheapest_4 : decode cX11_cheapest 4 = .ok (.ifCond .eq 11, 3) := by decide +kernel
theorem dX11_cheapest_15 : decode cX11_cheapest 15 = .ok (.ldc_w 356, 3) := by decide +kernel
theorem dX11_cheapest_18 : decode cX11_cheapest 18 = .ok (.ireturn, 1) := by decide +kernel
theorem dX11_all_0 : decode cX11_all 0 = .ok (.aload_n 0, 1) := by decide +kernel
theorem dX11_all_1 : decode cX11_all 1 = .ok (.invokevirtual 394, 3) := by decide +kernel
theorem dX11_all_4 : decode cX11_all 4 = .ok (.ifCond .eq 12, 3) := by decide +kernel
theorem dX11_all_16 : decode cX11_all 16 = .ok (.ldc_w 356, 3) := by decide +kernel
theorem dX11_all_19 : decode cX11_all 19 = .ok (.ireturn, 1) := by decide +kernel
theorem dX11_count_0 : decode cX11_count 0 = .ok (.aload_n 0, 1) := by decide +kernel
theorem dX11_count_1 : decode cX11_count 1 = .ok (.invokevirtual 394, 3) := by decide +kernel
theorem dX11_count_4 : decode cX11_count 4 = .ok (.ifCond .eq 13, 3) := by decide +kernel
theorem dX11_count_17 : decode cX11_count 17 = .ok (.ldc_w 356, 3) := by decide +kernel
theorem dX11_count_20 : decode cX11_count 20 = .ok (.ireturn, 1) := by decide +kernel
theorem dX11_ill_0 : decode cX11_ill 0 = .ok (.aload_n 0, 1) := by decide +kernel
theorem dX11_ill_1 : decode cX11_ill 1 = .ok (.invokevirtual 394, 3) := by decide +kernel
theorem dX11_ill_4 : decode cX11_ill 4 = .ok (.ifCond .eq 19, 3) := by decide +kernel
theorem dX11_ill_23 : decode cX11_ill 23 = .ok (.ldc_w 356, 3) := by decide +kernel
theorem dX11_ill_26 : decode cX11_ill 26 = .ok (.ireturn, 1) := by decide +kernel
theorem dX11_holds_0 : decode cX11_holds 0 = .ok (.aload_n 0, 1) := by decide +kernel
theorem dX11_holds_1 : decode cX11_holds 1 = .ok (.invokevirtual 394, 3) := by decide +kernel
theorem dX11_holds_4 : decode cX11_holds 4 = .ok (.ifCond .ne 7, 3) := by decide +kernel
theorem dX11_holds_7 : decode cX11_holds 7 = .ok (.ldc_w 356, 3) := by decide +kernel
theorem dX11_holds_10 : decode cX11_holds 10 = .ok (.ireturn, 1) := by decide +kernel
theorem dX11_sort_0 : decode cX11_sort 0 = .ok (.aload_n 0, 1) := by decide +kernel
theorem dX11_sort_1 : decode cX11_sort 1 = .ok (.getfield 303, 3) := by decide +kernel
theorem dX11_sort_4 : decode cX11_sort 4 = .ok (.ifCond .eq 11, 3) := by decide +kernel
theorem dX11_sort_15 : decode cX11_sort 15 = .ok (.iconst (-1), 1) := by decide +kernel
theorem dX11_sort_16 : decode cX11_sort 16 = .ok (.goto 7, 3) := by decide +kernel
theorem dX11_sort_23 : decode cX11_sort 23 = .ok (.ireturn, 1) := by decide +kernel
theorem dX11_can_0 : decode cX11_can 0 = .ok (.aload_n 0, 1) := by decide +kernel
theorem dX11_can_1 : decode cX11_can 1 = .ok (.getfield 303, 3) := by decide +kernel
theorem dX11_can_4 : decode cX11_can 4 = .ok (.ifCond .eq 18, 3) := by decide +kernel
theorem dX11_can_22 : decode cX11_can 22 = .ok (.iconst (-1), 1) := by decide +kernel
theorem dX11_can_23 : decode cX11_can 23 = .ok (.ireturn, 1) := by decide +kernel
theorem dX11_worth_0 : decode cX11_worth 0 = .ok (.aload_n 0, 1) := by decide +kernel
theorem dX11_worth_1 : decode cX11_worth 1 = .ok (.iload_n 1, 1) := by decide +kernel
theorem dX11_worth_2 : decode cX11_worth 2 = .ok (.invokevirtual 328, 3) := by decide +kernel
theorem dX11_worth_5 : decode cX11_worth 5 = .ok (.ifCond .eq 21, 3) := by decide +kernel
theorem dX11_worth_26 : decode cX11_worth 26 = .ok (.iconst 0, 1) := by decide +kernel
theorem dX11_worth_27 : decode cX11_worth 27 = .ok (.ireturn, 1) := by decide +kernel
theorem dX11_seated_0 : decode cX11_seated 0 = .ok (.aload_n 0, 1) := by decide +kernel
theorem dX11_seated_1 : decode cX11_seated 1 = .ok (.getfield 303, 3) := by decide +kernel
theorem dX11_seated_4 : decode cX11_seated 4 = .ok (.ifCond .eq 16, 3) := by decide +kernel
theorem dX11_seated_20 : decode cX11_seated 20 = .ok (.iconst (-1), 1) := by decide +kernel
theorem dX11_seated_21 : decode cX11_seated 21 = .ok (.ireturn, 1) := by decide +kernel
theorem dX11_best_0 : decode cX11_best 0 = .ok (.aload_n 0, 1) := by decide +kernel
theorem dX11_best_1 : decode cX11_best 1 = .ok (.getfield 303, 3) := by decide +kernel
theorem dX11_best_4 : decode cX11_best 4 = .ok (.ifCond .eq 16, 3) := by decide +kernel
theorem dX11_best_20 : decode cX11_best 20 = .ok (.iconst (-1), 1) := by decide +kernel
theorem dX11_best_21 : decode cX11_best 21 = .ok (.ireturn, 1) := by decide +kernel
theorem dX11_gains_0 : decode cX11_gains 0 = .ok (.aload_n 0, 1) := by decide +kernel
theorem dX11_gains_1 : decode cX11_gains 1 = .ok (.iload_n 1, 1) := by decide +kernel
theorem dX11_gains_2 : decode cX11_gains 2 = .ok (.invokevirtual 328, 3) := by decide +kernel
theorem dX11_gains_5 : decode cX11_gains 5 = .ok (.ifCond .eq 12, 3) := by decide +kernel
theorem dX11_gains_17 : decode cX11_gains 17 = .ok (.iconst (-1), 1) := by decide +kernel
theorem dX11_gains_18 : decode cX11_gains 18 = .ok (.ireturn, 1) := by decide +kernel
theorem dX11_exchange_0 : decode cX11_exchange 0 = .ok (.aload_n 0, 1) := by decide +kernel
theorem dX11_exchange_1 : decode cX11_exchange 1 = .ok (.iload_n 1, 1) := by decide +kernel
theorem dX11_exchange_2 : decode cX11_exchange 2 = .ok (.invokevirtual 328, 3) := by decide +kernel
theorem dX11_exchange_5 : decode cX11_exchange 5 = .ok (.ifCond .ne 5, 3) := by decide +kernel
theorem dX11_exchange_8 : decode cX11_exchange 8 = .ok (.iconst (-1), 1) := by decide +kernel
theorem dX11_exchange_9 : decode cX11_exchange 9 = .ok (.ireturn, 1) := by decide +kernel
theorem dX11_agree_0 : decode cX11_agree 0 = .ok (.aload_n 0, 1) := by decide +kernel
theorem dX11_agree_1 : decode cX11_agree 1 = .ok (.getfield 303, 3) := by decide +kernel
theorem dX11_agree_4 : decode cX11_agree 4 = .ok (.ifCond .ne 5, 3) := by decide +kernel
theorem dX11_agree_7 : decode cX11_agree 7 = .ok (.iconst (-1), 1) := by decide +kernel
theorem dX11_agree_8 : decode cX11_agree 8 = .ok (.ireturn, 1) := by decide +kernel
theorem dX11_vote_0 : decode cX11_vote 0 = .ok (.aload_n 0, 1) := by decide +kernel
theorem dX11_vote_1 : decode cX11_vote 1 = .ok (.iload_n 1, 1) := by decide +kernel
theorem dX11_vote_2 : decode cX11_vote 2 = .ok (.invokevirtual 325, 3) := by decide +kernel
theorem dX11_vote_5 : decode cX11_vote 5 = .ok (.ifCond .eq 38, 3) := by decide +kernel
theorem dX11_vote_43 : decode cX11_vote 43 = .ok (.ldc_w 356, 3) := by decide +kernel
theorem dX11_vote_46 : decode cX11_vote 46 = .ok (.ireturn, 1) := by decide +kernel
theorem dX11_image_0 : decode cX11_image 0 = .ok (.aload_n 0, 1) := by decide +kernel
theorem dX11_image_1 : decode cX11_image 1 = .ok (.getfield 303, 3) := by decide +kernel
theorem dX11_image_4 : decode cX11_image 4 = .ok (.ifCond .ne 5, 3) := by decide +kernel
theorem dX11_image_7 : decode cX11_image 7 = .ok (.iconst (-1), 1) := by decide +kernel
theorem dX11_image_8 : decode cX11_image 8 = .ok (.ireturn, 1) := by decide +kernel
theorem dX11_back_0 : decode cX11_back 0 = .ok (.aload_n 0, 1) := by decide +kernel
theorem dX11_back_1 : decode cX11_back 1 = .ok (.getfield 315, 3) := by decide +kernel
theorem dX11_back_4 : decode cX11_back 4 = .ok (.ifCond .ne 5, 3) := by decide +kernel
theorem dX11_back_7 : decode cX11_back 7 = .ok (.iconst (-1), 1) := by decide +kernel
theorem dX11_back_8 : decode cX11_back 8 = .ok (.ireturn, 1) := by decide +kernel
theorem dX11_told_0 : decode cX11_told 0 = .ok (.iload_n 1, 1) := by decide +kernel
theorem dX11_told_1 : decode cX11_told 1 = .ok (.tableswitch 78 0 6 #[43, 48, 53, 58, 63, 68, 73], 43) := by decide +kernel
theorem dX11_told_44 : decode cX11_told 44 = .ok (.aload_n 0, 1) := by decide +kernel
theorem dX11_told_45 : decode cX11_told 45 = .ok (.getfield 303, 3) := by decide +kernel
theorem dX11_told_48 : decode cX11_told 48 = .ok (.ireturn, 1) := by decide +kernel
theorem dX11_told_49 : decode cX11_told 49 = .ok (.aload_n 0, 1) := by decide +kernel
theorem dX11_told_50 : decode cX11_told 50 = .ok (.getfield 306, 3) := by decide +kernel
theorem dX11_told_53 : decode cX11_told 53 = .ok (.ireturn, 1) := by decide +kernel
theorem dX11_told_54 : decode cX11_told 54 = .ok (.aload_n 0, 1) := by decide +kernel
theorem dX11_told_55 : decode cX11_told 55 = .ok (.getfield 322, 3) := by decide +kernel
theorem dX11_told_58 : decode cX11_told 58 = .ok (.ireturn, 1) := by decide +kernel
theorem dX11_told_59 : decode cX11_told 59 = .ok (.aload_n 0, 1) := by decide +kernel
theorem dX11_told_60 : decode cX11_told 60 = .ok (.getfield 160, 3) := by decide +kernel
theorem dX11_told_63 : decode cX11_told 63 = .ok (.ireturn, 1) := by decide +kernel
theorem dX11_told_64 : decode cX11_told 64 = .ok (.aload_n 0, 1) := by decide +kernel
theorem dX11_told_65 : decode cX11_told 65 = .ok (.getfield 64, 3) := by decide +kernel
theorem dX11_told_68 : decode cX11_told 68 = .ok (.ireturn, 1) := by decide +kernel
theorem dX11_told_69 : decode cX11_told 69 = .ok (.aload_n 0, 1) := by decide +kernel
theorem dX11_told_70 : decode cX11_told 70 = .ok (.getfield 309, 3) := by decide +kernel
theorem dX11_told_73 : decode cX11_told 73 = .ok (.ireturn, 1) := by decide +kernel
theorem dX11_told_74 : decode cX11_told 74 = .ok (.aload_n 0, 1) := by decide +kernel
theorem dX11_told_75 : decode cX11_told 75 = .ok (.getfield 74, 3) := by decide +kernel
theorem dX11_told_78 : decode cX11_told 78 = .ok (.ireturn, 1) := by decide +kernel
theorem dX11_told_79 : decode cX11_told 79 = .ok (.ldc_w 356, 3) := by decide +kernel
theorem dX11_told_82 : decode cX11_told 82 = .ok (.ireturn, 1) := by decide +kernel
theorem dJ7_fill_53178_0 : decode cJ7_fill_53178 0 = .ok (.iconst 0, 1) := by decide +kernel
theorem dJ7_fill_53178_1 : decode cJ7_fill_53178 1 = .ok (.istore_n 2, 1) := by decide +kernel
theorem dJ7_fill_53178_2 : decode cJ7_fill_53178 2 = .ok (.aload_n 0, 1) := by decide +kernel
theorem dJ7_fill_53178_3 : decode cJ7_fill_53178 3 = .ok (.arraylength, 1) := by decide +kernel
theorem dJ7_fill_53178_4 : decode cJ7_fill_53178 4 = .ok (.istore_n 3, 1) := by decide +kernel
theorem dJ7_fill_53178_5 : decode cJ7_fill_53178 5 = .ok (.iload_n 2, 1) := by decide +kernel
theorem dJ7_fill_53178_6 : decode cJ7_fill_53178 6 = .ok (.iload_n 3, 1) := by decide +kernel
theorem dJ7_fill_53178_7 : decode cJ7_fill_53178 7 = .ok (.if_icmp .ge 13, 3) := by decide +kernel
theorem dJ7_fill_53178_10 : decode cJ7_fill_53178 10 = .ok (.aload_n 0, 1) := by decide +kernel
theorem dJ7_fill_53178_11 : decode cJ7_fill_53178 11 = .ok (.iload_n 2, 1) := by decide +kernel
theorem dJ7_fill_53178_12 : decode cJ7_fill_53178 12 = .ok (.iload_n 1, 1) := by decide +kernel
theorem dJ7_fill_53178_13 : decode cJ7_fill_53178 13 = .ok (.iastore, 1) := by decide +kernel
theorem dJ7_fill_53178_14 : decode cJ7_fill_53178 14 = .ok (.iinc 2 1, 3) := by decide +kernel
theorem dJ7_fill_53178_17 : decode cJ7_fill_53178 17 = .ok (.goto (-12), 3) := by decide +kernel
theorem dJ7_fill_53178_20 : decode cJ7_fill_53178 20 = .ok (.return_, 1) := by decide +kernel
theorem dL_desk_0 : decode cL_desk 0 = .ok (.aload_n 2, 1) := by decide +kernel
theorem dL_desk_1 : decode cL_desk 1 = .ok (.iconst 0, 1) := by decide +kernel
theorem dL_desk_2 : decode cL_desk 2 = .ok (.aload_n 0, 1) := by decide +kernel
theorem dL_desk_3 : decode cL_desk 3 = .ok (.iload_n 1, 1) := by decide +kernel
theorem dL_desk_4 : decode cL_desk 4 = .ok (.invokevirtual 7, 3) := by decide +kernel
theorem dL_desk_12 : decode cL_desk 12 = .ok (.astore_n 3, 1) := by decide +kernel
theorem dL_desk_13 : decode cL_desk 13 = .ok (.iconst 1, 1) := by decide +kernel
theorem dL_desk_14 : decode cL_desk 14 = .ok (.ireturn, 1) := by decide +kernel
theorem dL_law_0 : decode cL_law 0 = .ok (.new 8, 3) := by decide +kernel
theorem dL_law_3 : decode cL_law 3 = .ok (.dup, 1) := by decide +kernel
theorem dL_law_4 : decode cL_law 4 = .ok (.invokespecial 15, 3) := by decide +kernel
theorem dL_law_7 : decode cL_law 7 = .ok (.astore_n 1, 1) := by decide +kernel
theorem dL_law_8 : decode cL_law 8 = .ok (.new 16, 3) := by decide +kernel
theorem dL_law_11 : decode cL_law 11 = .ok (.dup, 1) := by decide +kernel
theorem dL_law_12 : decode cL_law 12 = .ok (.invokespecial 18, 3) := by decide +kernel
theorem dL_law_15 : decode cL_law 15 = .ok (.astore_n 2, 1) := by decide +kernel
theorem dL_law_16 : decode cL_law 16 = .ok (.iconst 1, 1) := by decide +kernel
theorem dL_law_17 : decode cL_law 17 = .ok (.newarray .long, 2) := by decide +kernel
theorem dL_law_19 : decode cL_law 19 = .ok (.astore_n 3, 1) := by decide +kernel
theorem dL_law_20 : decode cL_law 20 = .ok (.iconst 0, 1) := by decide +kernel
theorem dL_law_21 : decode cL_law 21 = .ok (.istore 4, 2) := by decide +kernel
theorem dL_law_23 : decode cL_law 23 = .ok (.iload 4, 2) := by decide +kernel
theorem dL_law_25 : decode cL_law 25 = .ok (.aload_n 0, 1) := by decide +kernel
theorem dL_law_26 : decode cL_law 26 = .ok (.arraylength, 1) := by decide +kernel
theorem dL_law_27 : decode cL_law 27 = .ok (.bipush 6, 2) := by decide +kernel
theorem dL_law_29 : decode cL_law 29 = .ok (.isub, 1) := by decide +kernel
theorem dL_law_30 : decode cL_law 30 = .ok (.if_icmp .gt 1186, 3) := by decide +kernel
theorem dL_law_33 : decode cL_law 33 = .ok (.aload_n 0, 1) := by decide +kernel
theorem dL_law_34 : decode cL_law 34 = .ok (.iload 4, 2) := by decide +kernel
theorem dL_law_36 : decode cL_law 36 = .ok (.iaload, 1) := by decide +kernel
theorem dL_law_37 : decode cL_law 37 = .ok (.bipush 63, 2) := by decide +kernel
theorem dL_law_39 : decode cL_law 39 = .ok (.iand, 1) := by decide +kernel
theorem dL_law_40 : decode cL_law 40 = .ok (.tableswitch 1170 0 34 #[156, 229, 254, 279, 304, 360, 397, 434, 483, 520, 545, 582, 619, 632, 657, 694, 731, 744, 769, 782, 807, 832, 857, 870, 883, 896, 945, 970, 995, 1032, 1057, 1082, 1119, 1132, 1145], 156) := by decide +kernel
theorem dL_law_196 : decode cL_law 196 = .ok (.aload_n 1, 1) := by decide +kernel
theorem dL_law_197 : decode cL_law 197 = .ok (.aload_n 0, 1) := by decide +kernel
theorem dL_law_198 : decode cL_law 198 = .ok (.iload 4, 2) := by decide +kernel
theorem dL_law_200 : decode cL_law 200 = .ok (.iconst 1, 1) := by decide +kernel
theorem dL_law_201 : decode cL_law 201 = .ok (.iadd, 1) := by decide +kernel
theorem dL_law_202 : decode cL_law 202 = .ok (.iaload, 1) := by decide +kernel
theorem dL_law_203 : decode cL_law 203 = .ok (.aload_n 0, 1) := by decide +kernel
theorem dL_law_204 : decode cL_law 204 = .ok (.iload 4, 2) := by decide +kernel
theorem dL_law_206 : decode cL_law 206 = .ok (.iconst 2, 1) := by decide +kernel
theorem dL_law_207 : decode cL_law 207 = .ok (.iadd, 1) := by decide +kernel
theorem dL_law_208 : decode cL_law 208 = .ok (.iaload, 1) := by decide +kernel
theorem dL_law_209 : decode cL_law 209 = .ok (.aload_n 0, 1) := by decide +kernel
theorem dL_law_210 : decode cL_law 210 = .ok (.iload 4, 2) := by decide +kernel
theorem dL_law_212 : decode cL_law 212 = .ok (.iconst 3, 1) := by decide +kernel
theorem dL_law_213 : decode cL_law 213 = .ok (.iadd, 1) := by decide +kernel
theorem dL_law_214 : decode cL_law 214 = .ok (.iaload, 1) := by decide +kernel
theorem dL_law_215 : decode cL_law 215 = .ok (.aload_n 0, 1) := by decide +kernel
theorem dL_law_216 : decode cL_law 216 = .ok (.iload 4, 2) := by decide +kernel
theorem dL_law_218 : decode cL_law 218 = .ok (.iconst 4, 1) := by decide +kernel
theorem dL_law_219 : decode cL_law 219 = .ok (.iadd, 1) := by decide +kernel
theorem dL_law_220 : decode cL_law 220 = .ok (.iaload, 1) := by decide +kernel
theorem dL_law_221 : decode cL_law 221 = .ok (.aload_n 0, 1) := by decide +kernel
theorem dL_law_222 : decode cL_law 222 = .ok (.iload 4, 2) := by decide +kernel
theorem dL_law_224 : decode cL_law 224 = .ok (.iconst 5, 1) := by decide +kernel
theorem dL_law_225 : decode cL_law 225 = .ok (.iadd, 1) := by decide +kernel
theorem dL_law_226 : decode cL_law 226 = .ok (.iaload, 1) := by decide +kernel
theorem dL_law_227 : decode cL_law 227 = .ok (.invokevirtual 19, 3) := by decide +kernel
theorem dL_law_230 : decode cL_law 230 = .ok (.aload_n 2, 1) := by decide +kernel
theorem dL_law_231 : decode cL_law 231 = .ok (.aload_n 0, 1) := by decide +kernel
theorem dL_law_232 : decode cL_law 232 = .ok (.iload 4, 2) := by decide +kernel
theorem dL_law_234 : decode cL_law 234 = .ok (.iconst 1, 1) := by decide +kernel
theorem dL_law_235 : decode cL_law 235 = .ok (.iadd, 1) := by decide +kernel
theorem dL_law_236 : decode cL_law 236 = .ok (.iaload, 1) := by decide +kernel
theorem dL_law_237 : decode cL_law 237 = .ok (.aload_n 0, 1) := by decide +kernel
theorem dL_law_238 : decode cL_law 238 = .ok (.iload 4, 2) := by decide +kernel
theorem dL_law_240 : decode cL_law 240 = .ok (.iconst 2, 1) := by decide +kernel
theorem dL_law_241 : decode cL_law 241 = .ok (.iadd, 1) := by decide +kernel
theorem dL_law_242 : decode cL_law 242 = .ok (.iaload, 1) := by decide +kernel
theorem dL_law_243 : decode cL_law 243 = .ok (.aload_n 0, 1) := by decide +kernel
theorem dL_law_244 : decode cL_law 244 = .ok (.iload 4, 2) := by decide +kernel
theorem dL_law_246 : decode cL_law 246 = .ok (.iconst 3, 1) := by decide +kernel
theorem dL_law_247 : decode cL_law 247 = .ok (.iadd, 1) := by decide +kernel
theorem dL_law_248 : decode cL_law 248 = .ok (.iaload, 1) := by decide +kernel
theorem dL_law_249 : decode cL_law 249 = .ok (.aload_n 0, 1) := by decide +kernel
theorem dL_law_250 : decode cL_law 250 = .ok (.iload 4, 2) := by decide +kernel
theorem dL_law_252 : decode cL_law 252 = .ok (.iconst 4, 1) := by decide +kernel
theorem dL_law_253 : decode cL_law 253 = .ok (.iadd, 1) := by decide +kernel
theorem dL_law_254 : decode cL_law 254 = .ok (.iaload, 1) := by decide +kernel
theorem dL_law_255 : decode cL_law 255 = .ok (.aload_n 0, 1) := by decide +kernel
theorem dL_law_256 : decode cL_law 256 = .ok (.iload 4, 2) := by decide +kernel
theorem dL_law_258 : decode cL_law 258 = .ok (.iconst 5, 1) := by decide +kernel
theorem dL_law_259 : decode cL_law 259 = .ok (.iadd, 1) := by decide +kernel
theorem dL_law_260 : decode cL_law 260 = .ok (.iaload, 1) := by decide +kernel
theorem dL_law_261 : decode cL_law 261 = .ok (.invokevirtual 23, 3) := by decide +kernel
theorem dL_law_264 : decode cL_law 264 = .ok (.if_icmp .eq 946, 3) := by decide +kernel
theorem dL_law_269 : decode cL_law 269 = .ok (.aload_n 1, 1) := by decide +kernel
theorem dL_law_270 : decode cL_law 270 = .ok (.aload_n 0, 1) := by decide +kernel
theorem dL_law_271 : decode cL_law 271 = .ok (.iload 4, 2) := by decide +kernel
theorem dL_law_273 : decode cL_law 273 = .ok (.iconst 1, 1) := by decide +kernel
theorem dL_law_274 : decode cL_law 274 = .ok (.iadd, 1) := by decide +kernel
theorem dL_law_275 : decode cL_law 275 = .ok (.iaload, 1) := by decide +kernel
theorem dL_law_276 : decode cL_law 276 = .ok (.invokevirtual 24, 3) := by decide +kernel
theorem dL_law_279 : decode cL_law 279 = .ok (.aload_n 2, 1) := by decide +kernel
theorem dL_law_280 : decode cL_law 280 = .ok (.aload_n 0, 1) := by decide +kernel
theorem dL_law_281 : decode cL_law 281 = .ok (.iload 4, 2) := by decide +kernel
theorem dL_law_283 : decode cL_law 283 = .ok (.iconst 1, 1) := by decide +kernel
theorem dL_law_284 : decode cL_law 284 = .ok (.iadd, 1) := by decide +kernel
theorem dL_law_285 : decode cL_law 285 = .ok (.iaload, 1) := by decide +kernel
theorem dL_law_286 : decode cL_law 286 = .ok (.invokevirtual 28, 3) := by decide +kernel
theorem dL_law_289 : decode cL_law 289 = .ok (.if_icmp .eq 921, 3) := by decide +kernel
theorem dL_law_294 : decode cL_law 294 = .ok (.aload_n 1, 1) := by decide +kernel
theorem dL_law_295 : decode cL_law 295 = .ok (.aload_n 0, 1) := by decide +kernel
theorem dL_law_296 : decode cL_law 296 = .ok (.iload 4, 2) := by decide +kernel
theorem dL_law_298 : decode cL_law 298 = .ok (.iconst 1, 1) := by decide +kernel
theorem dL_law_299 : decode cL_law 299 = .ok (.iadd, 1) := by decide +kernel
theorem dL_law_300 : decode cL_law 300 = .ok (.iaload, 1) := by decide +kernel
theorem dL_law_301 : decode cL_law 301 = .ok (.invokevirtual 29, 3) := by decide +kernel
theorem dL_law_304 : decode cL_law 304 = .ok (.aload_n 2, 1) := by decide +kernel
theorem dL_law_305 : decode cL_law 305 = .ok (.aload_n 0, 1) := by decide +kernel
theorem dL_law_306 : decode cL_law 306 = .ok (.iload 4, 2) := by decide +kernel
theorem dL_law_308 : decode cL_law 308 = .ok (.iconst 1, 1) := by decide +kernel
theorem dL_law_309 : decode cL_law 309 = .ok (.iadd, 1) := by decide +kernel
theorem dL_law_310 : decode cL_law 310 = .ok (.iaload, 1) := by decide +kernel
theorem dL_law_311 : decode cL_law 311 = .ok (.invokevirtual 32, 3) := by decide +kernel
theorem dL_law_314 : decode cL_law 314 = .ok (.if_icmp .eq 896, 3) := by decide +kernel
theorem dL_law_319 : decode cL_law 319 = .ok (.aload_n 1, 1) := by decide +kernel
theorem dL_law_320 : decode cL_law 320 = .ok (.aload_n 0, 1) := by decide +kernel
theorem dL_law_321 : decode cL_law 321 = .ok (.iload 4, 2) := by decide +kernel
theorem dL_law_323 : decode cL_law 323 = .ok (.iconst 1, 1) := by decide +kernel
theorem dL_law_324 : decode cL_law 324 = .ok (.iadd, 1) := by decide +kernel
theorem dL_law_325 : decode cL_law 325 = .ok (.iaload, 1) := by decide +kernel
theorem dL_law_326 : decode cL_law 326 = .ok (.invokevirtual 33, 3) := by decide +kernel
theorem dL_law_329 : decode cL_law 329 = .ok (.aload_n 2, 1) := by decide +kernel
theorem dL_law_330 : decode cL_law 330 = .ok (.aload_n 0, 1) := by decide +kernel
theorem dL_law_331 : decode cL_law 331 = .ok (.iload 4, 2) := by decide +kernel
theorem dL_law_333 : decode cL_law 333 = .ok (.iconst 1, 1) := by decide +kernel
theorem dL_law_334 : decode cL_law 334 = .ok (.iadd, 1) := by decide +kernel
theorem dL_law_335 : decode cL_law 335 = .ok (.iaload, 1) := by decide +kernel
theorem dL_law_336 : decode cL_law 336 = .ok (.invokevirtual 36, 3) := by decide +kernel
theorem dL_law_339 : decode cL_law 339 = .ok (.if_icmp .eq 871, 3) := by decide +kernel
theorem dL_law_344 : decode cL_law 344 = .ok (.aload_n 1, 1) := by decide +kernel
theorem dL_law_345 : decode cL_law 345 = .ok (.aload_n 0, 1) := by decide +kernel
theorem dL_law_346 : decode cL_law 346 = .ok (.iload 4, 2) := by decide +kernel
theorem dL_law_348 : decode cL_law 348 = .ok (.iconst 1, 1) := by decide +kernel
theorem dL_law_349 : decode cL_law 349 = .ok (.iadd, 1) := by decide +kernel
theorem dL_law_350 : decode cL_law 350 = .ok (.iaload, 1) := by decide +kernel
theorem dL_law_351 : decode cL_law 351 = .ok (.aload_n 3, 1) := by decide +kernel
theorem dL_law_352 : decode cL_law 352 = .ok (.invokestatic 37, 3) := by decide +kernel
theorem dL_law_355 : decode cL_law 355 = .ok (.istore 5, 2) := by decide +kernel
theorem dL_law_357 : decode cL_law 357 = .ok (.aload_n 2, 1) := by decide +kernel
theorem dL_law_358 : decode cL_law 358 = .ok (.aload_n 0, 1) := by decide +kernel
theorem dL_law_359 : decode cL_law 359 = .ok (.iload 4, 2) := by decide +kernel
theorem dL_law_361 : decode cL_law 361 = .ok (.iconst 1, 1) := by decide +kernel
theorem dL_law_362 : decode cL_law 362 = .ok (.iadd, 1) := by decide +kernel
theorem dL_law_363 : decode cL_law 363 = .ok (.iaload, 1) := by decide +kernel
theorem dL_law_364 : decode cL_law 364 = .ok (.invokevirtual 42, 3) := by decide +kernel
theorem dL_law_367 : decode cL_law 367 = .ok (.istore 6, 2) := by decide +kernel
theorem dL_law_369 : decode cL_law 369 = .ok (.aload_n 2, 1) := by decide +kernel
theorem dL_law_370 : decode cL_law 370 = .ok (.invokevirtual 43, 3) := by decide +kernel
theorem dL_law_373 : decode cL_law 373 = .ok (.iload 5, 2) := by decide +kernel
theorem dL_law_375 : decode cL_law 375 = .ok (.if_icmp .eq 5, 3) := by decide +kernel
theorem dL_law_380 : decode cL_law 380 = .ok (.iload 5, 2) := by decide +kernel
theorem dL_law_382 : decode cL_law 382 = .ok (.ifCond .ne 15, 3) := by decide +kernel
theorem dL_law_397 : decode cL_law 397 = .ok (.goto 813, 3) := by decide +kernel
theorem dL_law_400 : decode cL_law 400 = .ok (.aload_n 1, 1) := by decide +kernel
theorem dL_law_401 : decode cL_law 401 = .ok (.aload_n 0, 1) := by decide +kernel
theorem dL_law_402 : decode cL_law 402 = .ok (.iload 4, 2) := by decide +kernel
theorem dL_law_404 : decode cL_law 404 = .ok (.iconst 1, 1) := by decide +kernel
theorem dL_law_405 : decode cL_law 405 = .ok (.iadd, 1) := by decide +kernel
theorem dL_law_406 : decode cL_law 406 = .ok (.iaload, 1) := by decide +kernel
theorem dL_law_407 : decode cL_law 407 = .ok (.aload_n 0, 1) := by decide +kernel
theorem dL_law_408 : decode cL_law 408 = .ok (.iload 4, 2) := by decide +kernel
theorem dL_law_410 : decode cL_law 410 = .ok (.iconst 2, 1) := by decide +kernel
theorem dL_law_411 : decode cL_law 411 = .ok (.iadd, 1) := by decide +kernel
theorem dL_law_412 : decode cL_law 412 = .ok (.iaload, 1) := by decide +kernel
theorem dL_law_413 : decode cL_law 413 = .ok (.invokevirtual 47, 3) := by decide +kernel
theorem dL_law_416 : decode cL_law 416 = .ok (.aload_n 2, 1) := by decide +kernel
theorem dL_law_417 : decode cL_law 417 = .ok (.aload_n 0, 1) := by decide +kernel
theorem dL_law_418 : decode cL_law 418 = .ok (.iload 4, 2) := by decide +kernel
theorem dL_law_420 : decode cL_law 420 = .ok (.iconst 1, 1) := by decide +kernel
theorem dL_law_421 : decode cL_law 421 = .ok (.iadd, 1) := by decide +kernel
theorem dL_law_422 : decode cL_law 422 = .ok (.iaload, 1) := by decide +kernel
theorem dL_law_423 : decode cL_law 423 = .ok (.aload_n 0, 1) := by decide +kernel
theorem dL_law_424 : decode cL_law 424 = .ok (.iload 4, 2) := by decide +kernel
theorem dL_law_426 : decode cL_law 426 = .ok (.iconst 2, 1) := by decide +kernel
theorem dL_law_427 : decode cL_law 427 = .ok (.iadd, 1) := by decide +kernel
theorem dL_law_428 : decode cL_law 428 = .ok (.iaload, 1) := by decide +kernel
theorem dL_law_429 : decode cL_law 429 = .ok (.invokevirtual 51, 3) := by decide +kernel
theorem dL_law_432 : decode cL_law 432 = .ok (.if_icmp .eq 778, 3) := by decide +kernel
theorem dL_law_437 : decode cL_law 437 = .ok (.aload_n 1, 1) := by decide +kernel
theorem dL_law_438 : decode cL_law 438 = .ok (.aload_n 0, 1) := by decide +kernel
theorem dL_law_439 : decode cL_law 439 = .ok (.iload 4, 2) := by decide +kernel
theorem dL_law_441 : decode cL_law 441 = .ok (.iconst 1, 1) := by decide +kernel
theorem dL_law_442 : decode cL_law 442 = .ok (.iadd, 1) := by decide +kernel
theorem dL_law_443 : decode cL_law 443 = .ok (.iaload, 1) := by decide +kernel
theorem dL_law_444 : decode cL_law 444 = .ok (.aload_n 0, 1) := by decide +kernel
theorem dL_law_445 : decode cL_law 445 = .ok (.iload 4, 2) := by decide +kernel
theorem dL_law_447 : decode cL_law 447 = .ok (.iconst 2, 1) := by decide +kernel
theorem dL_law_448 : decode cL_law 448 = .ok (.iadd, 1) := by decide +kernel
theorem dL_law_449 : decode cL_law 449 = .ok (.iaload, 1) := by decide +kernel
theorem dL_law_450 : decode cL_law 450 = .ok (.invokevirtual 52, 3) := by decide +kernel
theorem dL_law_453 : decode cL_law 453 = .ok (.aload_n 2, 1) := by decide +kernel
theorem dL_law_454 : decode cL_law 454 = .ok (.aload_n 0, 1) := by decide +kernel
theorem dL_law_455 : decode cL_law 455 = .ok (.iload 4, 2) := by decide +kernel
theorem dL_law_457 : decode cL_law 457 = .ok (.iconst 1, 1) := by decide +kernel
theorem dL_law_458 : decode cL_law 458 = .ok (.iadd, 1) := by decide +kernel
theorem dL_law_459 : decode cL_law 459 = .ok (.iaload, 1) := by decide +kernel
theorem dL_law_460 : decode cL_law 460 = .ok (.aload_n 0, 1) := by decide +kernel
theorem dL_law_461 : decode cL_law 461 = .ok (.iload 4, 2) := by decide +kernel
theorem dL_law_463 : decode cL_law 463 = .ok (.iconst 2, 1) := by decide +kernel
theorem dL_law_464 : decode cL_law 464 = .ok (.iadd, 1) := by decide +kernel
theorem dL_law_465 : decode cL_law 465 = .ok (.iaload, 1) := by decide +kernel
theorem dL_law_466 : decode cL_law 466 = .ok (.invokevirtual 55, 3) := by decide +kernel
theorem dL_law_469 : decode cL_law 469 = .ok (.if_icmp .eq 741, 3) := by decide +kernel
theorem dL_law_474 : decode cL_law 474 = .ok (.aload_n 1, 1) := by decide +kernel
theorem dL_law_475 : decode cL_law 475 = .ok (.aload_n 0, 1) := by decide +kernel
theorem dL_law_476 : decode cL_law 476 = .ok (.iload 4, 2) := by decide +kernel
theorem dL_law_478 : decode cL_law 478 = .ok (.iconst 1, 1) := by decide +kernel
theorem dL_law_479 : decode cL_law 479 = .ok (.iadd, 1) := by decide +kernel
theorem dL_law_480 : decode cL_law 480 = .ok (.iaload, 1) := by decide +kernel
theorem dL_law_481 : decode cL_law 481 = .ok (.aload_n 0, 1) := by decide +kernel
theorem dL_law_482 : decode cL_law 482 = .ok (.iload 4, 2) := by decide +kernel
theorem dL_law_484 : decode cL_law 484 = .ok (.iconst 2, 1) := by decide +kernel
theorem dL_law_485 : decode cL_law 485 = .ok (.iadd, 1) := by decide +kernel
theorem dL_law_486 : decode cL_law 486 = .ok (.iaload, 1) := by decide +kernel
theorem dL_law_487 : decode cL_law 487 = .ok (.aload_n 0, 1) := by decide +kernel
theorem dL_law_488 : decode cL_law 488 = .ok (.iload 4, 2) := by decide +kernel
theorem dL_law_490 : decode cL_law 490 = .ok (.iconst 3, 1) := by decide +kernel
theorem dL_law_491 : decode cL_law 491 = .ok (.iadd, 1) := by decide +kernel
theorem dL_law_492 : decode cL_law 492 = .ok (.iaload, 1) := by decide +kernel
theorem dL_law_493 : decode cL_law 493 = .ok (.invokevirtual 56, 3) := by decide +kernel
theorem dL_law_496 : decode cL_law 496 = .ok (.aload_n 2, 1) := by decide +kernel
theorem dL_law_497 : decode cL_law 497 = .ok (.aload_n 0, 1) := by decide +kernel
theorem dL_law_498 : decode cL_law 498 = .ok (.iload 4, 2) := by decide +kernel
theorem dL_law_500 : decode cL_law 500 = .ok (.iconst 1, 1) := by decide +kernel
theorem dL_law_501 : decode cL_law 501 = .ok (.iadd, 1) := by decide +kernel
theorem dL_law_502 : decode cL_law 502 = .ok (.iaload, 1) := by decide +kernel
theorem dL_law_503 : decode cL_law 503 = .ok (.aload_n 0, 1) := by decide +kernel
theorem dL_law_504 : decode cL_law 504 = .ok (.iload 4, 2) := by decide +kernel
theorem dL_law_506 : decode cL_law 506 = .ok (.iconst 2, 1) := by decide +kernel
theorem dL_law_507 : decode cL_law 507 = .ok (.iadd, 1) := by decide +kernel
theorem dL_law_508 : decode cL_law 508 = .ok (.iaload, 1) := by decide +kernel
theorem dL_law_509 : decode cL_law 509 = .ok (.aload_n 0, 1) := by decide +kernel
theorem dL_law_510 : decode cL_law 510 = .ok (.iload 4, 2) := by decide +kernel
theorem dL_law_512 : decode cL_law 512 = .ok (.iconst 3, 1) := by decide +kernel
theorem dL_law_513 : decode cL_law 513 = .ok (.iadd, 1) := by decide +kernel
theorem dL_law_514 : decode cL_law 514 = .ok (.iaload, 1) := by decide +kernel
theorem dL_law_515 : decode cL_law 515 = .ok (.invokevirtual 60, 3) := by decide +kernel
theorem dL_law_518 : decode cL_law 518 = .ok (.if_icmp .eq 692, 3) := by decide +kernel
theorem dL_law_523 : decode cL_law 523 = .ok (.aload_n 1, 1) := by decide +kernel
theorem dL_law_524 : decode cL_law 524 = .ok (.aload_n 0, 1) := by decide +kernel
theorem dL_law_525 : decode cL_law 525 = .ok (.iload 4, 2) := by decide +kernel
theorem dL_law_527 : decode cL_law 527 = .ok (.iconst 1, 1) := by decide +kernel
theorem dL_law_528 : decode cL_law 528 = .ok (.iadd, 1) := by decide +kernel
theorem dL_law_529 : decode cL_law 529 = .ok (.iaload, 1) := by decide +kernel
theorem dL_law_530 : decode cL_law 530 = .ok (.aload_n 0, 1) := by decide +kernel
theorem dL_law_531 : decode cL_law 531 = .ok (.iload 4, 2) := by decide +kernel
theorem dL_law_533 : decode cL_law 533 = .ok (.iconst 2, 1) := by decide +kernel
theorem dL_law_534 : decode cL_law 534 = .ok (.iadd, 1) := by decide +kernel
theorem dL_law_535 : decode cL_law 535 = .ok (.iaload, 1) := by decide +kernel
theorem dL_law_536 : decode cL_law 536 = .ok (.invokevirtual 61, 3) := by decide +kernel
theorem dL_law_539 : decode cL_law 539 = .ok (.aload_n 2, 1) := by decide +kernel
theorem dL_law_540 : decode cL_law 540 = .ok (.aload_n 0, 1) := by decide +kernel
theorem dL_law_541 : decode cL_law 541 = .ok (.iload 4, 2) := by decide +kernel
theorem dL_law_543 : decode cL_law 543 = .ok (.iconst 1, 1) := by decide +kernel
theorem dL_law_544 : decode cL_law 544 = .ok (.iadd, 1) := by decide +kernel
theorem dL_law_545 : decode cL_law 545 = .ok (.iaload, 1) := by decide +kernel
theorem dL_law_546 : decode cL_law 546 = .ok (.aload_n 0, 1) := by decide +kernel
theorem dL_law_547 : decode cL_law 547 = .ok (.iload 4, 2) := by decide +kernel
theorem dL_law_549 : decode cL_law 549 = .ok (.iconst 2, 1) := by decide +kernel
theorem dL_law_550 : decode cL_law 550 = .ok (.iadd, 1) := by decide +kernel
theorem dL_law_551 : decode cL_law 551 = .ok (.iaload, 1) := by decide +kernel
theorem dL_law_552 : decode cL_law 552 = .ok (.invokevirtual 64, 3) := by decide +kernel
theorem dL_law_555 : decode cL_law 555 = .ok (.if_icmp .eq 655, 3) := by decide +kernel
theorem dL_law_560 : decode cL_law 560 = .ok (.aload_n 1, 1) := by decide +kernel
theorem dL_law_561 : decode cL_law 561 = .ok (.aload_n 0, 1) := by decide +kernel
theorem dL_law_562 : decode cL_law 562 = .ok (.iload 4, 2) := by decide +kernel
theorem dL_law_564 : decode cL_law 564 = .ok (.iconst 1, 1) := by decide +kernel
theorem dL_law_565 : decode cL_law 565 = .ok (.iadd, 1) := by decide +kernel
theorem dL_law_566 : decode cL_law 566 = .ok (.iaload, 1) := by decide +kernel
theorem dL_law_567 : decode cL_law 567 = .ok (.invokevirtual 65, 3) := by decide +kernel
theorem dL_law_570 : decode cL_law 570 = .ok (.aload_n 2, 1) := by decide +kernel
theorem dL_law_571 : decode cL_law 571 = .ok (.aload_n 0, 1) := by decide +kernel
theorem dL_law_572 : decode cL_law 572 = .ok (.iload 4, 2) := by decide +kernel
theorem dL_law_574 : decode cL_law 574 = .ok (.iconst 1, 1) := by decide +kernel
theorem dL_law_575 : decode cL_law 575 = .ok (.iadd, 1) := by decide +kernel
theorem dL_law_576 : decode cL_law 576 = .ok (.iaload, 1) := by decide +kernel
theorem dL_law_577 : decode cL_law 577 = .ok (.invokevirtual 68, 3) := by decide +kernel
theorem dL_law_580 : decode cL_law 580 = .ok (.if_icmp .eq 630, 3) := by decide +kernel
theorem dL_law_585 : decode cL_law 585 = .ok (.aload_n 1, 1) := by decide +kernel
theorem dL_law_586 : decode cL_law 586 = .ok (.aload_n 0, 1) := by decide +kernel
theorem dL_law_587 : decode cL_law 587 = .ok (.iload 4, 2) := by decide +kernel
theorem dL_law_589 : decode cL_law 589 = .ok (.iconst 1, 1) := by decide +kernel
theorem dL_law_590 : decode cL_law 590 = .ok (.iadd, 1) := by decide +kernel
theorem dL_law_591 : decode cL_law 591 = .ok (.iaload, 1) := by decide +kernel
theorem dL_law_592 : decode cL_law 592 = .ok (.aload_n 0, 1) := by decide +kernel
theorem dL_law_593 : decode cL_law 593 = .ok (.iload 4, 2) := by decide +kernel
theorem dL_law_595 : decode cL_law 595 = .ok (.iconst 2, 1) := by decide +kernel
theorem dL_law_596 : decode cL_law 596 = .ok (.iadd, 1) := by decide +kernel
theorem dL_law_597 : decode cL_law 597 = .ok (.iaload, 1) := by decide +kernel
theorem dL_law_598 : decode cL_law 598 = .ok (.invokevirtual 69, 3) := by decide +kernel
theorem dL_law_601 : decode cL_law 601 = .ok (.aload_n 2, 1) := by decide +kernel
theorem dL_law_602 : decode cL_law 602 = .ok (.aload_n 0, 1) := by decide +kernel
theorem dL_law_603 : decode cL_law 603 = .ok (.iload 4, 2) := by decide +kernel
theorem dL_law_605 : decode cL_law 605 = .ok (.iconst 1, 1) := by decide +kernel
theorem dL_law_606 : decode cL_law 606 = .ok (.iadd, 1) := by decide +kernel
theorem dL_law_607 : decode cL_law 607 = .ok (.iaload, 1) := by decide +kernel
theorem dL_law_608 : decode cL_law 608 = .ok (.aload_n 0, 1) := by decide +kernel
theorem dL_law_609 : decode cL_law 609 = .ok (.iload 4, 2) := by decide +kernel
theorem dL_law_611 : decode cL_law 611 = .ok (.iconst 2, 1) := by decide +kernel
theorem dL_law_612 : decode cL_law 612 = .ok (.iadd, 1) := by decide +kernel
theorem dL_law_613 : decode cL_law 613 = .ok (.iaload, 1) := by decide +kernel
theorem dL_law_614 : decode cL_law 614 = .ok (.invokevirtual 72, 3) := by decide +kernel
theorem dL_law_617 : decode cL_law 617 = .ok (.if_icmp .eq 593, 3) := by decide +kernel
theorem dL_law_622 : decode cL_law 622 = .ok (.aload_n 1, 1) := by decide +kernel
theorem dL_law_623 : decode cL_law 623 = .ok (.aload_n 0, 1) := by decide +kernel
theorem dL_law_624 : decode cL_law 624 = .ok (.iload 4, 2) := by decide +kernel
theorem dL_law_626 : decode cL_law 626 = .ok (.iconst 1, 1) := by decide +kernel
theorem dL_law_627 : decode cL_law 627 = .ok (.iadd, 1) := by decide +kernel
theorem dL_law_628 : decode cL_law 628 = .ok (.iaload, 1) := by decide +kernel
theorem dL_law_629 : decode cL_law 629 = .ok (.aload_n 0, 1) := by decide +kernel
theorem dL_law_630 : decode cL_law 630 = .ok (.iload 4, 2) := by decide +kernel
theorem dL_law_632 : decode cL_law 632 = .ok (.iconst 2, 1) := by decide +kernel
theorem dL_law_633 : decode cL_law 633 = .ok (.iadd, 1) := by decide +kernel
theorem dL_law_634 : decode cL_law 634 = .ok (.iaload, 1) := by decide +kernel
theorem dL_law_635 : decode cL_law 635 = .ok (.invokevirtual 73, 3) := by decide +kernel
theorem dL_law_638 : decode cL_law 638 = .ok (.aload_n 2, 1) := by decide +kernel
theorem dL_law_639 : decode cL_law 639 = .ok (.aload_n 0, 1) := by decide +kernel
theorem dL_law_640 : decode cL_law 640 = .ok (.iload 4, 2) := by decide +kernel
theorem dL_law_642 : decode cL_law 642 = .ok (.iconst 1, 1) := by decide +kernel
theorem dL_law_643 : decode cL_law 643 = .ok (.iadd, 1) := by decide +kernel
theorem dL_law_644 : decode cL_law 644 = .ok (.iaload, 1) := by decide +kernel
theorem dL_law_645 : decode cL_law 645 = .ok (.aload_n 0, 1) := by decide +kernel
theorem dL_law_646 : decode cL_law 646 = .ok (.iload 4, 2) := by decide +kernel
theorem dL_law_648 : decode cL_law 648 = .ok (.iconst 2, 1) := by decide +kernel
theorem dL_law_649 : decode cL_law 649 = .ok (.iadd, 1) := by decide +kernel
theorem dL_law_650 : decode cL_law 650 = .ok (.iaload, 1) := by decide +kernel
theorem dL_law_651 : decode cL_law 651 = .ok (.invokevirtual 76, 3) := by decide +kernel
theorem dL_law_654 : decode cL_law 654 = .ok (.if_icmp .eq 556, 3) := by decide +kernel
theorem dL_law_659 : decode cL_law 659 = .ok (.aload_n 1, 1) := by decide +kernel
theorem dL_law_660 : decode cL_law 660 = .ok (.invokevirtual 77, 3) := by decide +kernel
theorem dL_law_663 : decode cL_law 663 = .ok (.aload_n 2, 1) := by decide +kernel
theorem dL_law_664 : decode cL_law 664 = .ok (.invokevirtual 80, 3) := by decide +kernel
theorem dL_law_667 : decode cL_law 667 = .ok (.if_icmp .eq 543, 3) := by decide +kernel
theorem dL_law_672 : decode cL_law 672 = .ok (.aload_n 1, 1) := by decide +kernel
theorem dL_law_673 : decode cL_law 673 = .ok (.aload_n 0, 1) := by decide +kernel
theorem dL_law_674 : decode cL_law 674 = .ok (.iload 4, 2) := by decide +kernel
theorem dL_law_676 : decode cL_law 676 = .ok (.iconst 1, 1) := by decide +kernel
theorem dL_law_677 : decode cL_law 677 = .ok (.iadd, 1) := by decide +kernel
theorem dL_law_678 : decode cL_law 678 = .ok (.iaload, 1) := by decide +kernel
theorem dL_law_679 : decode cL_law 679 = .ok (.invokevirtual 81, 3) := by decide +kernel
theorem dL_law_682 : decode cL_law 682 = .ok (.aload_n 2, 1) := by decide +kernel
theorem dL_law_683 : decode cL_law 683 = .ok (.aload_n 0, 1) := by decide +kernel
theorem dL_law_684 : decode cL_law 684 = .ok (.iload 4, 2) := by decide +kernel
theorem dL_law_686 : decode cL_law 686 = .ok (.iconst 1, 1) := by decide +kernel
theorem dL_law_687 : decode cL_law 687 = .ok (.iadd, 1) := by decide +kernel
theorem dL_law_688 : decode cL_law 688 = .ok (.iaload, 1) := by decide +kernel
theorem dL_law_689 : decode cL_law 689 = .ok (.invokevirtual 84, 3) := by decide +kernel
theorem dL_law_692 : decode cL_law 692 = .ok (.if_icmp .eq 518, 3) := by decide +kernel
theorem dL_law_697 : decode cL_law 697 = .ok (.aload_n 1, 1) := by decide +kernel
theorem dL_law_698 : decode cL_law 698 = .ok (.aload_n 0, 1) := by decide +kernel
theorem dL_law_699 : decode cL_law 699 = .ok (.iload 4, 2) := by decide +kernel
theorem dL_law_701 : decode cL_law 701 = .ok (.iconst 1, 1) := by decide +kernel
theorem dL_law_702 : decode cL_law 702 = .ok (.iadd, 1) := by decide +kernel
theorem dL_law_703 : decode cL_law 703 = .ok (.iaload, 1) := by decide +kernel
theorem dL_law_704 : decode cL_law 704 = .ok (.aload_n 0, 1) := by decide +kernel
theorem dL_law_705 : decode cL_law 705 = .ok (.iload 4, 2) := by decide +kernel
theorem dL_law_707 : decode cL_law 707 = .ok (.iconst 2, 1) := by decide +kernel
theorem dL_law_708 : decode cL_law 708 = .ok (.iadd, 1) := by decide +kernel
theorem dL_law_709 : decode cL_law 709 = .ok (.iaload, 1) := by decide +kernel
theorem dL_law_710 : decode cL_law 710 = .ok (.invokevirtual 85, 3) := by decide +kernel
theorem dL_law_713 : decode cL_law 713 = .ok (.aload_n 2, 1) := by decide +kernel
theorem dL_law_714 : decode cL_law 714 = .ok (.aload_n 0, 1) := by decide +kernel
theorem dL_law_715 : decode cL_law 715 = .ok (.iload 4, 2) := by decide +kernel
theorem dL_law_717 : decode cL_law 717 = .ok (.iconst 1, 1) := by decide +kernel
theorem dL_law_718 : decode cL_law 718 = .ok (.iadd, 1) := by decide +kernel
theorem dL_law_719 : decode cL_law 719 = .ok (.iaload, 1) := by decide +kernel
theorem dL_law_720 : decode cL_law 720 = .ok (.aload_n 0, 1) := by decide +kernel
theorem dL_law_721 : decode cL_law 721 = .ok (.iload 4, 2) := by decide +kernel
theorem dL_law_723 : decode cL_law 723 = .ok (.iconst 2, 1) := by decide +kernel
theorem dL_law_724 : decode cL_law 724 = .ok (.iadd, 1) := by decide +kernel
theorem dL_law_725 : decode cL_law 725 = .ok (.iaload, 1) := by decide +kernel
theorem dL_law_726 : decode cL_law 726 = .ok (.invokevirtual 88, 3) := by decide +kernel
theorem dL_law_729 : decode cL_law 729 = .ok (.if_icmp .eq 481, 3) := by decide +kernel
theorem dL_law_734 : decode cL_law 734 = .ok (.aload_n 1, 1) := by decide +kernel
theorem dL_law_735 : decode cL_law 735 = .ok (.aload_n 0, 1) := by decide +kernel
theorem dL_law_736 : decode cL_law 736 = .ok (.iload 4, 2) := by decide +kernel
theorem dL_law_738 : decode cL_law 738 = .ok (.iconst 1, 1) := by decide +kernel
theorem dL_law_739 : decode cL_law 739 = .ok (.iadd, 1) := by decide +kernel
theorem dL_law_740 : decode cL_law 740 = .ok (.iaload, 1) := by decide +kernel
theorem dL_law_741 : decode cL_law 741 = .ok (.aload_n 0, 1) := by decide +kernel
theorem dL_law_742 : decode cL_law 742 = .ok (.iload 4, 2) := by decide +kernel
theorem dL_law_744 : decode cL_law 744 = .ok (.iconst 2, 1) := by decide +kernel
theorem dL_law_745 : decode cL_law 745 = .ok (.iadd, 1) := by decide +kernel
theorem dL_law_746 : decode cL_law 746 = .ok (.iaload, 1) := by decide +kernel
theorem dL_law_747 : decode cL_law 747 = .ok (.invokevirtual 89, 3) := by decide +kernel
theorem dL_law_750 : decode cL_law 750 = .ok (.aload_n 2, 1) := by decide +kernel
theorem dL_law_751 : decode cL_law 751 = .ok (.aload_n 0, 1) := by decide +kernel
theorem dL_law_752 : decode cL_law 752 = .ok (.iload 4, 2) := by decide +kernel
theorem dL_law_754 : decode cL_law 754 = .ok (.iconst 1, 1) := by decide +kernel
theorem dL_law_755 : decode cL_law 755 = .ok (.iadd, 1) := by decide +kernel
theorem dL_law_756 : decode cL_law 756 = .ok (.iaload, 1) := by decide +kernel
theorem dL_law_757 : decode cL_law 757 = .ok (.aload_n 0, 1) := by decide +kernel
theorem dL_law_758 : decode cL_law 758 = .ok (.iload 4, 2) := by decide +kernel
theorem dL_law_760 : decode cL_law 760 = .ok (.iconst 2, 1) := by decide +kernel
theorem dL_law_761 : decode cL_law 761 = .ok (.iadd, 1) := by decide +kernel
theorem dL_law_762 : decode cL_law 762 = .ok (.iaload, 1) := by decide +kernel
theorem dL_law_763 : decode cL_law 763 = .ok (.invokevirtual 93, 3) := by decide +kernel
theorem dL_law_766 : decode cL_law 766 = .ok (.if_icmp .eq 444, 3) := by decide +kernel
theorem dL_law_771 : decode cL_law 771 = .ok (.aload_n 1, 1) := by decide +kernel
theorem dL_law_772 : decode cL_law 772 = .ok (.invokevirtual 94, 3) := by decide +kernel
theorem dL_law_775 : decode cL_law 775 = .ok (.aload_n 2, 1) := by decide +kernel
theorem dL_law_776 : decode cL_law 776 = .ok (.invokevirtual 97, 3) := by decide +kernel
theorem dL_law_779 : decode cL_law 779 = .ok (.if_icmp .eq 431, 3) := by decide +kernel
theorem dL_law_784 : decode cL_law 784 = .ok (.aload_n 1, 1) := by decide +kernel
theorem dL_law_785 : decode cL_law 785 = .ok (.aload_n 0, 1) := by decide +kernel
theorem dL_law_786 : decode cL_law 786 = .ok (.iload 4, 2) := by decide +kernel
theorem dL_law_788 : decode cL_law 788 = .ok (.iconst 1, 1) := by decide +kernel
theorem dL_law_789 : decode cL_law 789 = .ok (.iadd, 1) := by decide +kernel
theorem dL_law_790 : decode cL_law 790 = .ok (.iaload, 1) := by decide +kernel
theorem dL_law_791 : decode cL_law 791 = .ok (.invokevirtual 98, 3) := by decide +kernel
theorem dL_law_794 : decode cL_law 794 = .ok (.aload_n 2, 1) := by decide +kernel
theorem dL_law_795 : decode cL_law 795 = .ok (.aload_n 0, 1) := by decide +kernel
theorem dL_law_796 : decode cL_law 796 = .ok (.iload 4, 2) := by decide +kernel
theorem dL_law_798 : decode cL_law 798 = .ok (.iconst 1, 1) := by decide +kernel
theorem dL_law_799 : decode cL_law 799 = .ok (.iadd, 1) := by decide +kernel
theorem dL_law_800 : decode cL_law 800 = .ok (.iaload, 1) := by decide +kernel
theorem dL_law_801 : decode cL_law 801 = .ok (.invokevirtual 101, 3) := by decide +kernel
theorem dL_law_804 : decode cL_law 804 = .ok (.if_icmp .eq 406, 3) := by decide +kernel
theorem dL_law_809 : decode cL_law 809 = .ok (.aload_n 1, 1) := by decide +kernel
theorem dL_law_810 : decode cL_law 810 = .ok (.invokevirtual 102, 3) := by decide +kernel
theorem dL_law_813 : decode cL_law 813 = .ok (.aload_n 2, 1) := by decide +kernel
theorem dL_law_814 : decode cL_law 814 = .ok (.invokevirtual 105, 3) := by decide +kernel
theorem dL_law_817 : decode cL_law 817 = .ok (.if_icmp .eq 393, 3) := by decide +kernel
theorem dL_law_822 : decode cL_law 822 = .ok (.aload_n 1, 1) := by decide +kernel
theorem dL_law_823 : decode cL_law 823 = .ok (.aload_n 0, 1) := by decide +kernel
theorem dL_law_824 : decode cL_law 824 = .ok (.iload 4, 2) := by decide +kernel
theorem dL_law_826 : decode cL_law 826 = .ok (.iconst 1, 1) := by decide +kernel
theorem dL_law_827 : decode cL_law 827 = .ok (.iadd, 1) := by decide +kernel
theorem dL_law_828 : decode cL_law 828 = .ok (.iaload, 1) := by decide +kernel
theorem dL_law_829 : decode cL_law 829 = .ok (.invokevirtual 106, 3) := by decide +kernel
theorem dL_law_832 : decode cL_law 832 = .ok (.aload_n 2, 1) := by decide +kernel
theorem dL_law_833 : decode cL_law 833 = .ok (.aload_n 0, 1) := by decide +kernel
theorem dL_law_834 : decode cL_law 834 = .ok (.iload 4, 2) := by decide +kernel
theorem dL_law_836 : decode cL_law 836 = .ok (.iconst 1, 1) := by decide +kernel
theorem dL_law_837 : decode cL_law 837 = .ok (.iadd, 1) := by decide +kernel
theorem dL_law_838 : decode cL_law 838 = .ok (.iaload, 1) := by decide +kernel
theorem dL_law_839 : decode cL_law 839 = .ok (.invokevirtual 109, 3) := by decide +kernel
theorem dL_law_842 : decode cL_law 842 = .ok (.if_icmp .eq 368, 3) := by decide +kernel
theorem dL_law_847 : decode cL_law 847 = .ok (.aload_n 1, 1) := by decide +kernel
theorem dL_law_848 : decode cL_law 848 = .ok (.aload_n 0, 1) := by decide +kernel
theorem dL_law_849 : decode cL_law 849 = .ok (.iload 4, 2) := by decide +kernel
theorem dL_law_851 : decode cL_law 851 = .ok (.iconst 1, 1) := by decide +kernel
theorem dL_law_852 : decode cL_law 852 = .ok (.iadd, 1) := by decide +kernel
theorem dL_law_853 : decode cL_law 853 = .ok (.iaload, 1) := by decide +kernel
theorem dL_law_854 : decode cL_law 854 = .ok (.invokevirtual 110, 3) := by decide +kernel
theorem dL_law_857 : decode cL_law 857 = .ok (.aload_n 2, 1) := by decide +kernel
theorem dL_law_858 : decode cL_law 858 = .ok (.aload_n 0, 1) := by decide +kernel
theorem dL_law_859 : decode cL_law 859 = .ok (.iload 4, 2) := by decide +kernel
theorem dL_law_861 : decode cL_law 861 = .ok (.iconst 1, 1) := by decide +kernel
theorem dL_law_862 : decode cL_law 862 = .ok (.iadd, 1) := by decide +kernel
theorem dL_law_863 : decode cL_law 863 = .ok (.iaload, 1) := by decide +kernel
theorem dL_law_864 : decode cL_law 864 = .ok (.invokevirtual 113, 3) := by decide +kernel
theorem dL_law_867 : decode cL_law 867 = .ok (.if_icmp .eq 343, 3) := by decide +kernel
theorem dL_law_872 : decode cL_law 872 = .ok (.aload_n 1, 1) := by decide +kernel
theorem dL_law_873 : decode cL_law 873 = .ok (.aload_n 0, 1) := by decide +kernel
theorem dL_law_874 : decode cL_law 874 = .ok (.iload 4, 2) := by decide +kernel
theorem dL_law_876 : decode cL_law 876 = .ok (.iconst 1, 1) := by decide +kernel
theorem dL_law_877 : decode cL_law 877 = .ok (.iadd, 1) := by decide +kernel
theorem dL_law_878 : decode cL_law 878 = .ok (.iaload, 1) := by decide +kernel
theorem dL_law_879 : decode cL_law 879 = .ok (.invokevirtual 114, 3) := by decide +kernel
theorem dL_law_882 : decode cL_law 882 = .ok (.aload_n 2, 1) := by decide +kernel
theorem dL_law_883 : decode cL_law 883 = .ok (.aload_n 0, 1) := by decide +kernel
theorem dL_law_884 : decode cL_law 884 = .ok (.iload 4, 2) := by decide +kernel
theorem dL_law_886 : decode cL_law 886 = .ok (.iconst 1, 1) := by decide +kernel
theorem dL_law_887 : decode cL_law 887 = .ok (.iadd, 1) := by decide +kernel
theorem dL_law_888 : decode cL_law 888 = .ok (.iaload, 1) := by decide +kernel
theorem dL_law_889 : decode cL_law 889 = .ok (.invokevirtual 117, 3) := by decide +kernel
theorem dL_law_892 : decode cL_law 892 = .ok (.if_icmp .eq 318, 3) := by decide +kernel
theorem dL_law_897 : decode cL_law 897 = .ok (.aload_n 1, 1) := by decide +kernel
theorem dL_law_898 : decode cL_law 898 = .ok (.invokevirtual 118, 3) := by decide +kernel
theorem dL_law_901 : decode cL_law 901 = .ok (.aload_n 2, 1) := by decide +kernel
theorem dL_law_902 : decode cL_law 902 = .ok (.invokevirtual 121, 3) := by decide +kernel
theorem dL_law_905 : decode cL_law 905 = .ok (.if_icmp .eq 305, 3) := by decide +kernel
theorem dL_law_910 : decode cL_law 910 = .ok (.aload_n 1, 1) := by decide +kernel
theorem dL_law_911 : decode cL_law 911 = .ok (.invokevirtual 122, 3) := by decide +kernel
theorem dL_law_914 : decode cL_law 914 = .ok (.aload_n 2, 1) := by decide +kernel
theorem dL_law_915 : decode cL_law 915 = .ok (.invokevirtual 125, 3) := by decide +kernel
theorem dL_law_918 : decode cL_law 918 = .ok (.if_icmp .eq 292, 3) := by decide +kernel
theorem dL_law_923 : decode cL_law 923 = .ok (.aload_n 1, 1) := by decide +kernel
theorem dL_law_924 : decode cL_law 924 = .ok (.invokevirtual 126, 3) := by decide +kernel
theorem dL_law_927 : decode cL_law 927 = .ok (.aload_n 2, 1) := by decide +kernel
theorem dL_law_928 : decode cL_law 928 = .ok (.invokevirtual 129, 3) := by decide +kernel
theorem dL_law_931 : decode cL_law 931 = .ok (.if_icmp .eq 279, 3) := by decide +kernel
theorem dL_law_936 : decode cL_law 936 = .ok (.aload_n 1, 1) := by decide +kernel
theorem dL_law_937 : decode cL_law 937 = .ok (.aload_n 0, 1) := by decide +kernel
theorem dL_law_938 : decode cL_law 938 = .ok (.iload 4, 2) := by decide +kernel
theorem dL_law_940 : decode cL_law 940 = .ok (.iconst 1, 1) := by decide +kernel
theorem dL_law_941 : decode cL_law 941 = .ok (.iadd, 1) := by decide +kernel
theorem dL_law_942 : decode cL_law 942 = .ok (.iaload, 1) := by decide +kernel
theorem dL_law_943 : decode cL_law 943 = .ok (.aload_n 0, 1) := by decide +kernel
theorem dL_law_944 : decode cL_law 944 = .ok (.iload 4, 2) := by decide +kernel
theorem dL_law_946 : decode cL_law 946 = .ok (.iconst 2, 1) := by decide +kernel
theorem dL_law_947 : decode cL_law 947 = .ok (.iadd, 1) := by decide +kernel
theorem dL_law_948 : decode cL_law 948 = .ok (.iaload, 1) := by decide +kernel
theorem dL_law_949 : decode cL_law 949 = .ok (.aload_n 0, 1) := by decide +kernel
theorem dL_law_950 : decode cL_law 950 = .ok (.iload 4, 2) := by decide +kernel
theorem dL_law_952 : decode cL_law 952 = .ok (.iconst 3, 1) := by decide +kernel
theorem dL_law_953 : decode cL_law 953 = .ok (.iadd, 1) := by decide +kernel
theorem dL_law_954 : decode cL_law 954 = .ok (.iaload, 1) := by decide +kernel
theorem dL_law_955 : decode cL_law 955 = .ok (.invokevirtual 130, 3) := by decide +kernel
theorem dL_law_958 : decode cL_law 958 = .ok (.aload_n 2, 1) := by decide +kernel
theorem dL_law_959 : decode cL_law 959 = .ok (.aload_n 0, 1) := by decide +kernel
theorem dL_law_960 : decode cL_law 960 = .ok (.iload 4, 2) := by decide +kernel
theorem dL_law_962 : decode cL_law 962 = .ok (.iconst 1, 1) := by decide +kernel
theorem dL_law_963 : decode cL_law 963 = .ok (.iadd, 1) := by decide +kernel
theorem dL_law_964 : decode cL_law 964 = .ok (.iaload, 1) := by decide +kernel
theorem dL_law_965 : decode cL_law 965 = .ok (.aload_n 0, 1) := by decide +kernel
theorem dL_law_966 : decode cL_law 966 = .ok (.iload 4, 2) := by decide +kernel
theorem dL_law_968 : decode cL_law 968 = .ok (.iconst 2, 1) := by decide +kernel
theorem dL_law_969 : decode cL_law 969 = .ok (.iadd, 1) := by decide +kernel
theorem dL_law_970 : decode cL_law 970 = .ok (.iaload, 1) := by decide +kernel
theorem dL_law_971 : decode cL_law 971 = .ok (.aload_n 0, 1) := by decide +kernel
theorem dL_law_972 : decode cL_law 972 = .ok (.iload 4, 2) := by decide +kernel
theorem dL_law_974 : decode cL_law 974 = .ok (.iconst 3, 1) := by decide +kernel
theorem dL_law_975 : decode cL_law 975 = .ok (.iadd, 1) := by decide +kernel
theorem dL_law_976 : decode cL_law 976 = .ok (.iaload, 1) := by decide +kernel
theorem dL_law_977 : decode cL_law 977 = .ok (.invokevirtual 133, 3) := by decide +kernel
theorem dL_law_980 : decode cL_law 980 = .ok (.if_icmp .eq 230, 3) := by decide +kernel
theorem dL_law_985 : decode cL_law 985 = .ok (.aload_n 1, 1) := by decide +kernel
theorem dL_law_986 : decode cL_law 986 = .ok (.aload_n 0, 1) := by decide +kernel
theorem dL_law_987 : decode cL_law 987 = .ok (.iload 4, 2) := by decide +kernel
theorem dL_law_989 : decode cL_law 989 = .ok (.iconst 1, 1) := by decide +kernel
theorem dL_law_990 : decode cL_law 990 = .ok (.iadd, 1) := by decide +kernel
theorem dL_law_991 : decode cL_law 991 = .ok (.iaload, 1) := by decide +kernel
theorem dL_law_992 : decode cL_law 992 = .ok (.invokevirtual 134, 3) := by decide +kernel
theorem dL_law_995 : decode cL_law 995 = .ok (.aload_n 2, 1) := by decide +kernel
theorem dL_law_996 : decode cL_law 996 = .ok (.aload_n 0, 1) := by decide +kernel
theorem dL_law_997 : decode cL_law 997 = .ok (.iload 4, 2) := by decide +kernel
theorem dL_law_999 : decode cL_law 999 = .ok (.iconst 1, 1) := by decide +kernel
theorem dL_law_1000 : decode cL_law 1000 = .ok (.iadd, 1) := by decide +kernel
theorem dL_law_1001 : decode cL_law 1001 = .ok (.iaload, 1) := by decide +kernel
theorem dL_law_1002 : decode cL_law 1002 = .ok (.invokevirtual 137, 3) := by decide +kernel
theorem dL_law_1005 : decode cL_law 1005 = .ok (.if_icmp .eq 205, 3) := by decide +kernel
theorem dL_law_1010 : decode cL_law 1010 = .ok (.aload_n 1, 1) := by decide +kernel
theorem dL_law_1011 : decode cL_law 1011 = .ok (.aload_n 0, 1) := by decide +kernel
theorem dL_law_1012 : decode cL_law 1012 = .ok (.iload 4, 2) := by decide +kernel
theorem dL_law_1014 : decode cL_law 1014 = .ok (.iconst 1, 1) := by decide +kernel
theorem dL_law_1015 : decode cL_law 1015 = .ok (.iadd, 1) := by decide +kernel
theorem dL_law_1016 : decode cL_law 1016 = .ok (.iaload, 1) := by decide +kernel
theorem dL_law_1017 : decode cL_law 1017 = .ok (.invokevirtual 138, 3) := by decide +kernel
theorem dL_law_1020 : decode cL_law 1020 = .ok (.aload_n 2, 1) := by decide +kernel
theorem dL_law_1021 : decode cL_law 1021 = .ok (.aload_n 0, 1) := by decide +kernel
theorem dL_law_1022 : decode cL_law 1022 = .ok (.iload 4, 2) := by decide +kernel
theorem dL_law_1024 : decode cL_law 1024 = .ok (.iconst 1, 1) := by decide +kernel
theorem dL_law_1025 : decode cL_law 1025 = .ok (.iadd, 1) := by decide +kernel
theorem dL_law_1026 : decode cL_law 1026 = .ok (.iaload, 1) := by decide +kernel
theorem dL_law_1027 : decode cL_law 1027 = .ok (.invokevirtual 141, 3) := by decide +kernel
theorem dL_law_1030 : decode cL_law 1030 = .ok (.if_icmp .eq 180, 3) := by decide +kernel
theorem dL_law_1035 : decode cL_law 1035 = .ok (.aload_n 1, 1) := by decide +kernel
theorem dL_law_1036 : decode cL_law 1036 = .ok (.aload_n 0, 1) := by decide +kernel
theorem dL_law_1037 : decode cL_law 1037 = .ok (.iload 4, 2) := by decide +kernel
theorem dL_law_1039 : decode cL_law 1039 = .ok (.iconst 1, 1) := by decide +kernel
theorem dL_law_1040 : decode cL_law 1040 = .ok (.iadd, 1) := by decide +kernel
theorem dL_law_1041 : decode cL_law 1041 = .ok (.iaload, 1) := by decide +kernel
theorem dL_law_1042 : decode cL_law 1042 = .ok (.aload_n 0, 1) := by decide +kernel
theorem dL_law_1043 : decode cL_law 1043 = .ok (.iload 4, 2) := by decide +kernel
theorem dL_law_1045 : decode cL_law 1045 = .ok (.iconst 2, 1) := by decide +kernel
theorem dL_law_1046 : decode cL_law 1046 = .ok (.iadd, 1) := by decide +kernel
theorem dL_law_1047 : decode cL_law 1047 = .ok (.iaload, 1) := by decide +kernel
theorem dL_law_1048 : decode cL_law 1048 = .ok (.invokevirtual 142, 3) := by decide +kernel
theorem dL_law_1051 : decode cL_law 1051 = .ok (.aload_n 2, 1) := by decide +kernel
theorem dL_law_1052 : decode cL_law 1052 = .ok (.aload_n 0, 1) := by decide +kernel
theorem dL_law_1053 : decode cL_law 1053 = .ok (.iload 4, 2) := by decide +kernel
theorem dL_law_1055 : decode cL_law 1055 = .ok (.iconst 1, 1) := by decide +kernel
theorem dL_law_1056 : decode cL_law 1056 = .ok (.iadd, 1) := by decide +kernel
theorem dL_law_1057 : decode cL_law 1057 = .ok (.iaload, 1) := by decide +kernel
theorem dL_law_1058 : decode cL_law 1058 = .ok (.aload_n 0, 1) := by decide +kernel
theorem dL_law_1059 : decode cL_law 1059 = .ok (.iload 4, 2) := by decide +kernel
theorem dL_law_1061 : decode cL_law 1061 = .ok (.iconst 2, 1) := by decide +kernel
theorem dL_law_1062 : decode cL_law 1062 = .ok (.iadd, 1) := by decide +kernel
theorem dL_law_1063 : decode cL_law 1063 = .ok (.iaload, 1) := by decide +kernel
theorem dL_law_1064 : decode cL_law 1064 = .ok (.invokevirtual 145, 3) := by decide +kernel
theorem dL_law_1067 : decode cL_law 1067 = .ok (.if_icmp .eq 143, 3) := by decide +kernel
theorem dL_law_1072 : decode cL_law 1072 = .ok (.aload_n 1, 1) := by decide +kernel
theorem dL_law_1073 : decode cL_law 1073 = .ok (.aload_n 0, 1) := by decide +kernel
theorem dL_law_1074 : decode cL_law 1074 = .ok (.iload 4, 2) := by decide +kernel
theorem dL_law_1076 : decode cL_law 1076 = .ok (.iconst 1, 1) := by decide +kernel
theorem dL_law_1077 : decode cL_law 1077 = .ok (.iadd, 1) := by decide +kernel
theorem dL_law_1078 : decode cL_law 1078 = .ok (.iaload, 1) := by decide +kernel
theorem dL_law_1079 : decode cL_law 1079 = .ok (.invokevirtual 146, 3) := by decide +kernel
theorem dL_law_1082 : decode cL_law 1082 = .ok (.aload_n 2, 1) := by decide +kernel
theorem dL_law_1083 : decode cL_law 1083 = .ok (.aload_n 0, 1) := by decide +kernel
theorem dL_law_1084 : decode cL_law 1084 = .ok (.iload 4, 2) := by decide +kernel
theorem dL_law_1086 : decode cL_law 1086 = .ok (.iconst 1, 1) := by decide +kernel
theorem dL_law_1087 : decode cL_law 1087 = .ok (.iadd, 1) := by decide +kernel
theorem dL_law_1088 : decode cL_law 1088 = .ok (.iaload, 1) := by decide +kernel
theorem dL_law_1089 : decode cL_law 1089 = .ok (.invokevirtual 149, 3) := by decide +kernel
theorem dL_law_1092 : decode cL_law 1092 = .ok (.if_icmp .eq 118, 3) := by decide +kernel
theorem dL_law_1097 : decode cL_law 1097 = .ok (.aload_n 1, 1) := by decide +kernel
theorem dL_law_1098 : decode cL_law 1098 = .ok (.aload_n 0, 1) := by decide +kernel
theorem dL_law_1099 : decode cL_law 1099 = .ok (.iload 4, 2) := by decide +kernel
theorem dL_law_1101 : decode cL_law 1101 = .ok (.iconst 1, 1) := by decide +kernel
theorem dL_law_1102 : decode cL_law 1102 = .ok (.iadd, 1) := by decide +kernel
theorem dL_law_1103 : decode cL_law 1103 = .ok (.iaload, 1) := by decide +kernel
theorem dL_law_1104 : decode cL_law 1104 = .ok (.invokevirtual 150, 3) := by decide +kernel
theorem dL_law_1107 : decode cL_law 1107 = .ok (.aload_n 2, 1) := by decide +kernel
theorem dL_law_1108 : decode cL_law 1108 = .ok (.aload_n 0, 1) := by decide +kernel
theorem dL_law_1109 : decode cL_law 1109 = .ok (.iload 4, 2) := by decide +kernel
theorem dL_law_1111 : decode cL_law 1111 = .ok (.iconst 1, 1) := by decide +kernel
theorem dL_law_1112 : decode cL_law 1112 = .ok (.iadd, 1) := by decide +kernel
theorem dL_law_1113 : decode cL_law 1113 = .ok (.iaload, 1) := by decide +kernel
theorem dL_law_1114 : decode cL_law 1114 = .ok (.invokevirtual 153, 3) := by decide +kernel
theorem dL_law_1117 : decode cL_law 1117 = .ok (.if_icmp .eq 93, 3) := by decide +kernel
theorem dL_law_1122 : decode cL_law 1122 = .ok (.aload_n 1, 1) := by decide +kernel
theorem dL_law_1123 : decode cL_law 1123 = .ok (.aload_n 0, 1) := by decide +kernel
theorem dL_law_1124 : decode cL_law 1124 = .ok (.iload 4, 2) := by decide +kernel
theorem dL_law_1126 : decode cL_law 1126 = .ok (.iconst 1, 1) := by decide +kernel
theorem dL_law_1127 : decode cL_law 1127 = .ok (.iadd, 1) := by decide +kernel
theorem dL_law_1128 : decode cL_law 1128 = .ok (.iaload, 1) := by decide +kernel
theorem dL_law_1129 : decode cL_law 1129 = .ok (.aload_n 0, 1) := by decide +kernel
theorem dL_law_1130 : decode cL_law 1130 = .ok (.iload 4, 2) := by decide +kernel
theorem dL_law_1132 : decode cL_law 1132 = .ok (.iconst 2, 1) := by decide +kernel
theorem dL_law_1133 : decode cL_law 1133 = .ok (.iadd, 1) := by decide +kernel
theorem dL_law_1134 : decode cL_law 1134 = .ok (.iaload, 1) := by decide +kernel
theorem dL_law_1135 : decode cL_law 1135 = .ok (.invokevirtual 154, 3) := by decide +kernel
theorem dL_law_1138 : decode cL_law 1138 = .ok (.aload_n 2, 1) := by decide +kernel
theorem dL_law_1139 : decode cL_law 1139 = .ok (.aload_n 0, 1) := by decide +kernel
theorem dL_law_1140 : decode cL_law 1140 = .ok (.iload 4, 2) := by decide +kernel
theorem dL_law_1142 : decode cL_law 1142 = .ok (.iconst 1, 1) := by decide +kernel
theorem dL_law_1143 : decode cL_law 1143 = .ok (.iadd, 1) := by decide +kernel
theorem dL_law_1144 : decode cL_law 1144 = .ok (.iaload, 1) := by decide +kernel
theorem dL_law_1145 : decode cL_law 1145 = .ok (.aload_n 0, 1) := by decide +kernel
theorem dL_law_1146 : decode cL_law 1146 = .ok (.iload 4, 2) := by decide +kernel
theorem dL_law_1148 : decode cL_law 1148 = .ok (.iconst 2, 1) := by decide +kernel
theorem dL_law_1149 : decode cL_law 1149 = .ok (.iadd, 1) := by decide +kernel
theorem dL_law_1150 : decode cL_law 1150 = .ok (.iaload, 1) := by decide +kernel
theorem dL_law_1151 : decode cL_law 1151 = .ok (.invokevirtual 157, 3) := by decide +kernel
theorem dL_law_1154 : decode cL_law 1154 = .ok (.if_icmp .eq 56, 3) := by decide +kernel
theorem dL_law_1159 : decode cL_law 1159 = .ok (.aload_n 1, 1) := by decide +kernel
theorem dL_law_1160 : decode cL_law 1160 = .ok (.invokevirtual 158, 3) := by decide +kernel
theorem dL_law_1163 : decode cL_law 1163 = .ok (.aload_n 2, 1) := by decide +kernel
theorem dL_law_1164 : decode cL_law 1164 = .ok (.invokevirtual 161, 3) := by decide +kernel
theorem dL_law_1167 : decode cL_law 1167 = .ok (.if_icmp .eq 43, 3) := by decide +kernel
theorem dL_law_1172 : decode cL_law 1172 = .ok (.aload_n 1, 1) := by decide +kernel
theorem dL_law_1173 : decode cL_law 1173 = .ok (.invokevirtual 162, 3) := by decide +kernel
theorem dL_law_1176 : decode cL_law 1176 = .ok (.aload_n 2, 1) := by decide +kernel
theorem dL_law_1177 : decode cL_law 1177 = .ok (.invokevirtual 165, 3) := by decide +kernel
theorem dL_law_1180 : decode cL_law 1180 = .ok (.if_icmp .eq 30, 3) := by decide +kernel
theorem dL_law_1185 : decode cL_law 1185 = .ok (.aload_n 1, 1) := by decide +kernel
theorem dL_law_1186 : decode cL_law 1186 = .ok (.aload_n 0, 1) := by decide +kernel
theorem dL_law_1187 : decode cL_law 1187 = .ok (.iload 4, 2) := by decide +kernel
theorem dL_law_1189 : decode cL_law 1189 = .ok (.iconst 1, 1) := by decide +kernel
theorem dL_law_1190 : decode cL_law 1190 = .ok (.iadd, 1) := by decide +kernel
theorem dL_law_1191 : decode cL_law 1191 = .ok (.iaload, 1) := by decide +kernel
theorem dL_law_1192 : decode cL_law 1192 = .ok (.invokevirtual 166, 3) := by decide +kernel
theorem dL_law_1195 : decode cL_law 1195 = .ok (.aload_n 2, 1) := by decide +kernel
theorem dL_law_1196 : decode cL_law 1196 = .ok (.aload_n 0, 1) := by decide +kernel
theorem dL_law_1197 : decode cL_law 1197 = .ok (.iload 4, 2) := by decide +kernel
theorem dL_law_1199 : decode cL_law 1199 = .ok (.iconst 1, 1) := by decide +kernel
theorem dL_law_1200 : decode cL_law 1200 = .ok (.iadd, 1) := by decide +kernel
theorem dL_law_1201 : decode cL_law 1201 = .ok (.iaload, 1) := by decide +kernel
theorem dL_law_1202 : decode cL_law 1202 = .ok (.invokevirtual 169, 3) := by decide +kernel
theorem dL_law_1205 : decode cL_law 1205 = .ok (.if_icmp .eq 5, 3) := by decide +kernel
theorem dL_law_1210 : decode cL_law 1210 = .ok (.iinc 4 6, 3) := by decide +kernel
theorem dL_law_1213 : decode cL_law 1213 = .ok (.goto (-1190), 3) := by decide +kernel
theorem dL_law_1216 : decode cL_law 1216 = .ok (.iconst 1, 1) := by decide +kernel
theorem dL_law_1217 : decode cL_law 1217 = .ok (.ireturn, 1) := by decide +kernel
abbrev vwCl : List vw_C := [(RX0, TX0, 5), (RX1, TX1, 6), (RX2, TX2, 5), (RX3, TX3, 4), (RX4, TX4, 11), (RX5, TX5, 6), (RX6, TX6, 3), (RX7, TX7, 3), (RX8, TX8, 19), (RX9, TX9, 14), (RX10, TX10, 17), (RX11, TX11, 66)]
