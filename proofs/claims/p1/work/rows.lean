section
-- ===== PART A: goes FIRST, ahead of the names: the tables' words, and 'selects' of the private methods out of them =====
/-- a private method of a class that the tables say can be made, by its rows of tables_1 -/
def lw_okq (q : MethodName × Nat) : Prop := (q.1.cls ≠ "java/lang/invoke/MethodHandle" ∧ q.1.cls ≠ "java/lang/invoke/VarHandle") ∧ Cond.instantiable q.1.cls q.2 ∈ tables_1 ∧ Cond.privateMethod q.1 ∈ tables_1 ∧ Cond.instanceMethod q.1 ∈ tables_1
theorem lw_p0 : lw_okq (⟨"DeskMoves$Office", "readSeats", "(LDeskMoves$Tape;)Z"⟩, 11) := ⟨⟨by decide +kernel, by decide +kernel⟩, List.mem_of_getElem? (i := 77) (by decide +kernel), List.mem_of_getElem? (i := 357) (by decide +kernel), List.mem_of_getElem? (i := 358) (by decide +kernel)⟩
theorem lw_p1 : lw_okq (⟨"DeskMoves$Office", "hasBothKinds", "()Z"⟩, 11) := ⟨⟨by decide +kernel, by decide +kernel⟩, List.mem_of_getElem? (i := 77) (by decide +kernel), List.mem_of_getElem? (i := 365) (by decide +kernel), List.mem_of_getElem? (i := 366) (by decide +kernel)⟩
theorem lw_p2 : lw_okq (⟨"DeskMoves$Office", "addDesk", "(I)Z"⟩, 11) := ⟨⟨by decide +kernel, by decide +kernel⟩, List.mem_of_getElem? (i := 77) (by decide +kernel), List.mem_of_getElem? (i := 380) (by decide +kernel), List.mem_of_getElem? (i := 381) (by decide +kernel)⟩
theorem lw_p3 : lw_okq (⟨"DeskMoves$Office", "readDoors", "(LDeskMoves$Tape;)Z"⟩, 11) := ⟨⟨by decide +kernel, by decide +kernel⟩, List.mem_of_getElem? (i := 77) (by decide +kernel), List.mem_of_getElem? (i := 388) (by decide +kernel), List.mem_of_getElem? (i := 389) (by decide +kernel)⟩
theorem lw_p4 : lw_okq (⟨"DeskMoves$Office", "readDoor", "(LDeskMoves$Tape;)Z"⟩, 11) := ⟨⟨by decide +kernel, by decide +kernel⟩, List.mem_of_getElem? (i := 77) (by decide +kernel), List.mem_of_getElem? (i := 392) (by decide +kernel), List.mem_of_getElem? (i := 393) (by decide +kernel)⟩
theorem lw_p5 : lw_okq (⟨"DeskMoves$Office", "readQuarrels", "(LDeskMoves$Tape;)Z"⟩, 11) := ⟨⟨by decide +kernel, by decide +kernel⟩, List.mem_of_getElem? (i := 77) (by decide +kernel), List.mem_of_getElem? (i := 400) (by decide +kernel), List.mem_of_getElem? (i := 401) (by decide +kernel)⟩
theorem lw_p6 : lw_okq (⟨"DeskMoves$Office", "readQuarrel", "(LDeskMoves$Tape;)Z"⟩, 11) := ⟨⟨by decide +kernel, by decide +kernel⟩, List.mem_of_getElem? (i := 77) (by decide +kernel), List.mem_of_getElem? (i := 404) (by decide +kernel), List.mem_of_getElem? (i := 405) (by decide +kernel)⟩
theorem lw_p7 : lw_okq (⟨"DeskMoves$LawReader", "readClause", "()Z"⟩, 4) := ⟨⟨by decide +kernel, by decide +kernel⟩, List.mem_of_getElem? (i := 56) (by decide +kernel), List.mem_of_getElem? (i := 412) (by decide +kernel), List.mem_of_getElem? (i := 413) (by decide +kernel)⟩
theorem lw_p8 : lw_okq (⟨"DeskMoves$LawReader", "readSum", "(I)Z"⟩, 4) := ⟨⟨by decide +kernel, by decide +kernel⟩, List.mem_of_getElem? (i := 56) (by decide +kernel), List.mem_of_getElem? (i := 418) (by decide +kernel), List.mem_of_getElem? (i := 419) (by decide +kernel)⟩
theorem lw_p9 : lw_okq (⟨"DeskMoves$LawReader", "readTerm", "(I)Z"⟩, 4) := ⟨⟨by decide +kernel, by decide +kernel⟩, List.mem_of_getElem? (i := 56) (by decide +kernel), List.mem_of_getElem? (i := 422) (by decide +kernel), List.mem_of_getElem? (i := 423) (by decide +kernel)⟩
theorem lw_p10 : lw_okq (⟨"DeskMoves$LawReader", "readAtom", "(I)Z"⟩, 4) := ⟨⟨by decide +kernel, by decide +kernel⟩, List.mem_of_getElem? (i := 56) (by decide +kernel), List.mem_of_getElem? (i := 426) (by decide +kernel), List.mem_of_getElem? (i := 427) (by decide +kernel)⟩
theorem lw_p11 : lw_okq (⟨"DeskMoves$LawReader", "readNumber", "()Z"⟩, 4) := ⟨⟨by decide +kernel, by decide +kernel⟩, List.mem_of_getElem? (i := 56) (by decide +kernel), List.mem_of_getElem? (i := 433) (by decide +kernel), List.mem_of_getElem? (i := 434) (by decide +kernel)⟩
theorem lw_p12 : lw_okq (⟨"DeskMoves$LawReader", "emit", "(I)V"⟩, 4) := ⟨⟨by decide +kernel, by decide +kernel⟩, List.mem_of_getElem? (i := 56) (by decide +kernel), List.mem_of_getElem? (i := 437) (by decide +kernel), List.mem_of_getElem? (i := 438) (by decide +kernel)⟩
theorem lw_p13 : lw_okq (⟨"DeskMoves$LawReader", "readCondition", "(IZ)Z"⟩, 4) := ⟨⟨by decide +kernel, by decide +kernel⟩, List.mem_of_getElem? (i := 56) (by decide +kernel), List.mem_of_getElem? (i := 493) (by decide +kernel), List.mem_of_getElem? (i := 494) (by decide +kernel)⟩
theorem lw_p14 : lw_okq (⟨"DeskMoves$LawReader", "readTruth", "(IZ)Z"⟩, 4) := ⟨⟨by decide +kernel, by decide +kernel⟩, List.mem_of_getElem? (i := 56) (by decide +kernel), List.mem_of_getElem? (i := 497) (by decide +kernel), List.mem_of_getElem? (i := 498) (by decide +kernel)⟩
theorem lw_p15 : lw_okq (⟨"DeskMoves$LawReader", "readUnit", "(IZ)Z"⟩, 4) := ⟨⟨by decide +kernel, by decide +kernel⟩, List.mem_of_getElem? (i := 56) (by decide +kernel), List.mem_of_getElem? (i := 501) (by decide +kernel), List.mem_of_getElem? (i := 502) (by decide +kernel)⟩
def lw_privs_1 : List (MethodName × Nat) := [(⟨"DeskMoves$Office", "readSeats", "(LDeskMoves$Tape;)Z"⟩, 11), (⟨"DeskMoves$Office", "hasBothKinds", "()Z"⟩, 11), (⟨"DeskMoves$Office", "addDesk", "(I)Z"⟩, 11), (⟨"DeskMoves$Office", "readDoors", "(LDeskMoves$Tape;)Z"⟩, 11), (⟨"DeskMoves$Office", "readDoor", "(LDeskMoves$Tape;)Z"⟩, 11), (⟨"DeskMoves$Office", "readQuarrels", "(LDeskMoves$Tape;)Z"⟩, 11), (⟨"DeskMoves$Office", "readQuarrel", "(LDeskMoves$Tape;)Z"⟩, 11), (⟨"DeskMoves$LawReader", "readClause", "()Z"⟩, 4), (⟨"DeskMoves$LawReader", "readSum", "(I)Z"⟩, 4), (⟨"DeskMoves$LawReader", "readTerm", "(I)Z"⟩, 4), (⟨"DeskMoves$LawReader", "readAtom", "(I)Z"⟩, 4), (⟨"DeskMoves$LawReader", "readNumber", "()Z"⟩, 4), (⟨"DeskMoves$LawReader", "emit", "(I)V"⟩, 4), (⟨"DeskMoves$LawReader", "readCondition", "(IZ)Z"⟩, 4), (⟨"DeskMoves$LawReader", "readTruth", "(IZ)Z"⟩, 4), (⟨"DeskMoves$LawReader", "readUnit", "(IZ)Z"⟩, 4)]
theorem lw_r1 : ∀ q ∈ lw_privs_1, lw_okq q := List.forall_mem_cons.mpr ⟨lw_p0, List.forall_mem_cons.mpr ⟨lw_p1, List.forall_mem_cons.mpr ⟨lw_p2, List.forall_mem_cons.mpr ⟨lw_p3, List.forall_mem_cons.mpr ⟨lw_p4, List.forall_mem_cons.mpr ⟨lw_p5, List.forall_mem_cons.mpr ⟨lw_p6, List.forall_mem_cons.mpr ⟨lw_p7, List.forall_mem_cons.mpr ⟨lw_p8, List.forall_mem_cons.mpr ⟨lw_p9, List.forall_mem_cons.mpr ⟨lw_p10, List.forall_mem_cons.mpr ⟨lw_p11, List.forall_mem_cons.mpr ⟨lw_p12, List.forall_mem_cons.mpr ⟨lw_p13, List.forall_mem_cons.mpr ⟨lw_p14, List.forall_mem_cons.mpr ⟨lw_p15, fun _ h => absurd h List.not_mem_nil⟩⟩⟩⟩⟩⟩⟩⟩⟩⟩⟩⟩⟩⟩⟩⟩
theorem lw_p16 : lw_okq (⟨"DeskMoves$LawReader", "readNot", "(I)Z"⟩, 4) := ⟨⟨by decide +kernel, by decide +kernel⟩, List.mem_of_getElem? (i := 56) (by decide +kernel), List.mem_of_getElem? (i := 505) (by decide +kernel), List.mem_of_getElem? (i := 506) (by decide +kernel)⟩
theorem lw_p17 : lw_okq (⟨"DeskMoves", "takeOffice", "()I"⟩, 17) := ⟨⟨by decide +kernel, by decide +kernel⟩, List.mem_of_getElem? (i := 26) (by decide +kernel), List.mem_of_getElem? (i := 520) (by decide +kernel), List.mem_of_getElem? (i := 521) (by decide +kernel)⟩
theorem lw_p18 : lw_okq (⟨"DeskMoves", "forgetWays", "()V"⟩, 17) := ⟨⟨by decide +kernel, by decide +kernel⟩, List.mem_of_getElem? (i := 26) (by decide +kernel), List.mem_of_getElem? (i := 532) (by decide +kernel), List.mem_of_getElem? (i := 533) (by decide +kernel)⟩
theorem lw_p19 : lw_okq (⟨"DeskMoves", "forgetCosts", "()V"⟩, 17) := ⟨⟨by decide +kernel, by decide +kernel⟩, List.mem_of_getElem? (i := 26) (by decide +kernel), List.mem_of_getElem? (i := 536) (by decide +kernel), List.mem_of_getElem? (i := 537) (by decide +kernel)⟩
theorem lw_p20 : lw_okq (⟨"DeskMoves", "takeLaw", "()I"⟩, 17) := ⟨⟨by decide +kernel, by decide +kernel⟩, List.mem_of_getElem? (i := 26) (by decide +kernel), List.mem_of_getElem? (i := 540) (by decide +kernel), List.mem_of_getElem? (i := 541) (by decide +kernel)⟩
theorem lw_p21 : lw_okq (⟨"DeskMoves", "takePlan", "()I"⟩, 17) := ⟨⟨by decide +kernel, by decide +kernel⟩, List.mem_of_getElem? (i := 26) (by decide +kernel), List.mem_of_getElem? (i := 587) (by decide +kernel), List.mem_of_getElem? (i := 588) (by decide +kernel)⟩
theorem lw_p22 : lw_okq (⟨"DeskMoves", "lawOf", "(I)LDeskMoves$Law;"⟩, 17) := ⟨⟨by decide +kernel, by decide +kernel⟩, List.mem_of_getElem? (i := 26) (by decide +kernel), List.mem_of_getElem? (i := 628) (by decide +kernel), List.mem_of_getElem? (i := 629) (by decide +kernel)⟩
theorem lw_p23 : lw_okq (⟨"DeskMoves$Law", "pop", "()I"⟩, 5) := ⟨⟨by decide +kernel, by decide +kernel⟩, List.mem_of_getElem? (i := 548) (by decide +kernel), List.mem_of_getElem? (i := 647) (by decide +kernel), List.mem_of_getElem? (i := 648) (by decide +kernel)⟩
theorem lw_p24 : lw_okq (⟨"DeskMoves$Law", "push", "(I)V"⟩, 5) := ⟨⟨by decide +kernel, by decide +kernel⟩, List.mem_of_getElem? (i := 548) (by decide +kernel), List.mem_of_getElem? (i := 651) (by decide +kernel), List.mem_of_getElem? (i := 652) (by decide +kernel)⟩
theorem lw_p25 : lw_okq (⟨"DeskMoves", "isSearched", "()Z"⟩, 17) := ⟨⟨by decide +kernel, by decide +kernel⟩, List.mem_of_getElem? (i := 26) (by decide +kernel), List.mem_of_getElem? (i := 744) (by decide +kernel), List.mem_of_getElem? (i := 745) (by decide +kernel)⟩
theorem lw_p26 : lw_okq (⟨"DeskMoves", "waysBy", "(I)LDeskMoves$Ways;"⟩, 17) := ⟨⟨by decide +kernel, by decide +kernel⟩, List.mem_of_getElem? (i := 26) (by decide +kernel), List.mem_of_getElem? (i := 748) (by decide +kernel), List.mem_of_getElem? (i := 749) (by decide +kernel)⟩
theorem lw_p27 : lw_okq (⟨"DeskMoves$Ways", "startCode", "()I"⟩, 19) := ⟨⟨by decide +kernel, by decide +kernel⟩, List.mem_of_getElem? (i := 752) (by decide +kernel), List.mem_of_getElem? (i := 835) (by decide +kernel), List.mem_of_getElem? (i := 836) (by decide +kernel)⟩
theorem lw_p28 : lw_okq (⟨"DeskMoves$Ways", "add", "(II)V"⟩, 19) := ⟨⟨by decide +kernel, by decide +kernel⟩, List.mem_of_getElem? (i := 752) (by decide +kernel), List.mem_of_getElem? (i := 840) (by decide +kernel), List.mem_of_getElem? (i := 841) (by decide +kernel)⟩
theorem lw_p29 : lw_okq (⟨"DeskMoves$Ways", "slotOf", "(I)I"⟩, 19) := ⟨⟨by decide +kernel, by decide +kernel⟩, List.mem_of_getElem? (i := 752) (by decide +kernel), List.mem_of_getElem? (i := 844) (by decide +kernel), List.mem_of_getElem? (i := 845) (by decide +kernel)⟩
theorem lw_p30 : lw_okq (⟨"DeskMoves$Ways", "spread", "(I)V"⟩, 19) := ⟨⟨by decide +kernel, by decide +kernel⟩, List.mem_of_getElem? (i := 752) (by decide +kernel), List.mem_of_getElem? (i := 849) (by decide +kernel), List.mem_of_getElem? (i := 850) (by decide +kernel)⟩
theorem lw_p31 : lw_okq (⟨"DeskMoves$Ways", "foesBeside", "(II)I"⟩, 19) := ⟨⟨by decide +kernel, by decide +kernel⟩, List.mem_of_getElem? (i := 752) (by decide +kernel), List.mem_of_getElem? (i := 866) (by decide +kernel), List.mem_of_getElem? (i := 867) (by decide +kernel)⟩
def lw_privs_2 : List (MethodName × Nat) := [(⟨"DeskMoves$LawReader", "readNot", "(I)Z"⟩, 4), (⟨"DeskMoves", "takeOffice", "()I"⟩, 17), (⟨"DeskMoves", "forgetWays", "()V"⟩, 17), (⟨"DeskMoves", "forgetCosts", "()V"⟩, 17), (⟨"DeskMoves", "takeLaw", "()I"⟩, 17), (⟨"DeskMoves", "takePlan", "()I"⟩, 17), (⟨"DeskMoves", "lawOf", "(I)LDeskMoves$Law;"⟩, 17), (⟨"DeskMoves$Law", "pop", "()I"⟩, 5), (⟨"DeskMoves$Law", "push", "(I)V"⟩, 5), (⟨"DeskMoves", "isSearched", "()Z"⟩, 17), (⟨"DeskMoves", "waysBy", "(I)LDeskMoves$Ways;"⟩, 17), (⟨"DeskMoves$Ways", "startCode", "()I"⟩, 19), (⟨"DeskMoves$Ways", "add", "(II)V"⟩, 19), (⟨"DeskMoves$Ways", "slotOf", "(I)I"⟩, 19), (⟨"DeskMoves$Ways", "spread", "(I)V"⟩, 19), (⟨"DeskMoves$Ways", "foesBeside", "(II)I"⟩, 19)]
theorem lw_r2 : ∀ q ∈ lw_privs_2, lw_okq q := List.forall_mem_cons.mpr ⟨lw_p16, List.forall_mem_cons.mpr ⟨lw_p17, List.forall_mem_cons.mpr ⟨lw_p18, List.forall_mem_cons.mpr ⟨lw_p19, List.forall_mem_cons.mpr ⟨lw_p20, List.forall_mem_cons.mpr ⟨lw_p21, List.forall_mem_cons.mpr ⟨lw_p22, List.forall_mem_cons.mpr ⟨lw_p23, List.forall_mem_cons.mpr ⟨lw_p24, List.forall_mem_cons.mpr ⟨lw_p25, List.forall_mem_cons.mpr ⟨lw_p26, List.forall_mem_cons.mpr ⟨lw_p27, List.forall_mem_cons.mpr ⟨lw_p28, List.forall_mem_cons.mpr ⟨lw_p29, List.forall_mem_cons.mpr ⟨lw_p30, List.forall_mem_cons.mpr ⟨lw_p31, fun _ h => absurd h List.not_mem_nil⟩⟩⟩⟩⟩⟩⟩⟩⟩⟩⟩⟩⟩⟩⟩⟩
theorem lw_p32 : lw_okq (⟨"DeskMoves", "leastCost", "(LDeskMoves$Ways;I)I"⟩, 17) := ⟨⟨by decide +kernel, by decide +kernel⟩, List.mem_of_getElem? (i := 26) (by decide +kernel), List.mem_of_getElem? (i := 901) (by decide +kernel), List.mem_of_getElem? (i := 902) (by decide +kernel)⟩
theorem lw_p33 : lw_okq (⟨"DeskMoves$Costs", "reach", "(II)V"⟩, 5) := ⟨⟨by decide +kernel, by decide +kernel⟩, List.mem_of_getElem? (i := 905) (by decide +kernel), List.mem_of_getElem? (i := 934) (by decide +kernel), List.mem_of_getElem? (i := 935) (by decide +kernel)⟩
theorem lw_p34 : lw_okq (⟨"DeskMoves$Costs", "unlink", "(I)V"⟩, 5) := ⟨⟨by decide +kernel, by decide +kernel⟩, List.mem_of_getElem? (i := 905) (by decide +kernel), List.mem_of_getElem? (i := 938) (by decide +kernel), List.mem_of_getElem? (i := 939) (by decide +kernel)⟩
theorem lw_p35 : lw_okq (⟨"DeskMoves$Costs", "spread", "(LDeskMoves$Ways;II)V"⟩, 5) := ⟨⟨by decide +kernel, by decide +kernel⟩, List.mem_of_getElem? (i := 905) (by decide +kernel), List.mem_of_getElem? (i := 944) (by decide +kernel), List.mem_of_getElem? (i := 945) (by decide +kernel)⟩
theorem lw_p36 : lw_okq (⟨"DeskMoves$Turns", "goRound", "(LDeskMoves$Office;)V"⟩, 3) := ⟨⟨by decide +kernel, by decide +kernel⟩, List.mem_of_getElem? (i := 206) (by decide +kernel), List.mem_of_getElem? (i := 1010) (by decide +kernel), List.mem_of_getElem? (i := 1011) (by decide +kernel)⟩
theorem lw_p37 : lw_okq (⟨"DeskMoves$Turns", "isTurned", "(I)Z"⟩, 3) := ⟨⟨by decide +kernel, by decide +kernel⟩, List.mem_of_getElem? (i := 206) (by decide +kernel), List.mem_of_getElem? (i := 1014) (by decide +kernel), List.mem_of_getElem? (i := 1015) (by decide +kernel)⟩
theorem lw_p38 : lw_okq (⟨"DeskMoves$Wealth", "solveTruth", "(LDeskMoves$Office;)V"⟩, 14) := ⟨⟨by decide +kernel, by decide +kernel⟩, List.mem_of_getElem? (i := 222) (by decide +kernel), List.mem_of_getElem? (i := 1049) (by decide +kernel), List.mem_of_getElem? (i := 1050) (by decide +kernel)⟩
theorem lw_p39 : lw_okq (⟨"DeskMoves$Wealth", "sumUp", "(I)V"⟩, 14) := ⟨⟨by decide +kernel, by decide +kernel⟩, List.mem_of_getElem? (i := 222) (by decide +kernel), List.mem_of_getElem? (i := 1055) (by decide +kernel), List.mem_of_getElem? (i := 1056) (by decide +kernel)⟩
theorem lw_p40 : lw_okq (⟨"DeskMoves$Wealth", "mostBehind", "(II)I"⟩, 14) := ⟨⟨by decide +kernel, by decide +kernel⟩, List.mem_of_getElem? (i := 222) (by decide +kernel), List.mem_of_getElem? (i := 1060) (by decide +kernel), List.mem_of_getElem? (i := 1061) (by decide +kernel)⟩
theorem lw_p41 : lw_okq (⟨"DeskMoves$Wealth", "deskOf", "(II)I"⟩, 14) := ⟨⟨by decide +kernel, by decide +kernel⟩, List.mem_of_getElem? (i := 222) (by decide +kernel), List.mem_of_getElem? (i := 1066) (by decide +kernel), List.mem_of_getElem? (i := 1067) (by decide +kernel)⟩
theorem lw_p42 : lw_okq (⟨"DeskMoves$Wealth", "pointAll", "(LDeskMoves$Office;)V"⟩, 14) := ⟨⟨by decide +kernel, by decide +kernel⟩, List.mem_of_getElem? (i := 222) (by decide +kernel), List.mem_of_getElem? (i := 1091) (by decide +kernel), List.mem_of_getElem? (i := 1092) (by decide +kernel)⟩
theorem lw_p43 : lw_okq (⟨"DeskMoves$Wealth", "firstAtNobodys", "(LDeskMoves$Office;)I"⟩, 14) := ⟨⟨by decide +kernel, by decide +kernel⟩, List.mem_of_getElem? (i := 222) (by decide +kernel), List.mem_of_getElem? (i := 1095) (by decide +kernel), List.mem_of_getElem? (i := 1096) (by decide +kernel)⟩
theorem lw_p44 : lw_okq (⟨"DeskMoves$Wealth", "ownerOf", "(LDeskMoves$Office;I)I"⟩, 14) := ⟨⟨by decide +kernel, by decide +kernel⟩, List.mem_of_getElem? (i := 222) (by decide +kernel), List.mem_of_getElem? (i := 1099) (by decide +kernel), List.mem_of_getElem? (i := 1100) (by decide +kernel)⟩
theorem lw_p45 : lw_okq (⟨"DeskMoves$Wealth", "give", "(I)V"⟩, 14) := ⟨⟨by decide +kernel, by decide +kernel⟩, List.mem_of_getElem? (i := 222) (by decide +kernel), List.mem_of_getElem? (i := 1104) (by decide +kernel), List.mem_of_getElem? (i := 1105) (by decide +kernel)⟩
theorem lw_p46 : lw_okq (⟨"DeskMoves$Wealth", "giveRing", "(LDeskMoves$Office;)V"⟩, 14) := ⟨⟨by decide +kernel, by decide +kernel⟩, List.mem_of_getElem? (i := 222) (by decide +kernel), List.mem_of_getElem? (i := 1108) (by decide +kernel), List.mem_of_getElem? (i := 1109) (by decide +kernel)⟩
theorem lw_p47 : lw_okq (⟨"DeskMoves$Wealth", "ringOf", "(LDeskMoves$Office;I)I"⟩, 14) := ⟨⟨by decide +kernel, by decide +kernel⟩, List.mem_of_getElem? (i := 222) (by decide +kernel), List.mem_of_getElem? (i := 1112) (by decide +kernel), List.mem_of_getElem? (i := 1113) (by decide +kernel)⟩
def lw_privs_3 : List (MethodName × Nat) := [(⟨"DeskMoves", "leastCost", "(LDeskMoves$Ways;I)I"⟩, 17), (⟨"DeskMoves$Costs", "reach", "(II)V"⟩, 5), (⟨"DeskMoves$Costs", "unlink", "(I)V"⟩, 5), (⟨"DeskMoves$Costs", "spread", "(LDeskMoves$Ways;II)V"⟩, 5), (⟨"DeskMoves$Turns", "goRound", "(LDeskMoves$Office;)V"⟩, 3), (⟨"DeskMoves$Turns", "isTurned", "(I)Z"⟩, 3), (⟨"DeskMoves$Wealth", "solveTruth", "(LDeskMoves$Office;)V"⟩, 14), (⟨"DeskMoves$Wealth", "sumUp", "(I)V"⟩, 14), (⟨"DeskMoves$Wealth", "mostBehind", "(II)I"⟩, 14), (⟨"DeskMoves$Wealth", "deskOf", "(II)I"⟩, 14), (⟨"DeskMoves$Wealth", "pointAll", "(LDeskMoves$Office;)V"⟩, 14), (⟨"DeskMoves$Wealth", "firstAtNobodys", "(LDeskMoves$Office;)I"⟩, 14), (⟨"DeskMoves$Wealth", "ownerOf", "(LDeskMoves$Office;I)I"⟩, 14), (⟨"DeskMoves$Wealth", "give", "(I)V"⟩, 14), (⟨"DeskMoves$Wealth", "giveRing", "(LDeskMoves$Office;)V"⟩, 14), (⟨"DeskMoves$Wealth", "ringOf", "(LDeskMoves$Office;I)I"⟩, 14)]
theorem lw_r3 : ∀ q ∈ lw_privs_3, lw_okq q := List.forall_mem_cons.mpr ⟨lw_p32, List.forall_mem_cons.mpr ⟨lw_p33, List.forall_mem_cons.mpr ⟨lw_p34, List.forall_mem_cons.mpr ⟨lw_p35, List.forall_mem_cons.mpr ⟨lw_p36, List.forall_mem_cons.mpr ⟨lw_p37, List.forall_mem_cons.mpr ⟨lw_p38, List.forall_mem_cons.mpr ⟨lw_p39, List.forall_mem_cons.mpr ⟨lw_p40, List.forall_mem_cons.mpr ⟨lw_p41, List.forall_mem_cons.mpr ⟨lw_p42, List.forall_mem_cons.mpr ⟨lw_p43, List.forall_mem_cons.mpr ⟨lw_p44, List.forall_mem_cons.mpr ⟨lw_p45, List.forall_mem_cons.mpr ⟨lw_p46, List.forall_mem_cons.mpr ⟨lw_p47, fun _ h => absurd h List.not_mem_nil⟩⟩⟩⟩⟩⟩⟩⟩⟩⟩⟩⟩⟩⟩⟩⟩
theorem lw_p48 : lw_okq (⟨"DeskMoves$Office", "swap", "(II)V"⟩, 11) := ⟨⟨by decide +kernel, by decide +kernel⟩, List.mem_of_getElem? (i := 77) (by decide +kernel), List.mem_of_getElem? (i := 1133) (by decide +kernel), List.mem_of_getElem? (i := 1134) (by decide +kernel)⟩
theorem lw_p49 : lw_okq (⟨"java/lang/Throwable", "fillInStackTrace", "(I)Ljava/lang/Throwable;"⟩, 6) := ⟨⟨by decide +kernel, by decide +kernel⟩, List.mem_of_getElem? (i := 1205) (by decide +kernel), List.mem_of_getElem? (i := 1203) (by decide +kernel), List.mem_of_getElem? (i := 1204) (by decide +kernel)⟩
theorem lw_p50 : lw_okq (⟨"DeskMovesModel", "readOffice", "()I"⟩, 66) := ⟨⟨by decide +kernel, by decide +kernel⟩, List.mem_of_getElem? (i := 1230) (by decide +kernel), List.mem_of_getElem? (i := 1458) (by decide +kernel), List.mem_of_getElem? (i := 1459) (by decide +kernel)⟩
theorem lw_p51 : lw_okq (⟨"DeskMovesModel", "seats", "()V"⟩, 66) := ⟨⟨by decide +kernel, by decide +kernel⟩, List.mem_of_getElem? (i := 1230) (by decide +kernel), List.mem_of_getElem? (i := 1462) (by decide +kernel), List.mem_of_getElem? (i := 1463) (by decide +kernel)⟩
theorem lw_p52 : lw_okq (⟨"DeskMovesModel", "look", "()I"⟩, 66) := ⟨⟨by decide +kernel, by decide +kernel⟩, List.mem_of_getElem? (i := 1230) (by decide +kernel), List.mem_of_getElem? (i := 1466) (by decide +kernel), List.mem_of_getElem? (i := 1467) (by decide +kernel)⟩
theorem lw_p53 : lw_okq (⟨"DeskMovesModel", "here", "()I"⟩, 66) := ⟨⟨by decide +kernel, by decide +kernel⟩, List.mem_of_getElem? (i := 1230) (by decide +kernel), List.mem_of_getElem? (i := 1470) (by decide +kernel), List.mem_of_getElem? (i := 1471) (by decide +kernel)⟩
theorem lw_p54 : lw_okq (⟨"DeskMovesModel", "bad", "()V"⟩, 66) := ⟨⟨by decide +kernel, by decide +kernel⟩, List.mem_of_getElem? (i := 1230) (by decide +kernel), List.mem_of_getElem? (i := 1480) (by decide +kernel), List.mem_of_getElem? (i := 1481) (by decide +kernel)⟩
theorem lw_p55 : lw_okq (⟨"DeskMovesModel", "doorPairs", "()V"⟩, 66) := ⟨⟨by decide +kernel, by decide +kernel⟩, List.mem_of_getElem? (i := 1230) (by decide +kernel), List.mem_of_getElem? (i := 1484) (by decide +kernel), List.mem_of_getElem? (i := 1485) (by decide +kernel)⟩
theorem lw_p56 : lw_okq (⟨"DeskMovesModel", "quarrelPairs", "()V"⟩, 66) := ⟨⟨by decide +kernel, by decide +kernel⟩, List.mem_of_getElem? (i := 1230) (by decide +kernel), List.mem_of_getElem? (i := 1488) (by decide +kernel), List.mem_of_getElem? (i := 1489) (by decide +kernel)⟩
theorem lw_p57 : lw_okq (⟨"DeskMovesModel", "atEnd", "()I"⟩, 66) := ⟨⟨by decide +kernel, by decide +kernel⟩, List.mem_of_getElem? (i := 1230) (by decide +kernel), List.mem_of_getElem? (i := 1492) (by decide +kernel), List.mem_of_getElem? (i := 1493) (by decide +kernel)⟩
theorem lw_p58 : lw_okq (⟨"DeskMovesModel", "readLaw", "(I)I"⟩, 66) := ⟨⟨by decide +kernel, by decide +kernel⟩, List.mem_of_getElem? (i := 1230) (by decide +kernel), List.mem_of_getElem? (i := 1496) (by decide +kernel), List.mem_of_getElem? (i := 1497) (by decide +kernel)⟩
theorem lw_p59 : lw_okq (⟨"DeskMovesModel", "open", "(I)V"⟩, 66) := ⟨⟨by decide +kernel, by decide +kernel⟩, List.mem_of_getElem? (i := 1230) (by decide +kernel), List.mem_of_getElem? (i := 1500) (by decide +kernel), List.mem_of_getElem? (i := 1501) (by decide +kernel)⟩
theorem lw_p60 : lw_okq (⟨"DeskMovesModel", "clause", "()V"⟩, 66) := ⟨⟨by decide +kernel, by decide +kernel⟩, List.mem_of_getElem? (i := 1230) (by decide +kernel), List.mem_of_getElem? (i := 1504) (by decide +kernel), List.mem_of_getElem? (i := 1505) (by decide +kernel)⟩
theorem lw_p61 : lw_okq (⟨"DeskMovesModel", "condition", "()V"⟩, 66) := ⟨⟨by decide +kernel, by decide +kernel⟩, List.mem_of_getElem? (i := 1230) (by decide +kernel), List.mem_of_getElem? (i := 1508) (by decide +kernel), List.mem_of_getElem? (i := 1509) (by decide +kernel)⟩
theorem lw_p62 : lw_okq (⟨"DeskMovesModel", "unit", "()V"⟩, 66) := ⟨⟨by decide +kernel, by decide +kernel⟩, List.mem_of_getElem? (i := 1230) (by decide +kernel), List.mem_of_getElem? (i := 1512) (by decide +kernel), List.mem_of_getElem? (i := 1513) (by decide +kernel)⟩
theorem lw_p63 : lw_okq (⟨"DeskMovesModel", "opens", "()V"⟩, 66) := ⟨⟨by decide +kernel, by decide +kernel⟩, List.mem_of_getElem? (i := 1230) (by decide +kernel), List.mem_of_getElem? (i := 1516) (by decide +kernel), List.mem_of_getElem? (i := 1517) (by decide +kernel)⟩
def lw_privs_4 : List (MethodName × Nat) := [(⟨"DeskMoves$Office", "swap", "(II)V"⟩, 11), (⟨"java/lang/Throwable", "fillInStackTrace", "(I)Ljava/lang/Throwable;"⟩, 6), (⟨"DeskMovesModel", "readOffice", "()I"⟩, 66), (⟨"DeskMovesModel", "seats", "()V"⟩, 66), (⟨"DeskMovesModel", "look", "()I"⟩, 66), (⟨"DeskMovesModel", "here", "()I"⟩, 66), (⟨"DeskMovesModel", "bad", "()V"⟩, 66), (⟨"DeskMovesModel", "doorPairs", "()V"⟩, 66), (⟨"DeskMovesModel", "quarrelPairs", "()V"⟩, 66), (⟨"DeskMovesModel", "atEnd", "()I"⟩, 66), (⟨"DeskMovesModel", "readLaw", "(I)I"⟩, 66), (⟨"DeskMovesModel", "open", "(I)V"⟩, 66), (⟨"DeskMovesModel", "clause", "()V"⟩, 66), (⟨"DeskMovesModel", "condition", "()V"⟩, 66), (⟨"DeskMovesModel", "unit", "()V"⟩, 66), (⟨"DeskMovesModel", "opens", "()V"⟩, 66)]
theorem lw_r4 : ∀ q ∈ lw_privs_4, lw_okq q := List.forall_mem_cons.mpr ⟨lw_p48, List.forall_mem_cons.mpr ⟨lw_p49, List.forall_mem_cons.mpr ⟨lw_p50, List.forall_mem_cons.mpr ⟨lw_p51, List.forall_mem_cons.mpr ⟨lw_p52, List.forall_mem_cons.mpr ⟨lw_p53, List.forall_mem_cons.mpr ⟨lw_p54, List.forall_mem_cons.mpr ⟨lw_p55, List.forall_mem_cons.mpr ⟨lw_p56, List.forall_mem_cons.mpr ⟨lw_p57, List.forall_mem_cons.mpr ⟨lw_p58, List.forall_mem_cons.mpr ⟨lw_p59, List.forall_mem_cons.mpr ⟨lw_p60, List.forall_mem_cons.mpr ⟨lw_p61, List.forall_mem_cons.mpr ⟨lw_p62, List.forall_mem_cons.mpr ⟨lw_p63, fun _ h => absurd h List.not_mem_nil⟩⟩⟩⟩⟩⟩⟩⟩⟩⟩⟩⟩⟩⟩⟩⟩
theorem lw_p64 : lw_okq (⟨"DeskMovesModel", "put", "(II)V"⟩, 66) := ⟨⟨by decide +kernel, by decide +kernel⟩, List.mem_of_getElem? (i := 1230) (by decide +kernel), List.mem_of_getElem? (i := 1520) (by decide +kernel), List.mem_of_getElem? (i := 1521) (by decide +kernel)⟩
theorem lw_p65 : lw_okq (⟨"DeskMovesModel", "closes", "(I)V"⟩, 66) := ⟨⟨by decide +kernel, by decide +kernel⟩, List.mem_of_getElem? (i := 1230) (by decide +kernel), List.mem_of_getElem? (i := 1524) (by decide +kernel), List.mem_of_getElem? (i := 1525) (by decide +kernel)⟩
theorem lw_p66 : lw_okq (⟨"DeskMovesModel", "sum", "()V"⟩, 66) := ⟨⟨by decide +kernel, by decide +kernel⟩, List.mem_of_getElem? (i := 1230) (by decide +kernel), List.mem_of_getElem? (i := 1528) (by decide +kernel), List.mem_of_getElem? (i := 1529) (by decide +kernel)⟩
theorem lw_p67 : lw_okq (⟨"DeskMovesModel", "term", "()V"⟩, 66) := ⟨⟨by decide +kernel, by decide +kernel⟩, List.mem_of_getElem? (i := 1230) (by decide +kernel), List.mem_of_getElem? (i := 1532) (by decide +kernel), List.mem_of_getElem? (i := 1533) (by decide +kernel)⟩
theorem lw_p68 : lw_okq (⟨"DeskMovesModel", "atom", "()V"⟩, 66) := ⟨⟨by decide +kernel, by decide +kernel⟩, List.mem_of_getElem? (i := 1230) (by decide +kernel), List.mem_of_getElem? (i := 1536) (by decide +kernel), List.mem_of_getElem? (i := 1537) (by decide +kernel)⟩
theorem lw_p69 : lw_okq (⟨"DeskMovesModel", "plainNumber", "()I"⟩, 66) := ⟨⟨by decide +kernel, by decide +kernel⟩, List.mem_of_getElem? (i := 1230) (by decide +kernel), List.mem_of_getElem? (i := 1543) (by decide +kernel), List.mem_of_getElem? (i := 1544) (by decide +kernel)⟩
theorem lw_p70 : lw_okq (⟨"DeskMovesModel", "compare", "()V"⟩, 66) := ⟨⟨by decide +kernel, by decide +kernel⟩, List.mem_of_getElem? (i := 1230) (by decide +kernel), List.mem_of_getElem? (i := 1550) (by decide +kernel), List.mem_of_getElem? (i := 1551) (by decide +kernel)⟩
theorem lw_p71 : lw_okq (⟨"DeskMovesModel", "goOnAnd", "()V"⟩, 66) := ⟨⟨by decide +kernel, by decide +kernel⟩, List.mem_of_getElem? (i := 1230) (by decide +kernel), List.mem_of_getElem? (i := 1557) (by decide +kernel), List.mem_of_getElem? (i := 1558) (by decide +kernel)⟩
theorem lw_p72 : lw_okq (⟨"DeskMovesModel", "goOnOr", "()V"⟩, 66) := ⟨⟨by decide +kernel, by decide +kernel⟩, List.mem_of_getElem? (i := 1230) (by decide +kernel), List.mem_of_getElem? (i := 1561) (by decide +kernel), List.mem_of_getElem? (i := 1562) (by decide +kernel)⟩
theorem lw_p73 : lw_okq (⟨"DeskMovesModel", "readPlan", "()I"⟩, 66) := ⟨⟨by decide +kernel, by decide +kernel⟩, List.mem_of_getElem? (i := 1230) (by decide +kernel), List.mem_of_getElem? (i := 1565) (by decide +kernel), List.mem_of_getElem? (i := 1566) (by decide +kernel)⟩
theorem lw_p74 : lw_okq (⟨"DeskMovesModel", "takeOffice", "()I"⟩, 66) := ⟨⟨by decide +kernel, by decide +kernel⟩, List.mem_of_getElem? (i := 1230) (by decide +kernel), List.mem_of_getElem? (i := 1573) (by decide +kernel), List.mem_of_getElem? (i := 1574) (by decide +kernel)⟩
theorem lw_p75 : lw_okq (⟨"DeskMovesModel", "isDesk", "(I)Z"⟩, 66) := ⟨⟨by decide +kernel, by decide +kernel⟩, List.mem_of_getElem? (i := 1230) (by decide +kernel), List.mem_of_getElem? (i := 1581) (by decide +kernel), List.mem_of_getElem? (i := 1582) (by decide +kernel)⟩
theorem lw_p76 : lw_okq (⟨"DeskMovesModel", "isClerk", "(I)Z"⟩, 66) := ⟨⟨by decide +kernel, by decide +kernel⟩, List.mem_of_getElem? (i := 1230) (by decide +kernel), List.mem_of_getElem? (i := 1593) (by decide +kernel), List.mem_of_getElem? (i := 1594) (by decide +kernel)⟩
theorem lw_p77 : lw_okq (⟨"DeskMovesModel", "where", "([II)I"⟩, 66) := ⟨⟨by decide +kernel, by decide +kernel⟩, List.mem_of_getElem? (i := 1230) (by decide +kernel), List.mem_of_getElem? (i := 1605) (by decide +kernel), List.mem_of_getElem? (i := 1606) (by decide +kernel)⟩
theorem lw_p78 : lw_okq (⟨"DeskMovesModel", "beside", "([IIIZ)I"⟩, 66) := ⟨⟨by decide +kernel, by decide +kernel⟩, List.mem_of_getElem? (i := 1230) (by decide +kernel), List.mem_of_getElem? (i := 1609) (by decide +kernel), List.mem_of_getElem? (i := 1610) (by decide +kernel)⟩
theorem lw_p79 : lw_okq (⟨"DeskMovesModel", "bars", "([III)I"⟩, 66) := ⟨⟨by decide +kernel, by decide +kernel⟩, List.mem_of_getElem? (i := 1230) (by decide +kernel), List.mem_of_getElem? (i := 1621) (by decide +kernel), List.mem_of_getElem? (i := 1622) (by decide +kernel)⟩
def lw_privs_5 : List (MethodName × Nat) := [(⟨"DeskMovesModel", "put", "(II)V"⟩, 66), (⟨"DeskMovesModel", "closes", "(I)V"⟩, 66), (⟨"DeskMovesModel", "sum", "()V"⟩, 66), (⟨"DeskMovesModel", "term", "()V"⟩, 66), (⟨"DeskMovesModel", "atom", "()V"⟩, 66), (⟨"DeskMovesModel", "plainNumber", "()I"⟩, 66), (⟨"DeskMovesModel", "compare", "()V"⟩, 66), (⟨"DeskMovesModel", "goOnAnd", "()V"⟩, 66), (⟨"DeskMovesModel", "goOnOr", "()V"⟩, 66), (⟨"DeskMovesModel", "readPlan", "()I"⟩, 66), (⟨"DeskMovesModel", "takeOffice", "()I"⟩, 66), (⟨"DeskMovesModel", "isDesk", "(I)Z"⟩, 66), (⟨"DeskMovesModel", "isClerk", "(I)Z"⟩, 66), (⟨"DeskMovesModel", "where", "([II)I"⟩, 66), (⟨"DeskMovesModel", "beside", "([IIIZ)I"⟩, 66), (⟨"DeskMovesModel", "bars", "([III)I"⟩, 66)]
theorem lw_r5 : ∀ q ∈ lw_privs_5, lw_okq q := List.forall_mem_cons.mpr ⟨lw_p64, List.forall_mem_cons.mpr ⟨lw_p65, List.forall_mem_cons.mpr ⟨lw_p66, List.forall_mem_cons.mpr ⟨lw_p67, List.forall_mem_cons.mpr ⟨lw_p68, List.forall_mem_cons.mpr ⟨lw_p69, List.forall_mem_cons.mpr ⟨lw_p70, List.forall_mem_cons.mpr ⟨lw_p71, List.forall_mem_cons.mpr ⟨lw_p72, List.forall_mem_cons.mpr ⟨lw_p73, List.forall_mem_cons.mpr ⟨lw_p74, List.forall_mem_cons.mpr ⟨lw_p75, List.forall_mem_cons.mpr ⟨lw_p76, List.forall_mem_cons.mpr ⟨lw_p77, List.forall_mem_cons.mpr ⟨lw_p78, List.forall_mem_cons.mpr ⟨lw_p79, fun _ h => absurd h List.not_mem_nil⟩⟩⟩⟩⟩⟩⟩⟩⟩⟩⟩⟩⟩⟩⟩⟩
theorem lw_p80 : lw_okq (⟨"DeskMovesModel", "isLet", "([IIII)Z"⟩, 66) := ⟨⟨by decide +kernel, by decide +kernel⟩, List.mem_of_getElem? (i := 1230) (by decide +kernel), List.mem_of_getElem? (i := 1625) (by decide +kernel), List.mem_of_getElem? (i := 1626) (by decide +kernel)⟩
theorem lw_p81 : lw_okq (⟨"DeskMovesModel", "worthOf", "(I)I"⟩, 66) := ⟨⟨by decide +kernel, by decide +kernel⟩, List.mem_of_getElem? (i := 1230) (by decide +kernel), List.mem_of_getElem? (i := 1629) (by decide +kernel), List.mem_of_getElem? (i := 1630) (by decide +kernel)⟩
theorem lw_p82 : lw_okq (⟨"DeskMovesModel", "workOut", "(III)I"⟩, 66) := ⟨⟨by decide +kernel, by decide +kernel⟩, List.mem_of_getElem? (i := 1230) (by decide +kernel), List.mem_of_getElem? (i := 1633) (by decide +kernel), List.mem_of_getElem? (i := 1634) (by decide +kernel)⟩
theorem lw_p83 : lw_okq (⟨"DeskMovesModel", "costOf", "(III)I"⟩, 66) := ⟨⟨by decide +kernel, by decide +kernel⟩, List.mem_of_getElem? (i := 1230) (by decide +kernel), List.mem_of_getElem? (i := 1656) (by decide +kernel), List.mem_of_getElem? (i := 1657) (by decide +kernel)⟩
theorem lw_p84 : lw_okq (⟨"DeskMovesModel", "copySeat", "([I)V"⟩, 66) := ⟨⟨by decide +kernel, by decide +kernel⟩, List.mem_of_getElem? (i := 1230) (by decide +kernel), List.mem_of_getElem? (i := 1673) (by decide +kernel), List.mem_of_getElem? (i := 1674) (by decide +kernel)⟩
theorem lw_p85 : lw_okq (⟨"DeskMovesModel", "areCross", "([I)Z"⟩, 66) := ⟨⟨by decide +kernel, by decide +kernel⟩, List.mem_of_getElem? (i := 1230) (by decide +kernel), List.mem_of_getElem? (i := 1677) (by decide +kernel), List.mem_of_getElem? (i := 1678) (by decide +kernel)⟩
theorem lw_p86 : lw_okq (⟨"DeskMovesModel", "isDone", "([III)Z"⟩, 66) := ⟨⟨by decide +kernel, by decide +kernel⟩, List.mem_of_getElem? (i := 1230) (by decide +kernel), List.mem_of_getElem? (i := 1690) (by decide +kernel), List.mem_of_getElem? (i := 1691) (by decide +kernel)⟩
theorem lw_p87 : lw_okq (⟨"DeskMovesModel", "isSmall", "()Z"⟩, 66) := ⟨⟨by decide +kernel, by decide +kernel⟩, List.mem_of_getElem? (i := 1230) (by decide +kernel), List.mem_of_getElem? (i := 1698) (by decide +kernel), List.mem_of_getElem? (i := 1699) (by decide +kernel)⟩
theorem lw_p88 : lw_okq (⟨"DeskMovesModel", "explore", "(I)V"⟩, 66) := ⟨⟨by decide +kernel, by decide +kernel⟩, List.mem_of_getElem? (i := 1230) (by decide +kernel), List.mem_of_getElem? (i := 1702) (by decide +kernel), List.mem_of_getElem? (i := 1703) (by decide +kernel)⟩
theorem lw_p89 : lw_okq (⟨"DeskMovesModel", "placeOf", "(I)I"⟩, 66) := ⟨⟨by decide +kernel, by decide +kernel⟩, List.mem_of_getElem? (i := 1230) (by decide +kernel), List.mem_of_getElem? (i := 1709) (by decide +kernel), List.mem_of_getElem? (i := 1710) (by decide +kernel)⟩
theorem lw_p90 : lw_okq (⟨"DeskMovesModel", "leave", "(II)V"⟩, 66) := ⟨⟨by decide +kernel, by decide +kernel⟩, List.mem_of_getElem? (i := 1230) (by decide +kernel), List.mem_of_getElem? (i := 1715) (by decide +kernel), List.mem_of_getElem? (i := 1716) (by decide +kernel)⟩
theorem lw_p91 : lw_okq (⟨"DeskMovesModel", "unpack", "(I)V"⟩, 66) := ⟨⟨by decide +kernel, by decide +kernel⟩, List.mem_of_getElem? (i := 1230) (by decide +kernel), List.mem_of_getElem? (i := 1719) (by decide +kernel), List.mem_of_getElem? (i := 1720) (by decide +kernel)⟩
theorem lw_p92 : lw_okq (⟨"DeskMovesModel", "nearest", "()I"⟩, 66) := ⟨⟨by decide +kernel, by decide +kernel⟩, List.mem_of_getElem? (i := 1230) (by decide +kernel), List.mem_of_getElem? (i := 1723) (by decide +kernel), List.mem_of_getElem? (i := 1724) (by decide +kernel)⟩
theorem lw_p93 : lw_okq (⟨"DeskMovesModel", "isDoneAt", "(III)Z"⟩, 66) := ⟨⟨by decide +kernel, by decide +kernel⟩, List.mem_of_getElem? (i := 1230) (by decide +kernel), List.mem_of_getElem? (i := 1727) (by decide +kernel), List.mem_of_getElem? (i := 1728) (by decide +kernel)⟩
theorem lw_p94 : lw_okq (⟨"DeskMovesModel", "measure", "()V"⟩, 66) := ⟨⟨by decide +kernel, by decide +kernel⟩, List.mem_of_getElem? (i := 1230) (by decide +kernel), List.mem_of_getElem? (i := 1731) (by decide +kernel), List.mem_of_getElem? (i := 1732) (by decide +kernel)⟩
theorem lw_p95 : lw_okq (⟨"DeskMovesModel", "bestEdge", "(I)I"⟩, 66) := ⟨⟨by decide +kernel, by decide +kernel⟩, List.mem_of_getElem? (i := 1230) (by decide +kernel), List.mem_of_getElem? (i := 1735) (by decide +kernel), List.mem_of_getElem? (i := 1736) (by decide +kernel)⟩
def lw_privs_6 : List (MethodName × Nat) := [(⟨"DeskMovesModel", "isLet", "([IIII)Z"⟩, 66), (⟨"DeskMovesModel", "worthOf", "(I)I"⟩, 66), (⟨"DeskMovesModel", "workOut", "(III)I"⟩, 66), (⟨"DeskMovesModel", "costOf", "(III)I"⟩, 66), (⟨"DeskMovesModel", "copySeat", "([I)V"⟩, 66), (⟨"DeskMovesModel", "areCross", "([I)Z"⟩, 66), (⟨"DeskMovesModel", "isDone", "([III)Z"⟩, 66), (⟨"DeskMovesModel", "isSmall", "()Z"⟩, 66), (⟨"DeskMovesModel", "explore", "(I)V"⟩, 66), (⟨"DeskMovesModel", "placeOf", "(I)I"⟩, 66), (⟨"DeskMovesModel", "leave", "(II)V"⟩, 66), (⟨"DeskMovesModel", "unpack", "(I)V"⟩, 66), (⟨"DeskMovesModel", "nearest", "()I"⟩, 66), (⟨"DeskMovesModel", "isDoneAt", "(III)Z"⟩, 66), (⟨"DeskMovesModel", "measure", "()V"⟩, 66), (⟨"DeskMovesModel", "bestEdge", "(I)I"⟩, 66)]
theorem lw_r6 : ∀ q ∈ lw_privs_6, lw_okq q := List.forall_mem_cons.mpr ⟨lw_p80, List.forall_mem_cons.mpr ⟨lw_p81, List.forall_mem_cons.mpr ⟨lw_p82, List.forall_mem_cons.mpr ⟨lw_p83, List.forall_mem_cons.mpr ⟨lw_p84, List.forall_mem_cons.mpr ⟨lw_p85, List.forall_mem_cons.mpr ⟨lw_p86, List.forall_mem_cons.mpr ⟨lw_p87, List.forall_mem_cons.mpr ⟨lw_p88, List.forall_mem_cons.mpr ⟨lw_p89, List.forall_mem_cons.mpr ⟨lw_p90, List.forall_mem_cons.mpr ⟨lw_p91, List.forall_mem_cons.mpr ⟨lw_p92, List.forall_mem_cons.mpr ⟨lw_p93, List.forall_mem_cons.mpr ⟨lw_p94, List.forall_mem_cons.mpr ⟨lw_p95, fun _ h => absurd h List.not_mem_nil⟩⟩⟩⟩⟩⟩⟩⟩⟩⟩⟩⟩⟩⟩⟩⟩
theorem lw_p96 : lw_okq (⟨"DeskMovesModel", "cheapestOf", "(I)I"⟩, 66) := ⟨⟨by decide +kernel, by decide +kernel⟩, List.mem_of_getElem? (i := 1230) (by decide +kernel), List.mem_of_getElem? (i := 1743) (by decide +kernel), List.mem_of_getElem? (i := 1744) (by decide +kernel)⟩
theorem lw_p97 : lw_okq (⟨"DeskMovesModel", "edgeCost", "(II)I"⟩, 66) := ⟨⟨by decide +kernel, by decide +kernel⟩, List.mem_of_getElem? (i := 1230) (by decide +kernel), List.mem_of_getElem? (i := 1747) (by decide +kernel), List.mem_of_getElem? (i := 1748) (by decide +kernel)⟩
theorem lw_p98 : lw_okq (⟨"DeskMovesModel", "empties", "()I"⟩, 66) := ⟨⟨by decide +kernel, by decide +kernel⟩, List.mem_of_getElem? (i := 1230) (by decide +kernel), List.mem_of_getElem? (i := 1771) (by decide +kernel), List.mem_of_getElem? (i := 1772) (by decide +kernel)⟩
theorem lw_p99 : lw_okq (⟨"DeskMovesModel", "sortOf", "()I"⟩, 66) := ⟨⟨by decide +kernel, by decide +kernel⟩, List.mem_of_getElem? (i := 1230) (by decide +kernel), List.mem_of_getElem? (i := 1776) (by decide +kernel), List.mem_of_getElem? (i := 1777) (by decide +kernel)⟩
theorem lw_p100 : lw_okq (⟨"DeskMovesModel", "joined", "(II)I"⟩, 66) := ⟨⟨by decide +kernel, by decide +kernel⟩, List.mem_of_getElem? (i := 1230) (by decide +kernel), List.mem_of_getElem? (i := 1780) (by decide +kernel), List.mem_of_getElem? (i := 1781) (by decide +kernel)⟩
theorem lw_p101 : lw_okq (⟨"DeskMovesModel", "doorsOf", "(I)I"⟩, 66) := ⟨⟨by decide +kernel, by decide +kernel⟩, List.mem_of_getElem? (i := 1230) (by decide +kernel), List.mem_of_getElem? (i := 1784) (by decide +kernel), List.mem_of_getElem? (i := 1785) (by decide +kernel)⟩
theorem lw_p102 : lw_okq (⟨"DeskMovesModel", "isTheta", "()Z"⟩, 66) := ⟨⟨by decide +kernel, by decide +kernel⟩, List.mem_of_getElem? (i := 1230) (by decide +kernel), List.mem_of_getElem? (i := 1788) (by decide +kernel), List.mem_of_getElem? (i := 1789) (by decide +kernel)⟩
theorem lw_p103 : lw_okq (⟨"DeskMovesModel", "isOfTwo", "()Z"⟩, 66) := ⟨⟨by decide +kernel, by decide +kernel⟩, List.mem_of_getElem? (i := 1230) (by decide +kernel), List.mem_of_getElem? (i := 1792) (by decide +kernel), List.mem_of_getElem? (i := 1793) (by decide +kernel)⟩
theorem lw_p104 : lw_okq (⟨"DeskMovesModel", "isSeating", "()Z"⟩, 66) := ⟨⟨by decide +kernel, by decide +kernel⟩, List.mem_of_getElem? (i := 1230) (by decide +kernel), List.mem_of_getElem? (i := 1800) (by decide +kernel), List.mem_of_getElem? (i := 1801) (by decide +kernel)⟩
theorem lw_p105 : lw_okq (⟨"DeskMovesModel", "isOneOrder", "()Z"⟩, 66) := ⟨⟨by decide +kernel, by decide +kernel⟩, List.mem_of_getElem? (i := 1230) (by decide +kernel), List.mem_of_getElem? (i := 1804) (by decide +kernel), List.mem_of_getElem? (i := 1805) (by decide +kernel)⟩
theorem lw_p106 : lw_okq (⟨"DeskMovesModel", "goRound", "()V"⟩, 66) := ⟨⟨by decide +kernel, by decide +kernel⟩, List.mem_of_getElem? (i := 1230) (by decide +kernel), List.mem_of_getElem? (i := 1808) (by decide +kernel), List.mem_of_getElem? (i := 1809) (by decide +kernel)⟩
theorem lw_p107 : lw_okq (⟨"DeskMovesModel", "behind", "([III)I"⟩, 66) := ⟨⟨by decide +kernel, by decide +kernel⟩, List.mem_of_getElem? (i := 1230) (by decide +kernel), List.mem_of_getElem? (i := 1816) (by decide +kernel), List.mem_of_getElem? (i := 1817) (by decide +kernel)⟩
theorem lw_p108 : lw_okq (⟨"DeskMovesModel", "isEven", "()Z"⟩, 66) := ⟨⟨by decide +kernel, by decide +kernel⟩, List.mem_of_getElem? (i := 1230) (by decide +kernel), List.mem_of_getElem? (i := 1820) (by decide +kernel), List.mem_of_getElem? (i := 1821) (by decide +kernel)⟩
theorem lw_p109 : lw_okq (⟨"DeskMovesModel", "lay", "()V"⟩, 66) := ⟨⟨by decide +kernel, by decide +kernel⟩, List.mem_of_getElem? (i := 1230) (by decide +kernel), List.mem_of_getElem? (i := 1836) (by decide +kernel), List.mem_of_getElem? (i := 1837) (by decide +kernel)⟩
theorem lw_p110 : lw_okq (⟨"DeskMovesModel", "bestSum", "()I"⟩, 66) := ⟨⟨by decide +kernel, by decide +kernel⟩, List.mem_of_getElem? (i := 1230) (by decide +kernel), List.mem_of_getElem? (i := 1840) (by decide +kernel), List.mem_of_getElem? (i := 1841) (by decide +kernel)⟩
theorem lw_p111 : lw_okq (⟨"DeskMovesModel", "fill", "()V"⟩, 66) := ⟨⟨by decide +kernel, by decide +kernel⟩, List.mem_of_getElem? (i := 1230) (by decide +kernel), List.mem_of_getElem? (i := 1844) (by decide +kernel), List.mem_of_getElem? (i := 1845) (by decide +kernel)⟩
def lw_privs_7 : List (MethodName × Nat) := [(⟨"DeskMovesModel", "cheapestOf", "(I)I"⟩, 66), (⟨"DeskMovesModel", "edgeCost", "(II)I"⟩, 66), (⟨"DeskMovesModel", "empties", "()I"⟩, 66), (⟨"DeskMovesModel", "sortOf", "()I"⟩, 66), (⟨"DeskMovesModel", "joined", "(II)I"⟩, 66), (⟨"DeskMovesModel", "doorsOf", "(I)I"⟩, 66), (⟨"DeskMovesModel", "isTheta", "()Z"⟩, 66), (⟨"DeskMovesModel", "isOfTwo", "()Z"⟩, 66), (⟨"DeskMovesModel", "isSeating", "()Z"⟩, 66), (⟨"DeskMovesModel", "isOneOrder", "()Z"⟩, 66), (⟨"DeskMovesModel", "goRound", "()V"⟩, 66), (⟨"DeskMovesModel", "behind", "([III)I"⟩, 66), (⟨"DeskMovesModel", "isEven", "()Z"⟩, 66), (⟨"DeskMovesModel", "lay", "()V"⟩, 66), (⟨"DeskMovesModel", "bestSum", "()I"⟩, 66), (⟨"DeskMovesModel", "fill", "()V"⟩, 66)]
theorem lw_r7 : ∀ q ∈ lw_privs_7, lw_okq q := List.forall_mem_cons.mpr ⟨lw_p96, List.forall_mem_cons.mpr ⟨lw_p97, List.forall_mem_cons.mpr ⟨lw_p98, List.forall_mem_cons.mpr ⟨lw_p99, List.forall_mem_cons.mpr ⟨lw_p100, List.forall_mem_cons.mpr ⟨lw_p101, List.forall_mem_cons.mpr ⟨lw_p102, List.forall_mem_cons.mpr ⟨lw_p103, List.forall_mem_cons.mpr ⟨lw_p104, List.forall_mem_cons.mpr ⟨lw_p105, List.forall_mem_cons.mpr ⟨lw_p106, List.forall_mem_cons.mpr ⟨lw_p107, List.forall_mem_cons.mpr ⟨lw_p108, List.forall_mem_cons.mpr ⟨lw_p109, List.forall_mem_cons.mpr ⟨lw_p110, List.forall_mem_cons.mpr ⟨lw_p111, fun _ h => absurd h List.not_mem_nil⟩⟩⟩⟩⟩⟩⟩⟩⟩⟩⟩⟩⟩⟩⟩⟩
theorem lw_p112 : lw_okq (⟨"DeskMovesModel", "clerkAt", "(I)I"⟩, 66) := ⟨⟨by decide +kernel, by decide +kernel⟩, List.mem_of_getElem? (i := 1230) (by decide +kernel), List.mem_of_getElem? (i := 1848) (by decide +kernel), List.mem_of_getElem? (i := 1849) (by decide +kernel)⟩
theorem lw_p113 : lw_okq (⟨"DeskMovesModel", "toldWorth", "(II)I"⟩, 66) := ⟨⟨by decide +kernel, by decide +kernel⟩, List.mem_of_getElem? (i := 1230) (by decide +kernel), List.mem_of_getElem? (i := 1852) (by decide +kernel), List.mem_of_getElem? (i := 1853) (by decide +kernel)⟩
theorem lw_p114 : lw_okq (⟨"DeskMovesModel", "restOf", "(II)I"⟩, 66) := ⟨⟨by decide +kernel, by decide +kernel⟩, List.mem_of_getElem? (i := 1230) (by decide +kernel), List.mem_of_getElem? (i := 1856) (by decide +kernel), List.mem_of_getElem? (i := 1857) (by decide +kernel)⟩
theorem lw_p115 : lw_okq (⟨"DeskMovesModel", "exchangeAll", "()V"⟩, 66) := ⟨⟨by decide +kernel, by decide +kernel⟩, List.mem_of_getElem? (i := 1230) (by decide +kernel), List.mem_of_getElem? (i := 1868) (by decide +kernel), List.mem_of_getElem? (i := 1869) (by decide +kernel)⟩
theorem lw_p116 : lw_okq (⟨"DeskMovesModel", "pointOf", "(II)I"⟩, 66) := ⟨⟨by decide +kernel, by decide +kernel⟩, List.mem_of_getElem? (i := 1230) (by decide +kernel), List.mem_of_getElem? (i := 1872) (by decide +kernel), List.mem_of_getElem? (i := 1873) (by decide +kernel)⟩
theorem lw_p117 : lw_okq (⟨"DeskMovesModel", "ringAt", "(I)I"⟩, 66) := ⟨⟨by decide +kernel, by decide +kernel⟩, List.mem_of_getElem? (i := 1230) (by decide +kernel), List.mem_of_getElem? (i := 1876) (by decide +kernel), List.mem_of_getElem? (i := 1877) (by decide +kernel)⟩
theorem lw_p118 : lw_okq (⟨"DeskMovesModel", "areAgreed", "(II)Z"⟩, 66) := ⟨⟨by decide +kernel, by decide +kernel⟩, List.mem_of_getElem? (i := 1230) (by decide +kernel), List.mem_of_getElem? (i := 1884) (by decide +kernel), List.mem_of_getElem? (i := 1885) (by decide +kernel)⟩
def lw_privs_8 : List (MethodName × Nat) := [(⟨"DeskMovesModel", "clerkAt", "(I)I"⟩, 66), (⟨"DeskMovesModel", "toldWorth", "(II)I"⟩, 66), (⟨"DeskMovesModel", "restOf", "(II)I"⟩, 66), (⟨"DeskMovesModel", "exchangeAll", "()V"⟩, 66), (⟨"DeskMovesModel", "pointOf", "(II)I"⟩, 66), (⟨"DeskMovesModel", "ringAt", "(I)I"⟩, 66), (⟨"DeskMovesModel", "areAgreed", "(II)Z"⟩, 66)]
theorem lw_r8 : ∀ q ∈ lw_privs_8, lw_okq q := List.forall_mem_cons.mpr ⟨lw_p112, List.forall_mem_cons.mpr ⟨lw_p113, List.forall_mem_cons.mpr ⟨lw_p114, List.forall_mem_cons.mpr ⟨lw_p115, List.forall_mem_cons.mpr ⟨lw_p116, List.forall_mem_cons.mpr ⟨lw_p117, List.forall_mem_cons.mpr ⟨lw_p118, fun _ h => absurd h List.not_mem_nil⟩⟩⟩⟩⟩⟩⟩
def lw_privs : List (MethodName × Nat) := lw_privs_1 ++ (lw_privs_2 ++ (lw_privs_3 ++ (lw_privs_4 ++ (lw_privs_5 ++ (lw_privs_6 ++ (lw_privs_7 ++ (lw_privs_8)))))))
def lw_tbl : List Cond := k2_sels lw_privs ++ tables_1
theorem lw_privs_ok : ∀ q ∈ lw_privs, lw_okq q := by
  show ∀ q ∈ lw_privs_1 ++ (lw_privs_2 ++ (lw_privs_3 ++ (lw_privs_4 ++ (lw_privs_5 ++ (lw_privs_6 ++ (lw_privs_7 ++ (lw_privs_8))))))), lw_okq q
  exact List.forall_mem_append.mpr ⟨lw_r1, List.forall_mem_append.mpr ⟨lw_r2, List.forall_mem_append.mpr ⟨lw_r3, List.forall_mem_append.mpr ⟨lw_r4, List.forall_mem_append.mpr ⟨lw_r5, List.forall_mem_append.mpr ⟨lw_r6, List.forall_mem_append.mpr ⟨lw_r7, lw_r8⟩⟩⟩⟩⟩⟩⟩

def RX0 : String := "DeskMoves$Costs"
def TX0 : u_T := fun k => match k with
  | 0 => ("DeskMoves$Costs", "cost", "[I", true)
  | 1 => ("DeskMoves$Costs", "next", "[I", true)
  | 2 => ("DeskMoves$Costs", "last", "[I", true)
  | 3 => ("DeskMoves$Costs", "heads", "[I", true)
  | _ => ("DeskMoves$Costs", "waiting", "I", false)
def tyX0 : Nat → FieldType := fun k => match k with
  | 0 => .array .int
  | 1 => .array .int
  | 2 => .array .int
  | 3 => .array .int
  | _ => .int
abbrev wsX00 : List Cond := u_ws RX0 TX0 5
theorem nmX0 : ∀ a, a < 5 → ∀ b, b < 5 → a ≠ b → (TX0 a).2.1 ≠ (TX0 b).2.1 := by decide +kernel
theorem tyX0_ok : ∀ k, k < 5 → parseFieldDescriptor (TX0 k).2.2.1 = some (tyX0 k) := by decide +kernel
def RX1 : String := "DeskMoves$Diary"
def TX1 : u_T := fun k => match k with
  | 0 => ("DeskMoves$Diary", "moves", "[I", true)
  | 1 => ("DeskMoves$Diary", "size", "I", false)
  | 2 => ("DeskMoves$Diary", "kept", "Z", false)
  | 3 => ("DeskMoves$Diary", "keptMoves", "[I", true)
  | 4 => ("DeskMoves$Diary", "keptSize", "I", false)
  | _ => ("DeskMoves$Diary", "keptSeats", "[I", true)
def tyX1 : Nat → FieldType := fun k => match k with
  | 0 => .array .int
  | 1 => .int
  | 2 => .boolean
  | 3 => .array .int
  | 4 => .int
  | _ => .array .int
abbrev wsX10 : List Cond := u_ws RX1 TX1 6
theorem nmX1 : ∀ a, a < 6 → ∀ b, b < 6 → a ≠ b → (TX1 a).2.1 ≠ (TX1 b).2.1 := by decide +kernel
theorem tyX1_ok : ∀ k, k < 6 → parseFieldDescriptor (TX1 k).2.2.1 = some (tyX1 k) := by decide +kernel
abbrev cX1_moveAt : ByteArray := prog_3_method_5_code
def yX1_moveAt : MethodName := ⟨RX1, "moveAt", "(I)I"⟩
def RX2 : String := "DeskMoves$Law"
def TX2 : u_T := fun k => match k with
  | 0 => ("DeskMoves$Law", "code", "[I", true)
  | 1 => ("DeskMoves$Law", "looksBeside", "Z", true)
  | 2 => ("DeskMoves$Law", "letters", "[I", true)
  | 3 => ("DeskMoves$Law", "stack", "[I", true)
  | _ => ("DeskMoves$Law", "top", "I", false)
def tyX2 : Nat → FieldType := fun k => match k with
  | 0 => .array .int
  | 1 => .boolean
  | 2 => .array .int
  | 3 => .array .int
  | _ => .int
abbrev wsX20 : List Cond := u_ws RX2 TX2 5
theorem nmX2 : ∀ a, a < 5 → ∀ b, b < 5 → a ≠ b → (TX2 a).2.1 ≠ (TX2 b).2.1 := by decide +kernel
theorem tyX2_ok : ∀ k, k < 5 → parseFieldDescriptor (TX2 k).2.2.1 = some (tyX2 k) := by decide +kernel
def RX3 : String := "DeskMoves$LawReader"
def TX3 : u_T := fun k => match k with
  | 0 => ("DeskMoves$LawReader", "tape", "LDeskMoves$Tape;", true)
  | 1 => ("DeskMoves$LawReader", "items", "[I", true)
  | 2 => ("DeskMoves$LawReader", "size", "I", false)
  | _ => ("DeskMoves$LawReader", "looksBeside", "Z", false)
def tyX3 : Nat → FieldType := fun k => match k with
  | 0 => .object "DeskMoves$Tape"
  | 1 => .array .int
  | 2 => .int
  | _ => .boolean
abbrev wsX30 : List Cond := u_ws RX3 TX3 4
theorem nmX3 : ∀ a, a < 4 → ∀ b, b < 4 → a ≠ b → (TX3 a).2.1 ≠ (TX3 b).2.1 := by decide +kernel
theorem tyX3_ok : ∀ k, k < 4 → parseFieldDescriptor (TX3 k).2.2.1 = some (tyX3 k) := by decide +kernel
abbrev cX3_isRead : ByteArray := prog_5_method_2_code
def yX3_isRead : MethodName := ⟨RX3, "isRead", "()Z"⟩
abbrev cX3_readClause : ByteArray := prog_5_method_5_code
def yX3_readClause : MethodName := ⟨RX3, "readClause", "()Z"⟩
def RX4 : String := "DeskMoves$Office"
def TX4 : u_T := fun k => match k with
  | 0 => ("DeskMoves$Office", "desks", "I", false)
  | 1 => ("DeskMoves$Office", "clerks", "I", false)
  | 2 => ("DeskMoves$Office", "seat", "[I", true)
  | 3 => ("DeskMoves$Office", "place", "[I", true)
  | 4 => ("DeskMoves$Office", "lengths", "[I", true)
  | 5 => ("DeskMoves$Office", "beside", "[I", true)
  | 6 => ("DeskMoves$Office", "foes", "[I", true)
  | 7 => ("DeskMoves$Office", "rank", "[I", true)
  | 8 => ("DeskMoves$Office", "papers", "[I", true)
  | 9 => ("DeskMoves$Office", "wishes", "[I", true)
  | _ => ("DeskMoves$Office", "worths", "[I", true)
def tyX4 : Nat → FieldType := fun k => match k with
  | 0 => .int
  | 1 => .int
  | 2 => .array .int
  | 3 => .array .int
  | 4 => .array .int
  | 5 => .array .int
  | 6 => .array .int
  | 7 => .array .int
  | 8 => .array .int
  | 9 => .array .int
  | _ => .array .int
abbrev wsX40 : List Cond := u_ws RX4 TX4 11
theorem nmX4 : ∀ a, a < 11 → ∀ b, b < 11 → a ≠ b → (TX4 a).2.1 ≠ (TX4 b).2.1 := by decide +kernel
theorem tyX4_ok : ∀ k, k < 11 → parseFieldDescriptor (TX4 k).2.2.1 = some (tyX4 k) := by decide +kernel
abbrev cX4_clear : ByteArray := prog_6_method_2_code
def yX4_clear : MethodName := ⟨RX4, "clear", "()V"⟩
abbrev cX4_isReadFrom : ByteArray := prog_6_method_3_code
def yX4_isReadFrom : MethodName := ⟨RX4, "isReadFrom", "(LDeskMoves$Tape;)Z"⟩
abbrev cX4_readSeats : ByteArray := prog_6_method_4_code
def yX4_readSeats : MethodName := ⟨RX4, "readSeats", "(LDeskMoves$Tape;)Z"⟩
abbrev cX4_addDesk : ByteArray := prog_6_method_6_code
def yX4_addDesk : MethodName := ⟨RX4, "addDesk", "(I)Z"⟩
abbrev cX4_hasDesk : ByteArray := prog_6_method_11_code
def yX4_hasDesk : MethodName := ⟨RX4, "hasDesk", "(I)Z"⟩
abbrev cX4_hasClerk : ByteArray := prog_6_method_12_code
def yX4_hasClerk : MethodName := ⟨RX4, "hasClerk", "(I)Z"⟩
abbrev cX4_lengthBetween : ByteArray := prog_6_method_13_code
def yX4_lengthBetween : MethodName := ⟨RX4, "lengthBetween", "(II)I"⟩
abbrev cX4_hindrance : ByteArray := prog_6_method_16_code
def yX4_hindrance : MethodName := ⟨RX4, "hindrance", "(LDeskMoves$Law;II)I"⟩
def RX5 : String := "DeskMoves$Plan"
def TX5 : u_T := fun k => match k with
  | 0 => ("DeskMoves$Plan", "moves", "[I", true)
  | 1 => ("DeskMoves$Plan", "size", "I", false)
  | 2 => ("DeskMoves$Plan", "before", "[I", true)
  | 3 => ("DeskMoves$Plan", "wrong", "I", false)
  | 4 => ("DeskMoves$Plan", "why", "I", false)
  | _ => ("DeskMoves$Plan", "cost", "I", false)
def tyX5 : Nat → FieldType := fun k => match k with
  | 0 => .array .int
  | 1 => .int
  | 2 => .array .int
  | 3 => .int
  | 4 => .int
  | _ => .int
abbrev wsX50 : List Cond := u_ws RX5 TX5 6
theorem nmX5 : ∀ a, a < 6 → ∀ b, b < 6 → a ≠ b → (TX5 a).2.1 ≠ (TX5 b).2.1 := by decide +kernel
theorem tyX5_ok : ∀ k, k < 6 → parseFieldDescriptor (TX5 k).2.2.1 = some (tyX5 k) := by decide +kernel
abbrev cX5_isReadFrom : ByteArray := prog_7_method_2_code
def yX5_isReadFrom : MethodName := ⟨RX5, "isReadFrom", "(LDeskMoves$Tape;)Z"⟩
def RX6 : String := "DeskMoves$Tape"
def TX6 : u_T := fun k => match k with
  | 0 => ("DeskMoves$Tape", "bytes", "[I", true)
  | 1 => ("DeskMoves$Tape", "length", "I", false)
  | _ => ("DeskMoves$Tape", "at", "I", false)
def tyX6 : Nat → FieldType := fun k => match k with
  | 0 => .array .int
  | 1 => .int
  | _ => .int
abbrev wsX60 : List Cond := u_ws RX6 TX6 3
theorem nmX6 : ∀ a, a < 3 → ∀ b, b < 3 → a ≠ b → (TX6 a).2.1 ≠ (TX6 b).2.1 := by decide +kernel
theorem tyX6_ok : ∀ k, k < 3 → parseFieldDescriptor (TX6 k).2.2.1 = some (tyX6 k) := by decide +kernel
abbrev cX6_look : ByteArray := prog_8_method_4_code
def yX6_look : MethodName := ⟨RX6, "look", "()I"⟩
abbrev cX6_takes : ByteArray := prog_8_method_5_code
def yX6_takes : MethodName := ⟨RX6, "takes", "(I)Z"⟩
def RX7 : String := "DeskMoves$Turns"
def TX7 : u_T := fun k => match k with
  | 0 => ("DeskMoves$Turns", "round", "[I", true)
  | 1 => ("DeskMoves$Turns", "now", "[I", true)
  | _ => ("DeskMoves$Turns", "then", "[I", true)
def tyX7 : Nat → FieldType := fun k => match k with
  | 0 => .array .int
  | 1 => .array .int
  | _ => .array .int
abbrev wsX70 : List Cond := u_ws RX7 TX7 3
theorem nmX7 : ∀ a, a < 3 → ∀ b, b < 3 → a ≠ b → (TX7 a).2.1 ≠ (TX7 b).2.1 := by decide +kernel
theorem tyX7_ok : ∀ k, k < 3 → parseFieldDescriptor (TX7 k).2.2.1 = some (tyX7 k) := by decide +kernel
abbrev cX7_kindOf : ByteArray := prog_9_method_2_code
def yX7_kindOf : MethodName := ⟨RX7, "kindOf", "(LDeskMoves$Office;)I"⟩
def RX8 : String := "DeskMoves$Ways"
def TX8 : u_T := fun k => match k with
  | 0 => ("DeskMoves$Ways", "room", "I", true)
  | 1 => ("DeskMoves$Ways", "code", "[I", true)
  | 2 => ("DeskMoves$Ways", "parent", "[I", true)
  | 3 => ("DeskMoves$Ways", "table", "[I", true)
  | 4 => ("DeskMoves$Ways", "base", "I", false)
  | 5 => ("DeskMoves$Ways", "count", "I", false)
  | 6 => ("DeskMoves$Ways", "far", "I", false)
  | 7 => ("DeskMoves$Ways", "levels", "[I", true)
  | 8 => ("DeskMoves$Ways", "office", "LDeskMoves$Office;", false)
  | 9 => ("DeskMoves$Ways", "law", "LDeskMoves$Law;", false)
  | 10 => ("DeskMoves$Ways", "clerks", "I", false)
  | 11 => ("DeskMoves$Ways", "who", "[I", true)
  | 12 => ("DeskMoves$Ways", "at", "[I", true)
  | 13 => ("DeskMoves$Ways", "full", "I", false)
  | 14 => ("DeskMoves$Ways", "known", "[I", true)
  | 15 => ("DeskMoves$Ways", "stamp", "I", false)
  | 16 => ("DeskMoves$Ways", "goalMask", "I", false)
  | 17 => ("DeskMoves$Ways", "goalCode", "I", false)
  | _ => ("DeskMoves$Ways", "goalEmpty", "I", false)
def tyX8 : Nat → FieldType := fun k => match k with
  | 0 => .int
  | 1 => .array .int
  | 2 => .array .int
  | 3 => .array .int
  | 4 => .int
  | 5 => .int
  | 6 => .int
  | 7 => .array .int
  | 8 => .object "DeskMoves$Office"
  | 9 => .object "DeskMoves$Law"
  | 10 => .int
  | 11 => .array .int
  | 12 => .array .int
  | 13 => .int
  | 14 => .array .int
  | 15 => .int
  | 16 => .int
  | 17 => .int
  | _ => .int
abbrev wsX80 : List Cond := u_ws RX8 TX8 19
theorem nmX8 : ∀ a, a < 19 → ∀ b, b < 19 → a ≠ b → (TX8 a).2.1 ≠ (TX8 b).2.1 := by decide +kernel
theorem tyX8_ok : ∀ k, k < 19 → parseFieldDescriptor (TX8 k).2.2.1 = some (tyX8 k) := by decide +kernel
def RX9 : String := "DeskMoves$Wealth"
def TX9 : u_T := fun k => match k with
  | 0 => ("DeskMoves$Wealth", "sums", "[I", false)
  | 1 => ("DeskMoves$Wealth", "told", "[I", true)
  | 2 => ("DeskMoves$Wealth", "who", "[I", true)
  | 3 => ("DeskMoves$Wealth", "clerks", "I", false)
  | 4 => ("DeskMoves$Wealth", "solved", "Z", false)
  | 5 => ("DeskMoves$Wealth", "bestSum", "I", false)
  | 6 => ("DeskMoves$Wealth", "bestDesk", "[I", true)
  | 7 => ("DeskMoves$Wealth", "lied", "I", false)
  | 8 => ("DeskMoves$Wealth", "gain", "[I", true)
  | 9 => ("DeskMoves$Wealth", "gainDesk", "[I", true)
  | 10 => ("DeskMoves$Wealth", "got", "[I", true)
  | 11 => ("DeskMoves$Wealth", "pointed", "[I", true)
  | 12 => ("DeskMoves$Wealth", "clerksLeft", "I", false)
  | _ => ("DeskMoves$Wealth", "desksLeft", "I", false)
def tyX9 : Nat → FieldType := fun k => match k with
  | 0 => .array .int
  | 1 => .array .int
  | 2 => .array .int
  | 3 => .int
  | 4 => .boolean
  | 5 => .int
  | 6 => .array .int
  | 7 => .int
  | 8 => .array .int
  | 9 => .array .int
  | 10 => .array .int
  | 11 => .array .int
  | 12 => .int
  | _ => .int
abbrev wsX90 : List Cond := u_ws RX9 TX9 14
theorem nmX9 : ∀ a, a < 14 → ∀ b, b < 14 → a ≠ b → (TX9 a).2.1 ≠ (TX9 b).2.1 := by decide +kernel
theorem tyX9_ok : ∀ k, k < 14 → parseFieldDescriptor (TX9 k).2.2.1 = some (tyX9 k) := by decide +kernel
def RX10 : String := "DeskMoves"
def TX10 : u_T := fun k => match k with
  | 0 => ("DeskMoves", "tape", "LDeskMoves$Tape;", true)
  | 1 => ("DeskMoves", "lawReader", "LDeskMoves$LawReader;", true)
  | 2 => ("DeskMoves", "laws", "[LDeskMoves$Law;", true)
  | 3 => ("DeskMoves", "lawCount", "I", false)
  | 4 => ("DeskMoves", "holding", "I", false)
  | 5 => ("DeskMoves", "office", "LDeskMoves$Office;", false)
  | 6 => ("DeskMoves", "spareOffice", "LDeskMoves$Office;", false)
  | 7 => ("DeskMoves", "plan", "LDeskMoves$Plan;", false)
  | 8 => ("DeskMoves", "sparePlan", "LDeskMoves$Plan;", false)
  | 9 => ("DeskMoves", "book", "LDeskMoves$Diary;", true)
  | 10 => ("DeskMoves", "turns", "LDeskMoves$Turns;", true)
  | 11 => ("DeskMoves", "wealth", "LDeskMoves$Wealth;", true)
  | 12 => ("DeskMoves", "ways", "LDeskMoves$Ways;", false)
  | 13 => ("DeskMoves", "costs", "LDeskMoves$Costs;", false)
  | 14 => ("DeskMoves", "explored", "Z", false)
  | 15 => ("DeskMoves", "exploredLaw", "I", false)
  | _ => ("DeskMoves", "least", "[I", true)
def tyX10 : Nat → FieldType := fun k => match k with
  | 0 => .object "DeskMoves$Tape"
  | 1 => .object "DeskMoves$LawReader"
  | 2 => .array (.object "DeskMoves$Law")
  | 3 => .int
  | 4 => .int
  | 5 => .object "DeskMoves$Office"
  | 6 => .object "DeskMoves$Office"
  | 7 => .object "DeskMoves$Plan"
  | 8 => .object "DeskMoves$Plan"
  | 9 => .object "DeskMoves$Diary"
  | 10 => .object "DeskMoves$Turns"
  | 11 => .object "DeskMoves$Wealth"
  | 12 => .object "DeskMoves$Ways"
  | 13 => .object "DeskMoves$Costs"
  | 14 => .boolean
  | 15 => .int
  | _ => .array .int
abbrev wsX100 : List Cond := u_ws RX10 TX10 17
theorem nmX10 : ∀ a, a < 17 → ∀ b, b < 17 → a ≠ b → (TX10 a).2.1 ≠ (TX10 b).2.1 := by decide +kernel
theorem tyX10_ok : ∀ k, k < 17 → parseFieldDescriptor (TX10 k).2.2.1 = some (tyX10 k) := by decide +kernel
abbrev cX10_door : ByteArray := prog_1_method_7_code
def yX10_door : MethodName := ⟨RX10, "door", "(II)I"⟩
abbrev cX10_quarrel : ByteArray := prog_1_method_8_code
def yX10_quarrel : MethodName := ⟨RX10, "quarrel", "(II)I"⟩
abbrev cX10_set : ByteArray := prog_1_method_9_code
def yX10_set : MethodName := ⟨RX10, "set", "(III)Z"⟩
abbrev cX10_clerk : ByteArray := prog_1_method_10_code
def yX10_clerk : MethodName := ⟨RX10, "clerk", "(II)I"⟩
abbrev cX10_law : ByteArray := prog_1_method_11_code
def yX10_law : MethodName := ⟨RX10, "law", "(I)Z"⟩
abbrev cX10_let : ByteArray := prog_1_method_12_code
def yX10_let : MethodName := ⟨RX10, "let", "(II)I"⟩
abbrev cX10_move : ByteArray := prog_1_method_13_code
def yX10_move : MethodName := ⟨RX10, "move", "(II)I"⟩
abbrev cX10_undo : ByteArray := prog_1_method_14_code
def yX10_undo : MethodName := ⟨RX10, "undo", "()I"⟩
abbrev cX10_diary : ByteArray := prog_1_method_15_code
def yX10_diary : MethodName := ⟨RX10, "diary", "(I)I"⟩
abbrev cX10_judge : ByteArray := prog_1_method_16_code
def yX10_judge : MethodName := ⟨RX10, "judge", "(II)I"⟩
abbrev cX10_wish : ByteArray := prog_1_method_17_code
def yX10_wish : MethodName := ⟨RX10, "wish", "(II)Z"⟩
abbrev cX10_done : ByteArray := prog_1_method_18_code
def yX10_done : MethodName := ⟨RX10, "done", "()I"⟩
abbrev cX10_fewest : ByteArray := prog_1_method_19_code
def yX10_fewest : MethodName := ⟨RX10, "fewest", "(I)I"⟩
abbrev cX10_cheapest : ByteArray := prog_1_method_20_code
def yX10_cheapest : MethodName := ⟨RX10, "cheapest", "()I"⟩
abbrev cX10_all : ByteArray := prog_1_method_21_code
def yX10_all : MethodName := ⟨RX10, "all", "(I)I"⟩
abbrev cX10_count : ByteArray := prog_1_method_22_code
def yX10_count : MethodName := ⟨RX10, "count", "(I)I"⟩
abbrev cX10_ill : ByteArray := prog_1_method_23_code
def yX10_ill : MethodName := ⟨RX10, "ill", "(I)I"⟩
abbrev cX10_holds : ByteArray := prog_1_method_24_code
def yX10_holds : MethodName := ⟨RX10, "holds", "()I"⟩
abbrev cX10_sort : ByteArray := prog_1_method_25_code
def yX10_sort : MethodName := ⟨RX10, "sort", "()I"⟩
abbrev cX10_can : ByteArray := prog_1_method_26_code
def yX10_can : MethodName := ⟨RX10, "can", "()I"⟩
abbrev cX10_worth : ByteArray := prog_1_method_27_code
def yX10_worth : MethodName := ⟨RX10, "worth", "(III)Z"⟩
abbrev cX10_seated : ByteArray := prog_1_method_28_code
def yX10_seated : MethodName := ⟨RX10, "seated", "(I)I"⟩
abbrev cX10_best : ByteArray := prog_1_method_29_code
def yX10_best : MethodName := ⟨RX10, "best", "(I)I"⟩
abbrev cX10_gains : ByteArray := prog_1_method_30_code
def yX10_gains : MethodName := ⟨RX10, "gains", "(II)I"⟩
abbrev cX10_exchange : ByteArray := prog_1_method_31_code
def yX10_exchange : MethodName := ⟨RX10, "exchange", "(I)I"⟩
abbrev cX10_agree : ByteArray := prog_1_method_32_code
def yX10_agree : MethodName := ⟨RX10, "agree", "(I)I"⟩
abbrev cX10_vote : ByteArray := prog_1_method_33_code
def yX10_vote : MethodName := ⟨RX10, "vote", "(II)I"⟩
abbrev cX10_image : ByteArray := prog_1_method_34_code
def yX10_image : MethodName := ⟨RX10, "image", "()I"⟩
abbrev cX10_back : ByteArray := prog_1_method_35_code
def yX10_back : MethodName := ⟨RX10, "back", "()I"⟩
abbrev cX10_told : ByteArray := prog_1_method_36_code
def yX10_told : MethodName := ⟨RX10, "told", "(I)I"⟩
abbrev cX10_lawOf : ByteArray := prog_1_method_40_code
def yX10_lawOf : MethodName := ⟨RX10, "lawOf", "(I)LDeskMoves$Law;"⟩
abbrev cX10_isSearched : ByteArray := prog_1_method_41_code
def yX10_isSearched : MethodName := ⟨RX10, "isSearched", "()Z"⟩
def RX11 : String := "DeskMovesModel"
def TX11 : u_T := fun k => match k with
  | 0 => ("DeskMovesModel", "thrown", "I", false)
  | 1 => ("DeskMovesModel", "tape", "[I", true)
  | 2 => ("DeskMovesModel", "size", "I", false)
  | 3 => ("DeskMovesModel", "at", "I", false)
  | 4 => ("DeskMovesModel", "wrong", "I", false)
  | 5 => ("DeskMovesModel", "deep", "I", false)
  | 6 => ("DeskMovesModel", "code", "[I", true)
  | 7 => ("DeskMovesModel", "value", "[I", true)
  | 8 => ("DeskMovesModel", "codes", "[I", true)
  | 9 => ("DeskMovesModel", "clauses", "[I", true)
  | 10 => ("DeskMovesModel", "testFrom", "[I", true)
  | 11 => ("DeskMovesModel", "sumFrom", "[I", true)
  | 12 => ("DeskMovesModel", "sumTo", "[I", true)
  | 13 => ("DeskMovesModel", "laws", "I", false)
  | 14 => ("DeskMovesModel", "text", "I", false)
  | 15 => ("DeskMovesModel", "letters", "[I", true)
  | 16 => ("DeskMovesModel", "stack", "[I", true)
  | 17 => ("DeskMovesModel", "readSeat", "[I", true)
  | 18 => ("DeskMovesModel", "readDoor", "[I", true)
  | 19 => ("DeskMovesModel", "readQuarrel", "[I", true)
  | 20 => ("DeskMovesModel", "readDesks", "I", false)
  | 21 => ("DeskMovesModel", "readClerks", "I", false)
  | 22 => ("DeskMovesModel", "seat", "[I", true)
  | 23 => ("DeskMovesModel", "doors", "[I", true)
  | 24 => ("DeskMovesModel", "quarrels", "[I", true)
  | 25 => ("DeskMovesModel", "desks", "I", false)
  | 26 => ("DeskMovesModel", "clerks", "I", false)
  | 27 => ("DeskMovesModel", "readMove", "[I", true)
  | 28 => ("DeskMovesModel", "readMoves", "I", false)
  | 29 => ("DeskMovesModel", "plan", "[I", true)
  | 30 => ("DeskMovesModel", "planMoves", "I", false)
  | 31 => ("DeskMovesModel", "ranks", "[I", true)
  | 32 => ("DeskMovesModel", "papers", "[I", true)
  | 33 => ("DeskMovesModel", "holding", "I", false)
  | 34 => ("DeskMovesModel", "diaryMove", "[I", true)
  | 35 => ("DeskMovesModel", "diaryWas", "[I", true)
  | 36 => ("DeskMovesModel", "diaryFrom", "I", false)
  | 37 => ("DeskMovesModel", "diaryMany", "I", false)
  | 38 => ("DeskMovesModel", "row", "[I", true)
  | 39 => ("DeskMovesModel", "wished", "[I", true)
  | 40 => ("DeskMovesModel", "keys", "[I", true)
  | 41 => ("DeskMovesModel", "marks", "[I", true)
  | 42 => ("DeskMovesModel", "list", "[I", true)
  | 43 => ("DeskMovesModel", "far", "[I", true)
  | 44 => ("DeskMovesModel", "left", "[I", true)
  | 45 => ("DeskMovesModel", "firstEdge", "[I", true)
  | 46 => ("DeskMovesModel", "edgeTo", "[I", true)
  | 47 => ("DeskMovesModel", "edgeMove", "[I", true)
  | 48 => ("DeskMovesModel", "listMany", "I", false)
  | 49 => ("DeskMovesModel", "edges", "I", false)
  | 50 => ("DeskMovesModel", "now", "[I", true)
  | 51 => ("DeskMovesModel", "colour", "[I", true)
  | 52 => ("DeskMovesModel", "ring", "[I", true)
  | 53 => ("DeskMovesModel", "worths", "[I", true)
  | 54 => ("DeskMovesModel", "onward", "[I", true)
  | 55 => ("DeskMovesModel", "liar", "I", false)
  | 56 => ("DeskMovesModel", "lie", "I", false)
  | 57 => ("DeskMovesModel", "bestDesk", "[I", true)
  | 58 => ("DeskMovesModel", "gets", "[I", true)
  | 59 => ("DeskMovesModel", "points", "[I", true)
  | 60 => ("DeskMovesModel", "image", "[I", true)
  | 61 => ("DeskMovesModel", "imageMove", "[I", true)
  | 62 => ("DeskMovesModel", "imageWas", "[I", true)
  | 63 => ("DeskMovesModel", "imageFrom", "I", false)
  | 64 => ("DeskMovesModel", "imageMany", "I", false)
  | _ => ("DeskMovesModel", "hasImage", "Z", false)
def tyX11 : Nat → FieldType := fun k => match k with
  | 0 => .int
  | 1 => .array .int
  | 2 => .int
  | 3 => .int
  | 4 => .int
  | 5 => .int
  | 6 => .array .int
  | 7 => .array .int
  | 8 => .array .int
  | 9 => .array .int
  | 10 => .array .int
  | 11 => .array .int
  | 12 => .array .int
  | 13 => .int
  | 14 => .int
  | 15 => .array .int
  | 16 => .array .int
  | 17 => .array .int
  | 18 => .array .int
  | 19 => .array .int
  | 20 => .int
  | 21 => .int
  | 22 => .array .int
  | 23 => .array .int
  | 24 => .array .int
  | 25 => .int
  | 26 => .int
  | 27 => .array .int
  | 28 => .int
  | 29 => .array .int
  | 30 => .int
  | 31 => .array .int
  | 32 => .array .int
  | 33 => .int
  | 34 => .array .int
  | 35 => .array .int
  | 36 => .int
  | 37 => .int
  | 38 => .array .int
  | 39 => .array .int
  | 40 => .array .int
  | 41 => .array .int
  | 42 => .array .int
  | 43 => .array .int
  | 44 => .array .int
  | 45 => .array .int
  | 46 => .array .int
  | 47 => .array .int
  | 48 => .int
  | 49 => .int
  | 50 => .array .int
  | 51 => .array .int
  | 52 => .array .int
  | 53 => .array .int
  | 54 => .array .int
  | 55 => .int
  | 56 => .int
  | 57 => .array .int
  | 58 => .array .int
  | 59 => .array .int
  | 60 => .array .int
  | 61 => .array .int
  | 62 => .array .int
  | 63 => .int
  | 64 => .int
  | _ => .boolean
abbrev wsX110 : List Cond := u_ws RX11 TX11 66
theorem nmX11 : ∀ a, a < 66 → ∀ b, b < 66 → a ≠ b → (TX11 a).2.1 ≠ (TX11 b).2.1 := by decide +kernel
theorem tyX11_ok : ∀ k, k < 66 → parseFieldDescriptor (TX11 k).2.2.1 = some (tyX11 k) := by decide +kernel
abbrev cX11_in : ByteArray := prog_13_method_1_code
def yX11_in : MethodName := ⟨RX11, "in", "(III)Z"⟩
abbrev cX11_thrown : ByteArray := prog_13_method_4_code
def yX11_thrown : MethodName := ⟨RX11, "thrown", "()I"⟩
abbrev cX11_isDesk : ByteArray := prog_13_method_42_code
def yX11_isDesk : MethodName := ⟨RX11, "isDesk", "(I)Z"⟩
abbrev cX11_isClerk : ByteArray := prog_13_method_43_code
def yX11_isClerk : MethodName := ⟨RX11, "isClerk", "(I)Z"⟩
abbrev cX11_door : ByteArray := prog_13_method_45_code
def yX11_door : MethodName := ⟨RX11, "door", "(II)I"⟩
abbrev cX11_quarrel : ByteArray := prog_13_method_46_code
def yX11_quarrel : MethodName := ⟨RX11, "quarrel", "(II)I"⟩
abbrev cX11_set : ByteArray := prog_13_method_47_code
def yX11_set : MethodName := ⟨RX11, "set", "(III)Z"⟩
abbrev cX11_clerk : ByteArray := prog_13_method_50_code
def yX11_clerk : MethodName := ⟨RX11, "clerk", "(II)I"⟩
abbrev cX11_law : ByteArray := prog_13_method_51_code
def yX11_law : MethodName := ⟨RX11, "law", "(I)Z"⟩
abbrev cX11_bars : ByteArray := prog_13_method_52_code
def yX11_bars : MethodName := ⟨RX11, "bars", "([III)I"⟩
abbrev cX11_let : ByteArray := prog_13_method_54_code
def yX11_let : MethodName := ⟨RX11, "let", "(II)I"⟩
abbrev cX11_move : ByteArray := prog_13_method_56_code
def yX11_move : MethodName := ⟨RX11, "move", "(II)I"⟩
abbrev cX11_undo : ByteArray := prog_13_method_57_code
def yX11_undo : MethodName := ⟨RX11, "undo", "()I"⟩
abbrev cX11_diary : ByteArray := prog_13_method_58_code
def yX11_diary : MethodName := ⟨RX11, "diary", "(I)I"⟩
abbrev cX11_judge : ByteArray := prog_13_method_61_code
def yX11_judge : MethodName := ⟨RX11, "judge", "(II)I"⟩
abbrev cX11_wish : ByteArray := prog_13_method_62_code
def yX11_wish : MethodName := ⟨RX11, "wish", "(II)Z"⟩
abbrev cX11_done : ByteArray := prog_13_method_64_code
def yX11_done : MethodName := ⟨RX11, "done", "()I"⟩
abbrev cX11_isSmall : ByteArray := prog_13_method_70_code
def yX11_isSmall : MethodName := ⟨RX11, "isSmall", "()Z"⟩
abbrev cX11_fewest : ByteArray := prog_13_method_75_code
def yX11_fewest : MethodName := ⟨RX11, "fewest", "(I)I"⟩
abbrev cX11_cheapest : ByteArray := prog_13_method_78_code
def yX11_cheapest : MethodName := ⟨RX11, "cheapest", "()I"⟩
abbrev cX11_all : ByteArray := prog_13_method_79_code
def yX11_all : MethodName := ⟨RX11, "all", "(I)I"⟩
abbrev cX11_count : ByteArray := prog_13_method_80_code
def yX11_count : MethodName := ⟨RX11, "count", "(I)I"⟩
abbrev cX11_ill : ByteArray := prog_13_method_81_code
def yX11_ill : MethodName := ⟨RX11, "ill", "(I)I"⟩
abbrev cX11_holds : ByteArray := prog_13_method_82_code
def yX11_holds : MethodName := ⟨RX11, "holds", "()I"⟩
abbrev cX11_sort : ByteArray := prog_13_method_89_code
def yX11_sort : MethodName := ⟨RX11, "sort", "()I"⟩
abbrev cX11_can : ByteArray := prog_13_method_95_code
def yX11_can : MethodName := ⟨RX11, "can", "()I"⟩
abbrev cX11_worth : ByteArray := prog_13_method_96_code
def yX11_worth : MethodName := ⟨RX11, "worth", "(III)Z"⟩
abbrev cX11_seated : ByteArray := prog_13_method_97_code
def yX11_seated : MethodName := ⟨RX11, "seated", "(I)I"⟩
abbrev cX11_best : ByteArray := prog_13_method_104_code
def yX11_best : MethodName := ⟨RX11, "best", "(I)I"⟩
abbrev cX11_gains : ByteArray := prog_13_method_105_code
def yX11_gains : MethodName := ⟨RX11, "gains", "(II)I"⟩
abbrev cX11_exchange : ByteArray := prog_13_method_109_code
def yX11_exchange : MethodName := ⟨RX11, "exchange", "(I)I"⟩
abbrev cX11_agree : ByteArray := prog_13_method_111_code
def yX11_agree : MethodName := ⟨RX11, "agree", "(I)I"⟩
abbrev cX11_vote : ByteArray := prog_13_method_112_code
def yX11_vote : MethodName := ⟨RX11, "vote", "(II)I"⟩
abbrev cX11_image : ByteArray := prog_13_method_113_code
def yX11_image : MethodName := ⟨RX11, "image", "()I"⟩
abbrev cX11_back : ByteArray := prog_13_method_114_code
def yX11_back : MethodName := ⟨RX11, "back", "()I"⟩
abbrev cX11_told : ByteArray := prog_13_method_115_code
def yX11_told : MethodName := ⟨RX11, "told", "(I)I"⟩
def RJ6 : String := "java/lang/Integer"
def RJ9 : String := "java/lang/Math"
def RJ0 : String := "java/lang/String"
def RJ1 : String := "java/lang/StringLatin1"
def RJ2 : String := "java/lang/StringUTF16"
def RJ10 : String := "java/lang/System"
def RJ7 : String := "java/util/Arrays"
abbrev cJ7_fill_53178 : ByteArray := prog_29_method_103_code
def yJ7_fill_53178 : MethodName := ⟨RJ7, "fill", "([II)V"⟩
def RJ3 : String := "jdk/internal/util/Preconditions"
def RL : String := "DeskMovesLaw"
theorem dX1_moveAt_0 : decode cX1_moveAt 0 = .ok (.iload_n 1, 1) := by decide +kernel
theorem dX1_moveAt_1 : decode cX1_moveAt 1 = .ok (.ifCond .lt 24, 3) := by decide +kernel
theorem dX1_moveAt_4 : decode cX1_moveAt 4 = .ok (.iload_n 1, 1) := by decide +kernel
theorem dX1_moveAt_5 : decode cX1_moveAt 5 = .ok (.aload_n 0, 1) := by decide +kernel
theorem dX1_moveAt_6 : decode cX1_moveAt 6 = .ok (.getfield 21, 3) := by decide +kernel
theorem dX1_moveAt_9 : decode cX1_moveAt 9 = .ok (.if_icmp .ge 16, 3) := by decide +kernel
theorem dX1_moveAt_25 : decode cX1_moveAt 25 = .ok (.iconst (-1), 1) := by decide +kernel
theorem dX1_moveAt_26 : decode cX1_moveAt 26 = .ok (.ireturn, 1) := by decide +kernel
theorem dX3_isRead_0 : decode cX3_isRead 0 = .ok (.aload_n 0, 1) := by decide +kernel
theorem dX3_isRead_1 : decode cX3_isRead 1 = .ok (.getfield 15, 3) := by decide +kernel
theorem dX3_isRead_4 : decode cX3_isRead 4 = .ok (.iconst 0, 1) := by decide +kernel
theorem dX3_isRead_5 : decode cX3_isRead 5 = .ok (.putfield 19, 3) := by decide +kernel
theorem dX3_isRead_8 : decode cX3_isRead 8 = .ok (.aload_n 0, 1) := by decide +kernel
theorem dX3_isRead_9 : decode cX3_isRead 9 = .ok (.iconst 0, 1) := by decide +kernel
theorem dX3_isRead_10 : decode cX3_isRead 10 = .ok (.putfield 23, 3) := by decide +kernel
theorem dX3_isRead_13 : decode cX3_isRead 13 = .ok (.aload_n 0, 1) := by decide +kernel
theorem dX3_isRead_14 : decode cX3_isRead 14 = .ok (.iconst 0, 1) := by decide +kernel
theorem dX3_isRead_15 : decode cX3_isRead 15 = .ok (.putfield 26, 3) := by decide +kernel
theorem dX3_isRead_18 : decode cX3_isRead 18 = .ok (.iconst 0, 1) := by decide +kernel
theorem dX3_isRead_19 : decode cX3_isRead 19 = .ok (.istore_n 1, 1) := by decide +kernel
theorem dX3_isRead_20 : decode cX3_isRead 20 = .ok (.iload_n 1, 1) := by decide +kernel
theorem dX3_isRead_21 : decode cX3_isRead 21 = .ok (.sipush 160, 3) := by decide +kernel
theorem dX3_isRead_24 : decode cX3_isRead 24 = .ok (.if_icmp .gt 45, 3) := by decide +kernel
theorem dX3_isRead_27 : decode cX3_isRead 27 = .ok (.aload_n 0, 1) := by decide +kernel
theorem dX3_isRead_28 : decode cX3_isRead 28 = .ok (.invokevirtual 30, 3) := by decide +kernel
theorem dX3_isRead_31 : decode cX3_isRead 31 = .ok (.ifCond .ne 5, 3) := by decide +kernel
theorem dX3_isRead_34 : decode cX3_isRead 34 = .ok (.iconst 0, 1) := by decide +kernel
theorem dX3_isRead_35 : decode cX3_isRead 35 = .ok (.ireturn, 1) := by decide +kernel
theorem dX3_readClause_0 : decode cX3_readClause 0 = .ok (.aload_n 0, 1) := by decide +kernel
theorem dX3_readClause_1 : decode cX3_readClause 1 = .ok (.getfield 15, 3) := by decide +kernel
theorem dX3_readClause_4 : decode cX3_readClause 4 = .ok (.bipush 121, 2) := by decide +kernel
theorem dX3_readClause_6 : decode cX3_readClause 6 = .ok (.invokevirtual 38, 3) := by decide +kernel
theorem dX3_readClause_9 : decode cX3_readClause 9 = .ok (.ifCond .eq 15, 3) := by decide +kernel
theorem dX3_readClause_24 : decode cX3_readClause 24 = .ok (.iconst 0, 1) := by decide +kernel
theorem dX3_readClause_25 : decode cX3_readClause 25 = .ok (.ireturn, 1) := by decide +kernel
theorem dX4_clear_0 : decode cX4_clear 0 = .ok (.aload_n 0, 1) := by decide +kernel
theorem dX4_clear_1 : decode cX4_clear 1 = .ok (.iconst 0, 1) := by decide +kernel
theorem dX4_clear_2 : decode cX4_clear 2 = .ok (.putfield 39, 3) := by decide +kernel
theorem dX4_clear_5 : decode cX4_clear 5 = .ok (.aload_n 0, 1) := by decide +kernel
theorem dX4_clear_6 : decode cX4_clear 6 = .ok (.iconst 0, 1) := by decide +kernel
theorem dX4_clear_7 : decode cX4_clear 7 = .ok (.putfield 43, 3) := by decide +kernel
theorem dX4_clear_10 : decode cX4_clear 10 = .ok (.aload_n 0, 1) := by decide +kernel
theorem dX4_clear_11 : decode cX4_clear 11 = .ok (.getfield 9, 3) := by decide +kernel
theorem dX4_clear_14 : decode cX4_clear 14 = .ok (.iconst (-1), 1) := by decide +kernel
theorem dX4_clear_15 : decode cX4_clear 15 = .ok (.invokestatic 46, 3) := by decide +kernel
theorem dX4_clear_18 : decode cX4_clear 18 = .ok (.aload_n 0, 1) := by decide +kernel
theorem dX4_clear_19 : decode cX4_clear 19 = .ok (.getfield 15, 3) := by decide +kernel
theorem dX4_clear_22 : decode cX4_clear 22 = .ok (.iconst (-1), 1) := by decide +kernel
theorem dX4_clear_23 : decode cX4_clear 23 = .ok (.invokestatic 46, 3) := by decide +kernel
theorem dX4_clear_26 : decode cX4_clear 26 = .ok (.aload_n 0, 1) := by decide +kernel
theorem dX4_clear_27 : decode cX4_clear 27 = .ok (.getfield 18, 3) := by decide +kernel
theorem dX4_clear_30 : decode cX4_clear 30 = .ok (.iconst 0, 1) := by decide +kernel
theorem dX4_clear_31 : decode cX4_clear 31 = .ok (.invokestatic 46, 3) := by decide +kernel
theorem dX4_clear_34 : decode cX4_clear 34 = .ok (.aload_n 0, 1) := by decide +kernel
theorem dX4_clear_35 : decode cX4_clear 35 = .ok (.getfield 21, 3) := by decide +kernel
theorem dX4_clear_38 : decode cX4_clear 38 = .ok (.iconst 0, 1) := by decide +kernel
theorem dX4_clear_39 : decode cX4_clear 39 = .ok (.invokestatic 46, 3) := by decide +kernel
theorem dX4_clear_42 : decode cX4_clear 42 = .ok (.aload_n 0, 1) := by decide +kernel
theorem dX4_clear_43 : decode cX4_clear 43 = .ok (.getfield 24, 3) := by decide +kernel
theorem dX4_clear_46 : decode cX4_clear 46 = .ok (.iconst 0, 1) := by decide +kernel
theorem dX4_clear_47 : decode cX4_clear 47 = .ok (.invokestatic 46, 3) := by decide +kernel
theorem dX4_clear_50 : decode cX4_clear 50 = .ok (.aload_n 0, 1) := by decide +kernel
theorem dX4_clear_51 : decode cX4_clear 51 = .ok (.getfield 27, 3) := by decide +kernel
theorem dX4_clear_54 : decode cX4_clear 54 = .ok (.iconst 0, 1) := by decide +kernel
theorem dX4_clear_55 : decode cX4_clear 55 = .ok (.invokestatic 46, 3) := by decide +kernel
theorem dX4_clear_58 : decode cX4_clear 58 = .ok (.aload_n 0, 1) := by decide +kernel
theorem dX4_clear_59 : decode cX4_clear 59 = .ok (.getfield 30, 3) := by decide +kernel
theorem dX4_clear_62 : decode cX4_clear 62 = .ok (.iconst 1, 1) := by decide +kernel
theorem dX4_clear_63 : decode cX4_clear 63 = .ok (.invokestatic 46, 3) := by decide +kernel
theorem dX4_clear_66 : decode cX4_clear 66 = .ok (.aload_n 0, 1) := by decide +kernel
theorem dX4_clear_67 : decode cX4_clear 67 = .ok (.getfield 33, 3) := by decide +kernel
theorem dX4_clear_70 : decode cX4_clear 70 = .ok (.iconst (-1), 1) := by decide +kernel
theorem dX4_clear_71 : decode cX4_clear 71 = .ok (.invokestatic 46, 3) := by decide +kernel
theorem dX4_clear_74 : decode cX4_clear 74 = .ok (.aload_n 0, 1) := by decide +kernel
theorem dX4_clear_75 : decode cX4_clear 75 = .ok (.getfield 36, 3) := by decide +kernel
theorem dX4_clear_78 : decode cX4_clear 78 = .ok (.iconst 0, 1) := by decide +kernel
theorem dX4_clear_79 : decode cX4_clear 79 = .ok (.invokestatic 46, 3) := by decide +kernel
theorem dX4_clear_82 : decode cX4_clear 82 = .ok (.return_, 1) := by decide +kernel
theorem dX4_isReadFrom_0 : decode cX4_isReadFrom 0 = .ok (.aload_n 0, 1) := by decide +kernel
theorem dX4_isReadFrom_1 : decode cX4_isReadFrom 1 = .ok (.invokevirtual 52, 3) := by decide +kernel
theorem dX4_isReadFrom_4 : decode cX4_isReadFrom 4 = .ok (.aload_n 1, 1) := by decide +kernel
theorem dX4_isReadFrom_5 : decode cX4_isReadFrom 5 = .ok (.iconst 0, 1) := by decide +kernel
theorem dX4_isReadFrom_6 : decode cX4_isReadFrom 6 = .ok (.putfield 55, 3) := by decide +kernel
theorem dX4_isReadFrom_9 : decode cX4_isReadFrom 9 = .ok (.aload_n 0, 1) := by decide +kernel
theorem dX4_isReadFrom_10 : decode cX4_isReadFrom 10 = .ok (.aload_n 1, 1) := by decide +kernel
theorem dX4_isReadFrom_11 : decode cX4_isReadFrom 11 = .ok (.invokevirtual 60, 3) := by decide +kernel
theorem dX4_isReadFrom_14 : decode cX4_isReadFrom 14 = .ok (.ifCond .eq 15, 3) := by decide +kernel
theorem dX4_isReadFrom_29 : decode cX4_isReadFrom 29 = .ok (.iconst 0, 1) := by decide +kernel
theorem dX4_isReadFrom_30 : decode cX4_isReadFrom 30 = .ok (.ireturn, 1) := by decide +kernel
theorem dX4_readSeats_0 : decode cX4_readSeats 0 = .ok (.iconst 0, 1) := by decide +kernel
theorem dX4_readSeats_1 : decode cX4_readSeats 1 = .ok (.istore_n 2, 1) := by decide +kernel
theorem dX4_readSeats_2 : decode cX4_readSeats 2 = .ok (.iload_n 2, 1) := by decide +kernel
theorem dX4_readSeats_3 : decode cX4_readSeats 3 = .ok (.bipush 12, 2) := by decide +kernel
theorem dX4_readSeats_5 : decode cX4_readSeats 5 = .ok (.if_icmp .gt 58, 3) := by decide +kernel
theorem dX4_readSeats_8 : decode cX4_readSeats 8 = .ok (.aload_n 1, 1) := by decide +kernel
theorem dX4_readSeats_9 : decode cX4_readSeats 9 = .ok (.invokevirtual 67, 3) := by decide +kernel
theorem dX4_readSeats_12 : decode cX4_readSeats 12 = .ok (.istore_n 3, 1) := by decide +kernel
theorem dX4_readSeats_13 : decode cX4_readSeats 13 = .ok (.iload_n 3, 1) := by decide +kernel
theorem dX4_readSeats_14 : decode cX4_readSeats 14 = .ok (.bipush 59, 2) := by decide +kernel
theorem dX4_readSeats_16 : decode cX4_readSeats 16 = .ok (.if_icmp .ne 25, 3) := by decide +kernel
theorem dX4_readSeats_41 : decode cX4_readSeats 41 = .ok (.aload_n 0, 1) := by decide +kernel
theorem dX4_readSeats_42 : decode cX4_readSeats 42 = .ok (.iload_n 3, 1) := by decide +kernel
theorem dX4_readSeats_43 : decode cX4_readSeats 43 = .ok (.invokevirtual 79, 3) := by decide +kernel
theorem dX4_readSeats_46 : decode cX4_readSeats 46 = .ok (.ifCond .ne 5, 3) := by decide +kernel
theorem dX4_readSeats_49 : decode cX4_readSeats 49 = .ok (.iconst 0, 1) := by decide +kernel
theorem dX4_readSeats_50 : decode cX4_readSeats 50 = .ok (.ireturn, 1) := by decide +kernel
theorem dX4_addDesk_0 : decode cX4_addDesk 0 = .ok (.iload_n 1, 1) := by decide +kernel
theorem dX4_addDesk_1 : decode cX4_addDesk 1 = .ok (.bipush 65, 2) := by decide +kernel
theorem dX4_addDesk_3 : decode cX4_addDesk 3 = .ok (.isub, 1) := by decide +kernel
theorem dX4_addDesk_4 : decode cX4_addDesk 4 = .ok (.istore_n 2, 1) := by decide +kernel
theorem dX4_addDesk_5 : decode cX4_addDesk 5 = .ok (.iload_n 1, 1) := by decide +kernel
theorem dX4_addDesk_6 : decode cX4_addDesk 6 = .ok (.bipush 46, 2) := by decide +kernel
theorem dX4_addDesk_8 : decode cX4_addDesk 8 = .ok (.if_icmp .ne 7, 3) := by decide +kernel
theorem dX4_addDesk_15 : decode cX4_addDesk 15 = .ok (.iconst 0, 1) := by decide +kernel
theorem dX4_addDesk_16 : decode cX4_addDesk 16 = .ok (.istore_n 3, 1) := by decide +kernel
theorem dX4_addDesk_17 : decode cX4_addDesk 17 = .ok (.aload_n 0, 1) := by decide +kernel
theorem dX4_addDesk_18 : decode cX4_addDesk 18 = .ok (.getfield 39, 3) := by decide +kernel
theorem dX4_addDesk_21 : decode cX4_addDesk 21 = .ok (.bipush 12, 2) := by decide +kernel
theorem dX4_addDesk_23 : decode cX4_addDesk 23 = .ok (.if_icmp .ge 25, 3) := by decide +kernel
theorem dX4_addDesk_26 : decode cX4_addDesk 26 = .ok (.iload_n 3, 1) := by decide +kernel
theorem dX4_addDesk_27 : decode cX4_addDesk 27 = .ok (.ifCond .ne 23, 3) := by decide +kernel
theorem dX4_addDesk_30 : decode cX4_addDesk 30 = .ok (.iload_n 2, 1) := by decide +kernel
theorem dX4_addDesk_31 : decode cX4_addDesk 31 = .ok (.ifCond .lt 17, 3) := by decide +kernel
theorem dX4_addDesk_48 : decode cX4_addDesk 48 = .ok (.iconst 0, 1) := by decide +kernel
theorem dX4_addDesk_49 : decode cX4_addDesk 49 = .ok (.ireturn, 1) := by decide +kernel
theorem dX4_hasDesk_0 : decode cX4_hasDesk 0 = .ok (.iload_n 1, 1) := by decide +kernel
theorem dX4_hasDesk_1 : decode cX4_hasDesk 1 = .ok (.ifCond .lt 21, 3) := by decide +kernel
theorem dX4_hasDesk_4 : decode cX4_hasDesk 4 = .ok (.iload_n 1, 1) := by decide +kernel
theorem dX4_hasDesk_5 : decode cX4_hasDesk 5 = .ok (.aload_n 0, 1) := by decide +kernel
theorem dX4_hasDesk_6 : decode cX4_hasDesk 6 = .ok (.getfield 39, 3) := by decide +kernel
theorem dX4_hasDesk_9 : decode cX4_hasDesk 9 = .ok (.if_icmp .ge 13, 3) := by decide +kernel
theorem dX4_hasDesk_22 : decode cX4_hasDesk 22 = .ok (.iconst 0, 1) := by decide +kernel
theorem dX4_hasDesk_23 : decode cX4_hasDesk 23 = .ok (.ireturn, 1) := by decide +kernel
theorem dX4_hasClerk_0 : decode cX4_hasClerk 0 = .ok (.iload_n 1, 1) := by decide +kernel
theorem dX4_hasClerk_1 : decode cX4_hasClerk 1 = .ok (.ifCond .lt 24, 3) := by decide +kernel
theorem dX4_hasClerk_4 : decode cX4_hasClerk 4 = .ok (.iload_n 1, 1) := by decide +kernel
theorem dX4_hasClerk_5 : decode cX4_hasClerk 5 = .ok (.bipush 12, 2) := by decide +kernel
theorem dX4_hasClerk_7 : decode cX4_hasClerk 7 = .ok (.if_icmp .ge 18, 3) := by decide +kernel
theorem dX4_hasClerk_10 : decode cX4_hasClerk 10 = .ok (.aload_n 0, 1) := by decide +kernel
theorem dX4_hasClerk_11 : decode cX4_hasClerk 11 = .ok (.getfield 43, 3) := by decide +kernel
theorem dX4_hasClerk_14 : decode cX4_hasClerk 14 = .ok (.iload_n 1, 1) := by decide +kernel
theorem dX4_hasClerk_15 : decode cX4_hasClerk 15 = .ok (.ishr, 1) := by decide +kernel
theorem dX4_hasClerk_16 : decode cX4_hasClerk 16 = .ok (.iconst 1, 1) := by decide +kernel
theorem dX4_hasClerk_17 : decode cX4_hasClerk 17 = .ok (.iand, 1) := by decide +kernel
theorem dX4_hasClerk_18 : decode cX4_hasClerk 18 = .ok (.ifCond .eq 7, 3) := by decide +kernel
theorem dX4_hasClerk_25 : decode cX4_hasClerk 25 = .ok (.iconst 0, 1) := by decide +kernel
theorem dX4_hasClerk_26 : decode cX4_hasClerk 26 = .ok (.ireturn, 1) := by decide +kernel
theorem dX4_lengthBetween_0 : decode cX4_lengthBetween 0 = .ok (.aload_n 0, 1) := by decide +kernel
theorem dX4_lengthBetween_1 : decode cX4_lengthBetween 1 = .ok (.iload_n 1, 1) := by decide +kernel
theorem dX4_lengthBetween_2 : decode cX4_lengthBetween 2 = .ok (.invokevirtual 97, 3) := by decide +kernel
theorem dX4_lengthBetween_5 : decode cX4_lengthBetween 5 = .ok (.ifCond .eq 25, 3) := by decide +kernel
theorem dX4_lengthBetween_30 : decode cX4_lengthBetween 30 = .ok (.iconst 0, 1) := by decide +kernel
theorem dX4_lengthBetween_31 : decode cX4_lengthBetween 31 = .ok (.ireturn, 1) := by decide +kernel
theorem dX4_hindrance_0 : decode cX4_hindrance 0 = .ok (.aload_n 0, 1) := by decide +kernel
theorem dX4_hindrance_1 : decode cX4_hindrance 1 = .ok (.iload_n 2, 1) := by decide +kernel
theorem dX4_hindrance_2 : decode cX4_hindrance 2 = .ok (.invokevirtual 88, 3) := by decide +kernel
theorem dX4_hindrance_5 : decode cX4_hindrance 5 = .ok (.ifCond .eq 11, 3) := by decide +kernel
theorem dX4_hindrance_16 : decode cX4_hindrance 16 = .ok (.iconst 1, 1) := by decide +kernel
theorem dX4_hindrance_17 : decode cX4_hindrance 17 = .ok (.ireturn, 1) := by decide +kernel
theorem dX5_isReadFrom_0 : decode cX5_isReadFrom 0 = .ok (.aload_n 0, 1) := by decide +kernel
theorem dX5_isReadFrom_1 : decode cX5_isReadFrom 1 = .ok (.iconst 0, 1) := by decide +kernel
theorem dX5_isReadFrom_2 : decode cX5_isReadFrom 2 = .ok (.putfield 18, 3) := by decide +kernel
theorem dX5_isReadFrom_5 : decode cX5_isReadFrom 5 = .ok (.aload_n 1, 1) := by decide +kernel
theorem dX5_isReadFrom_6 : decode cX5_isReadFrom 6 = .ok (.iconst 0, 1) := by decide +kernel
theorem dX5_isReadFrom_7 : decode cX5_isReadFrom 7 = .ok (.putfield 22, 3) := by decide +kernel
theorem dX5_isReadFrom_10 : decode cX5_isReadFrom 10 = .ok (.iconst 0, 1) := by decide +kernel
theorem dX5_isReadFrom_11 : decode cX5_isReadFrom 11 = .ok (.istore_n 2, 1) := by decide +kernel
theorem dX5_isReadFrom_12 : decode cX5_isReadFrom 12 = .ok (.iload_n 2, 1) := by decide +kernel
theorem dX5_isReadFrom_13 : decode cX5_isReadFrom 13 = .ok (.bipush 40, 2) := by decide +kernel
theorem dX5_isReadFrom_15 : decode cX5_isReadFrom 15 = .ok (.if_icmp .ge 122, 3) := by decide +kernel
theorem dX5_isReadFrom_18 : decode cX5_isReadFrom 18 = .ok (.aload_n 1, 1) := by decide +kernel
theorem dX5_isReadFrom_19 : decode cX5_isReadFrom 19 = .ok (.invokevirtual 27, 3) := by decide +kernel
theorem dX5_isReadFrom_22 : decode cX5_isReadFrom 22 = .ok (.bipush 65, 2) := by decide +kernel
theorem dX5_isReadFrom_24 : decode cX5_isReadFrom 24 = .ok (.isub, 1) := by decide +kernel
theorem dX5_isReadFrom_25 : decode cX5_isReadFrom 25 = .ok (.istore_n 3, 1) := by decide +kernel
theorem dX5_isReadFrom_26 : decode cX5_isReadFrom 26 = .ok (.iload_n 3, 1) := by decide +kernel
theorem dX5_isReadFrom_27 : decode cX5_isReadFrom 27 = .ok (.ifCond .lt 9, 3) := by decide +kernel
theorem dX5_isReadFrom_36 : decode cX5_isReadFrom 36 = .ok (.iconst 0, 1) := by decide +kernel
theorem dX5_isReadFrom_37 : decode cX5_isReadFrom 37 = .ok (.ireturn, 1) := by decide +kernel
theorem dX6_look_0 : decode cX6_look 0 = .ok (.aload_n 0, 1) := by decide +kernel
theorem dX6_look_1 : decode cX6_look 1 = .ok (.getfield 17, 3) := by decide +kernel
theorem dX6_look_4 : decode cX6_look 4 = .ok (.aload_n 0, 1) := by decide +kernel
theorem dX6_look_5 : decode cX6_look 5 = .ok (.getfield 13, 3) := by decide +kernel
theorem dX6_look_8 : decode cX6_look 8 = .ok (.if_icmp .ge 40, 3) := by decide +kernel
theorem dX6_look_48 : decode cX6_look 48 = .ok (.aload_n 0, 1) := by decide +kernel
theorem dX6_look_49 : decode cX6_look 49 = .ok (.getfield 17, 3) := by decide +kernel
theorem dX6_look_52 : decode cX6_look 52 = .ok (.aload_n 0, 1) := by decide +kernel
theorem dX6_look_53 : decode cX6_look 53 = .ok (.getfield 13, 3) := by decide +kernel
theorem dX6_look_56 : decode cX6_look 56 = .ok (.if_icmp .ge 25, 3) := by decide +kernel
theorem dX6_look_81 : decode cX6_look 81 = .ok (.iconst (-1), 1) := by decide +kernel
theorem dX6_look_82 : decode cX6_look 82 = .ok (.ireturn, 1) := by decide +kernel
theorem dX6_takes_0 : decode cX6_takes 0 = .ok (.aload_n 0, 1) := by decide +kernel
theorem dX6_takes_1 : decode cX6_takes 1 = .ok (.invokevirtual 20, 3) := by decide +kernel
theorem dX6_takes_4 : decode cX6_takes 4 = .ok (.iload_n 1, 1) := by decide +kernel
theorem dX6_takes_5 : decode cX6_takes 5 = .ok (.if_icmp .eq 5, 3) := by decide +kernel
theorem dX6_takes_8 : decode cX6_takes 8 = .ok (.iconst 0, 1) := by decide +kernel
theorem dX6_takes_9 : decode cX6_takes 9 = .ok (.ireturn, 1) := by decide +kernel
theorem dX7_kindOf_0 : decode cX7_kindOf 0 = .ok (.aload_n 1, 1) := by decide +kernel
theorem dX7_kindOf_1 : decode cX7_kindOf 1 = .ok (.getfield 21, 3) := by decide +kernel
theorem dX7_kindOf_4 : decode cX7_kindOf 4 = .ok (.ifCond .eq 19, 3) := by decide +kernel
theorem dX7_kindOf_23 : decode cX7_kindOf 23 = .ok (.iconst (-1), 1) := by decide +kernel
theorem dX7_kindOf_24 : decode cX7_kindOf 24 = .ok (.ireturn, 1) := by decide +kernel
theorem dX10_door_0 : decode cX10_door 0 = .ok (.aload_n 0, 1) := by decide +kernel
theorem dX10_door_1 : decode cX10_door 1 = .ok (.getfield 38, 3) := by decide +kernel
theorem dX10_door_4 : decode cX10_door 4 = .ok (.iload_n 1, 1) := by decide +kernel
theorem dX10_door_5 : decode cX10_door 5 = .ok (.iload_n 2, 1) := by decide +kernel
theorem dX10_door_6 : decode cX10_door 6 = .ok (.invokevirtual 132, 3) := by decide +kernel
theorem dX10_door_9 : decode cX10_door 9 = .ok (.istore_n 3, 1) := by decide +kernel
theorem dX10_door_10 : decode cX10_door 10 = .ok (.iload_n 3, 1) := by decide +kernel
theorem dX10_door_11 : decode cX10_door 11 = .ok (.ifCond .le 7, 3) := by decide +kernel
theorem dX10_door_18 : decode cX10_door 18 = .ok (.iconst (-1), 1) := by decide +kernel
theorem dX10_door_19 : decode cX10_door 19 = .ok (.ireturn, 1) := by decide +kernel
theorem dX10_quarrel_0 : decode cX10_quarrel 0 = .ok (.aload_n 0, 1) := by decide +kernel
theorem dX10_quarrel_1 : decode cX10_quarrel 1 = .ok (.getfield 38, 3) := by decide +kernel
theorem dX10_quarrel_4 : decode cX10_quarrel 4 = .ok (.iload_n 1, 1) := by decide +kernel
theorem dX10_quarrel_5 : decode cX10_quarrel 5 = .ok (.invokevirtual 136, 3) := by decide +kernel
theorem dX10_quarrel_8 : decode cX10_quarrel 8 = .ok (.ifCond .eq 19, 3) := by decide +kernel
theorem dX10_quarrel_27 : decode cX10_quarrel 27 = .ok (.iconst (-1), 1) := by decide +kernel
theorem dX10_quarrel_28 : decode cX10_quarrel 28 = .ok (.ireturn, 1) := by decide +kernel
theorem dX10_set_0 : decode cX10_set 0 = .ok (.aload_n 0, 1) := by decide +kernel
theorem dX10_set_1 : decode cX10_set 1 = .ok (.getfield 38, 3) := by decide +kernel
theorem dX10_set_4 : decode cX10_set 4 = .ok (.iload_n 1, 1) := by decide +kernel
theorem dX10_set_5 : decode cX10_set 5 = .ok (.invokevirtual 136, 3) := by decide +kernel
theorem dX10_set_8 : decode cX10_set 8 = .ok (.ifCond .eq 22, 3) := by decide +kernel
theorem dX10_set_30 : decode cX10_set 30 = .ok (.iconst 0, 1) := by decide +kernel
theorem dX10_set_31 : decode cX10_set 31 = .ok (.ireturn, 1) := by decide +kernel
theorem dX10_clerk_0 : decode cX10_clerk 0 = .ok (.aload_n 0, 1) := by decide +kernel
theorem dX10_clerk_1 : decode cX10_clerk 1 = .ok (.getfield 38, 3) := by decide +kernel
theorem dX10_clerk_4 : decode cX10_clerk 4 = .ok (.iload_n 1, 1) := by decide +kernel
theorem dX10_clerk_5 : decode cX10_clerk 5 = .ok (.invokevirtual 136, 3) := by decide +kernel
theorem dX10_clerk_8 : decode cX10_clerk 8 = .ok (.ifCond .ne 5, 3) := by decide +kernel
theorem dX10_clerk_11 : decode cX10_clerk 11 = .ok (.iconst (-1), 1) := by decide +kernel
theorem dX10_clerk_12 : decode cX10_clerk 12 = .ok (.ireturn, 1) := by decide +kernel
theorem dX10_law_0 : decode cX10_law 0 = .ok (.aload_n 0, 1) := by decide +kernel
theorem dX10_law_1 : decode cX10_law 1 = .ok (.getfield 38, 3) := by decide +kernel
theorem dX10_law_4 : decode cX10_law 4 = .ok (.getfield 160, 3) := by decide +kernel
theorem dX10_law_7 : decode cX10_law 7 = .ok (.ifCond .eq 16, 3) := by decide +kernel
theorem dX10_law_23 : decode cX10_law 23 = .ok (.iconst 0, 1) := by decide +kernel
theorem dX10_law_24 : decode cX10_law 24 = .ok (.ireturn, 1) := by decide +kernel
theorem dX10_let_0 : decode cX10_let 0 = .ok (.aload_n 0, 1) := by decide +kernel
theorem dX10_let_1 : decode cX10_let 1 = .ok (.getfield 38, 3) := by decide +kernel
theorem dX10_let_4 : decode cX10_let 4 = .ok (.aload_n 0, 1) := by decide +kernel
theorem dX10_let_5 : decode cX10_let 5 = .ok (.aload_n 0, 1) := by decide +kernel
theorem dX10_let_6 : decode cX10_let 6 = .ok (.getfield 31, 3) := by decide +kernel
theorem dX10_let_9 : decode cX10_let 9 = .ok (.invokevirtual 169, 3) := by decide +kernel
theorem dX10_let_12 : decode cX10_let 12 = .ok (.iload_n 1, 1) := by decide +kernel
theorem dX10_let_13 : decode cX10_let 13 = .ok (.iload_n 2, 1) := by decide +kernel
theorem dX10_let_14 : decode cX10_let 14 = .ok (.invokevirtual 173, 3) := by decide +kernel
theorem dX10_let_17 : decode cX10_let 17 = .ok (.istore_n 3, 1) := by decide +kernel
theorem dX10_let_18 : decode cX10_let 18 = .ok (.iload_n 3, 1) := by decide +kernel
theorem dX10_let_19 : decode cX10_let 19 = .ok (.iconst 4, 1) := by decide +kernel
theorem dX10_let_20 : decode cX10_let 20 = .ok (.if_icmp .ne 5, 3) := by decide +kernel
theorem dX10_let_25 : decode cX10_let 25 = .ok (.iload_n 3, 1) := by decide +kernel
theorem dX10_let_26 : decode cX10_let 26 = .ok (.ifCond .ne 7, 3) := by decide +kernel
theorem dX10_let_33 : decode cX10_let 33 = .ok (.iconst (-1), 1) := by decide +kernel
theorem dX10_let_34 : decode cX10_let 34 = .ok (.ireturn, 1) := by decide +kernel
theorem dX10_move_0 : decode cX10_move 0 = .ok (.aload_n 0, 1) := by decide +kernel
theorem dX10_move_1 : decode cX10_move 1 = .ok (.getfield 38, 3) := by decide +kernel
theorem dX10_move_4 : decode cX10_move 4 = .ok (.aload_n 0, 1) := by decide +kernel
theorem dX10_move_5 : decode cX10_move 5 = .ok (.aload_n 0, 1) := by decide +kernel
theorem dX10_move_6 : decode cX10_move 6 = .ok (.getfield 31, 3) := by decide +kernel
theorem dX10_move_9 : decode cX10_move 9 = .ok (.invokevirtual 169, 3) := by decide +kernel
theorem dX10_move_12 : decode cX10_move 12 = .ok (.iload_n 1, 1) := by decide +kernel
theorem dX10_move_13 : decode cX10_move 13 = .ok (.iload_n 2, 1) := by decide +kernel
theorem dX10_move_14 : decode cX10_move 14 = .ok (.invokevirtual 173, 3) := by decide +kernel
theorem dX10_move_17 : decode cX10_move 17 = .ok (.ifCond .eq 5, 3) := by decide +kernel
theorem dX10_move_20 : decode cX10_move 20 = .ok (.iconst (-1), 1) := by decide +kernel
theorem dX10_move_21 : decode cX10_move 21 = .ok (.ireturn, 1) := by decide +kernel
theorem dX10_undo_0 : decode cX10_undo 0 = .ok (.aload_n 0, 1) := by decide +kernel
theorem dX10_undo_1 : decode cX10_undo 1 = .ok (.getfield 58, 3) := by decide +kernel
theorem dX10_undo_4 : decode cX10_undo 4 = .ok (.getfield 188, 3) := by decide +kernel
theorem dX10_undo_7 : decode cX10_undo 7 = .ok (.ifCond .ne 5, 3) := by decide +kernel
theorem dX10_undo_10 : decode cX10_undo 10 = .ok (.iconst (-1), 1) := by decide +kernel
theorem dX10_undo_11 : decode cX10_undo 11 = .ok (.ireturn, 1) := by decide +kernel
theorem dX10_diary_0 : decode cX10_diary 0 = .ok (.aload_n 0, 1) := by decide +kernel
theorem dX10_diary_1 : decode cX10_diary 1 = .ok (.getfield 58, 3) := by decide +kernel
theorem dX10_diary_4 : decode cX10_diary 4 = .ok (.iload_n 1, 1) := by decide +kernel
theorem dX10_diary_5 : decode cX10_diary 5 = .ok (.invokevirtual 195, 3) := by decide +kernel
theorem dX10_diary_8 : decode cX10_diary 8 = .ok (.ireturn, 1) := by decide +kernel
theorem dX10_judge_0 : decode cX10_judge 0 = .ok (.aload_n 0, 1) := by decide +kernel
theorem dX10_judge_1 : decode cX10_judge 1 = .ok (.getfield 48, 3) := by decide +kernel
theorem dX10_judge_4 : decode cX10_judge 4 = .ok (.getfield 198, 3) := by decide +kernel
theorem dX10_judge_7 : decode cX10_judge 7 = .ok (.ifCond .eq 22, 3) := by decide +kernel
theorem dX10_judge_29 : decode cX10_judge 29 = .ok (.ldc 199, 2) := by decide +kernel
theorem dX10_judge_31 : decode cX10_judge 31 = .ok (.ireturn, 1) := by decide +kernel
theorem dX10_wish_0 : decode cX10_wish 0 = .ok (.aload_n 0, 1) := by decide +kernel
theorem dX10_wish_1 : decode cX10_wish 1 = .ok (.getfield 38, 3) := by decide +kernel
theorem dX10_wish_4 : decode cX10_wish 4 = .ok (.iload_n 1, 1) := by decide +kernel
theorem dX10_wish_5 : decode cX10_wish 5 = .ok (.invokevirtual 122, 3) := by decide +kernel
theorem dX10_wish_8 : decode cX10_wish 8 = .ok (.ifCond .ne 5, 3) := by decide +kernel
theorem dX10_wish_11 : decode cX10_wish 11 = .ok (.iconst 0, 1) := by decide +kernel
theorem dX10_wish_12 : decode cX10_wish 12 = .ok (.ireturn, 1) := by decide +kernel
theorem dX10_done_0 : decode cX10_done 0 = .ok (.aload_n 0, 1) := by decide +kernel
theorem dX10_done_1 : decode cX10_done 1 = .ok (.getfield 38, 3) := by decide +kernel
theorem dX10_done_4 : decode cX10_done 4 = .ok (.getfield 160, 3) := by decide +kernel
theorem dX10_done_7 : decode cX10_done 7 = .ok (.ifCond .ne 5, 3) := by decide +kernel
theorem dX10_done_10 : decode cX10_done 10 = .ok (.iconst (-1), 1) := by decide +kernel
theorem dX10_done_11 : decode cX10_done 11 = .ok (.ireturn, 1) := by decide +kernel
theorem dX10_fewest_0 : decode cX10_fewest 0 = .ok (.aload_n 0, 1) := by decide +kernel
theorem dX10_fewest_1 : decode cX10_fewest 1 = .ok (.invokevirtual 223, 3) := by decide +kernel
theorem dX10_fewest_4 : decode cX10_fewest 4 = .ok (.ifCond .ne 6, 3) := by decide +kernel
theorem dX10_fewest_7 : decode cX10_fewest 7 = .ok (.ldc 199, 2) := by decide +kernel
theorem dX10_fewest_9 : decode cX10_fewest 9 = .ok (.ireturn, 1) := by decide +kernel
theorem dX10_cheapest_0 : decode cX10_cheapest 0 = .ok (.aload_n 0, 1) := by decide +kernel
theorem dX10_cheapest_1 : decode cX10_cheapest 1 = .ok (.invokevirtual 223, 3) := by decide +kernel
theorem dX10_cheapest_4 : decode cX10_cheapest 4 = .ok (.ifCond .eq 19, 3) := by decide +kernel
theorem dX10_cheapest_23 : decode cX10_cheapest 23 = .ok (.ldc 199, 2) := by decide +kernel
theorem dX10_cheapest_25 : decode cX10_cheapest 25 = .ok (.ireturn, 1) := by decide +kernel
theorem dX10_all_0 : decode cX10_all 0 = .ok (.aload_n 0, 1) := by decide +kernel
theorem dX10_all_1 : decode cX10_all 1 = .ok (.invokevirtual 223, 3) := by decide +kernel
theorem dX10_all_4 : decode cX10_all 4 = .ok (.ifCond .eq 12, 3) := by decide +kernel
theorem dX10_all_16 : decode cX10_all 16 = .ok (.ldc 199, 2) := by decide +kernel
theorem dX10_all_18 : decode cX10_all 18 = .ok (.ireturn, 1) := by decide +kernel
theorem dX10_count_0 : decode cX10_count 0 = .ok (.aload_n 0, 1) := by decide +kernel
theorem dX10_count_1 : decode cX10_count 1 = .ok (.invokevirtual 223, 3) := by decide +kernel
theorem dX10_count_4 : decode cX10_count 4 = .ok (.ifCond .eq 13, 3) := by decide +kernel
theorem dX10_count_17 : decode cX10_count 17 = .ok (.ldc 199, 2) := by decide +kernel
theorem dX10_count_19 : decode cX10_count 19 = .ok (.ireturn, 1) := by decide +kernel
theorem dX10_ill_0 : decode cX10_ill 0 = .ok (.aload_n 0, 1) := by decide +kernel
theorem dX10_ill_1 : decode cX10_ill 1 = .ok (.invokevirtual 223, 3) := by decide +kernel
theorem dX10_ill_4 : decode cX10_ill 4 = .ok (.ifCond .eq 14, 3) := by decide +kernel
theorem dX10_ill_18 : decode cX10_ill 18 = .ok (.ldc 199, 2) := by decide +kernel
theorem dX10_ill_20 : decode cX10_ill 20 = .ok (.ireturn, 1) := by decide +kernel
theorem dX10_holds_0 : decode cX10_holds 0 = .ok (.aload_n 0, 1) := by decide +kernel
theorem dX10_holds_1 : decode cX10_holds 1 = .ok (.invokevirtual 223, 3) := by decide +kernel
theorem dX10_holds_4 : decode cX10_holds 4 = .ok (.ifCond .ne 6, 3) := by decide +kernel
theorem dX10_holds_7 : decode cX10_holds 7 = .ok (.ldc 199, 2) := by decide +kernel
theorem dX10_holds_9 : decode cX10_holds 9 = .ok (.ireturn, 1) := by decide +kernel
theorem dX10_sort_0 : decode cX10_sort 0 = .ok (.aload_n 0, 1) := by decide +kernel
theorem dX10_sort_1 : decode cX10_sort 1 = .ok (.getfield 65, 3) := by decide +kernel
theorem dX10_sort_4 : decode cX10_sort 4 = .ok (.aload_n 0, 1) := by decide +kernel
theorem dX10_sort_5 : decode cX10_sort 5 = .ok (.getfield 38, 3) := by decide +kernel
theorem dX10_sort_8 : decode cX10_sort 8 = .ok (.invokevirtual 263, 3) := by decide +kernel
theorem dX10_sort_11 : decode cX10_sort 11 = .ok (.ireturn, 1) := by decide +kernel
theorem dX10_can_0 : decode cX10_can 0 = .ok (.aload_n 0, 1) := by decide +kernel
theorem dX10_can_1 : decode cX10_can 1 = .ok (.getfield 65, 3) := by decide +kernel
theorem dX10_can_4 : decode cX10_can 4 = .ok (.aload_n 0, 1) := by decide +kernel
theorem dX10_can_5 : decode cX10_can 5 = .ok (.getfield 38, 3) := by decide +kernel
theorem dX10_can_8 : decode cX10_can 8 = .ok (.invokevirtual 263, 3) := by decide +kernel
theorem dX10_can_11 : decode cX10_can 11 = .ok (.istore_n 1, 1) := by decide +kernel
theorem dX10_can_12 : decode cX10_can 12 = .ok (.iload_n 1, 1) := by decide +kernel
theorem dX10_can_13 : decode cX10_can 13 = .ok (.iconst (-1), 1) := by decide +kernel
theorem dX10_can_14 : decode cX10_can 14 = .ok (.if_icmp .eq 13, 3) := by decide +kernel
theorem dX10_can_27 : decode cX10_can 27 = .ok (.iconst (-1), 1) := by decide +kernel
theorem dX10_can_28 : decode cX10_can 28 = .ok (.ireturn, 1) := by decide +kernel
theorem dX10_worth_0 : decode cX10_worth 0 = .ok (.aload_n 0, 1) := by decide +kernel
theorem dX10_worth_1 : decode cX10_worth 1 = .ok (.getfield 38, 3) := by decide +kernel
theorem dX10_worth_4 : decode cX10_worth 4 = .ok (.iload_n 1, 1) := by decide +kernel
theorem dX10_worth_5 : decode cX10_worth 5 = .ok (.invokevirtual 136, 3) := by decide +kernel
theorem dX10_worth_8 : decode cX10_worth 8 = .ok (.ifCond .eq 24, 3) := by decide +kernel
theorem dX10_worth_32 : decode cX10_worth 32 = .ok (.iconst 0, 1) := by decide +kernel
theorem dX10_worth_33 : decode cX10_worth 33 = .ok (.ireturn, 1) := by decide +kernel
theorem dX10_seated_0 : decode cX10_seated 0 = .ok (.iload_n 1, 1) := by decide +kernel
theorem dX10_seated_1 : decode cX10_seated 1 = .ok (.iconst (-1), 1) := by decide +kernel
theorem dX10_seated_2 : decode cX10_seated 2 = .ok (.if_icmp .ne 57, 3) := by decide +kernel
theorem dX10_seated_5 : decode cX10_seated 5 = .ok (.aload_n 0, 1) := by decide +kernel
theorem dX10_seated_6 : decode cX10_seated 6 = .ok (.getfield 38, 3) := by decide +kernel
theorem dX10_seated_9 : decode cX10_seated 9 = .ok (.getfield 160, 3) := by decide +kernel
theorem dX10_seated_12 : decode cX10_seated 12 = .ok (.ifCond .le 47, 3) := by decide +kernel
theorem dX10_seated_59 : decode cX10_seated 59 = .ok (.aload_n 0, 1) := by decide +kernel
theorem dX10_seated_60 : decode cX10_seated 60 = .ok (.getfield 38, 3) := by decide +kernel
theorem dX10_seated_63 : decode cX10_seated 63 = .ok (.iload_n 1, 1) := by decide +kernel
theorem dX10_seated_64 : decode cX10_seated 64 = .ok (.invokevirtual 136, 3) := by decide +kernel
theorem dX10_seated_67 : decode cX10_seated 67 = .ok (.ifCond .eq 14, 3) := by decide +kernel
theorem dX10_seated_81 : decode cX10_seated 81 = .ok (.iconst (-1), 1) := by decide +kernel
theorem dX10_seated_82 : decode cX10_seated 82 = .ok (.ireturn, 1) := by decide +kernel
theorem dX10_best_0 : decode cX10_best 0 = .ok (.iload_n 1, 1) := by decide +kernel
theorem dX10_best_1 : decode cX10_best 1 = .ok (.iconst (-1), 1) := by decide +kernel
theorem dX10_best_2 : decode cX10_best 2 = .ok (.if_icmp .ne 25, 3) := by decide +kernel
theorem dX10_best_5 : decode cX10_best 5 = .ok (.aload_n 0, 1) := by decide +kernel
theorem dX10_best_6 : decode cX10_best 6 = .ok (.getfield 38, 3) := by decide +kernel
theorem dX10_best_9 : decode cX10_best 9 = .ok (.getfield 160, 3) := by decide +kernel
theorem dX10_best_12 : decode cX10_best 12 = .ok (.ifCond .le 15, 3) := by decide +kernel
theorem dX10_best_27 : decode cX10_best 27 = .ok (.aload_n 0, 1) := by decide +kernel
theorem dX10_best_28 : decode cX10_best 28 = .ok (.getfield 38, 3) := by decide +kernel
theorem dX10_best_31 : decode cX10_best 31 = .ok (.iload_n 1, 1) := by decide +kernel
theorem dX10_best_32 : decode cX10_best 32 = .ok (.invokevirtual 136, 3) := by decide +kernel
theorem dX10_best_35 : decode cX10_best 35 = .ok (.ifCond .eq 18, 3) := by decide +kernel
theorem dX10_best_53 : decode cX10_best 53 = .ok (.iconst (-1), 1) := by decide +kernel
theorem dX10_best_54 : decode cX10_best 54 = .ok (.ireturn, 1) := by decide +kernel
theorem dX10_gains_0 : decode cX10_gains 0 = .ok (.aload_n 0, 1) := by decide +kernel
theorem dX10_gains_1 : decode cX10_gains 1 = .ok (.getfield 38, 3) := by decide +kernel
theorem dX10_gains_4 : decode cX10_gains 4 = .ok (.iload_n 1, 1) := by decide +kernel
theorem dX10_gains_5 : decode cX10_gains 5 = .ok (.invokevirtual 136, 3) := by decide +kernel
theorem dX10_gains_8 : decode cX10_gains 8 = .ok (.ifCond .eq 12, 3) := by decide +kernel
theorem dX10_gains_20 : decode cX10_gains 20 = .ok (.iconst (-1), 1) := by decide +kernel
theorem dX10_gains_21 : decode cX10_gains 21 = .ok (.ireturn, 1) := by decide +kernel
theorem dX10_exchange_0 : decode cX10_exchange 0 = .ok (.aload_n 0, 1) := by decide +kernel
theorem dX10_exchange_1 : decode cX10_exchange 1 = .ok (.getfield 38, 3) := by decide +kernel
theorem dX10_exchange_4 : decode cX10_exchange 4 = .ok (.iload_n 1, 1) := by decide +kernel
theorem dX10_exchange_5 : decode cX10_exchange 5 = .ok (.invokevirtual 136, 3) := by decide +kernel
theorem dX10_exchange_8 : decode cX10_exchange 8 = .ok (.ifCond .ne 5, 3) := by decide +kernel
theorem dX10_exchange_11 : decode cX10_exchange 11 = .ok (.iconst (-1), 1) := by decide +kernel
theorem dX10_exchange_12 : decode cX10_exchange 12 = .ok (.ireturn, 1) := by decide +kernel
theorem dX10_agree_0 : decode cX10_agree 0 = .ok (.aload_n 0, 1) := by decide +kernel
theorem dX10_agree_1 : decode cX10_agree 1 = .ok (.getfield 38, 3) := by decide +kernel
theorem dX10_agree_4 : decode cX10_agree 4 = .ok (.getfield 160, 3) := by decide +kernel
theorem dX10_agree_7 : decode cX10_agree 7 = .ok (.ifCond .eq 8, 3) := by decide +kernel
theorem dX10_agree_15 : decode cX10_agree 15 = .ok (.iconst (-1), 1) := by decide +kernel
theorem dX10_agree_16 : decode cX10_agree 16 = .ok (.ireturn, 1) := by decide +kernel
theorem dX10_vote_0 : decode cX10_vote 0 = .ok (.aload_n 0, 1) := by decide +kernel
theorem dX10_vote_1 : decode cX10_vote 1 = .ok (.getfield 38, 3) := by decide +kernel
theorem dX10_vote_4 : decode cX10_vote 4 = .ok (.iload_n 1, 1) := by decide +kernel
theorem dX10_vote_5 : decode cX10_vote 5 = .ok (.invokevirtual 122, 3) := by decide +kernel
theorem dX10_vote_8 : decode cX10_vote 8 = .ok (.ifCond .eq 19, 3) := by decide +kernel
theorem dX10_vote_27 : decode cX10_vote 27 = .ok (.ldc 199, 2) := by decide +kernel
theorem dX10_vote_29 : decode cX10_vote 29 = .ok (.ireturn, 1) := by decide +kernel
theorem dX10_image_0 : decode cX10_image 0 = .ok (.aload_n 0, 1) := by decide +kernel
theorem dX10_image_1 : decode cX10_image 1 = .ok (.getfield 38, 3) := by decide +kernel
theorem dX10_image_4 : decode cX10_image 4 = .ok (.getfield 160, 3) := by decide +kernel
theorem dX10_image_7 : decode cX10_image 7 = .ok (.ifCond .ne 5, 3) := by decide +kernel
theorem dX10_image_10 : decode cX10_image 10 = .ok (.iconst (-1), 1) := by decide +kernel
theorem dX10_image_11 : decode cX10_image 11 = .ok (.ireturn, 1) := by decide +kernel
theorem dX10_back_0 : decode cX10_back 0 = .ok (.aload_n 0, 1) := by decide +kernel
theorem dX10_back_1 : decode cX10_back 1 = .ok (.getfield 58, 3) := by decide +kernel
theorem dX10_back_4 : decode cX10_back 4 = .ok (.getfield 317, 3) := by decide +kernel
theorem dX10_back_7 : decode cX10_back 7 = .ok (.ifCond .ne 5, 3) := by decide +kernel
theorem dX10_back_10 : decode cX10_back 10 = .ok (.iconst (-1), 1) := by decide +kernel
theorem dX10_back_11 : decode cX10_back 11 = .ok (.ireturn, 1) := by decide +kernel
theorem dX10_told_0 : decode cX10_told 0 = .ok (.iload_n 1, 1) := by decide +kernel
theorem dX10_told_1 : decode cX10_told 1 = .ok (.tableswitch 107 0 6 #[43, 51, 59, 64, 72, 94, 102], 43) := by decide +kernel
theorem dX10_told_44 : decode cX10_told 44 = .ok (.aload_n 0, 1) := by decide +kernel
theorem dX10_told_45 : decode cX10_told 45 = .ok (.getfield 38, 3) := by decide +kernel
theorem dX10_told_48 : decode cX10_told 48 = .ok (.getfield 160, 3) := by decide +kernel
theorem dX10_told_51 : decode cX10_told 51 = .ok (.ireturn, 1) := by decide +kernel
theorem dX10_told_52 : decode cX10_told 52 = .ok (.aload_n 0, 1) := by decide +kernel
theorem dX10_told_53 : decode cX10_told 53 = .ok (.getfield 38, 3) := by decide +kernel
theorem dX10_told_56 : decode cX10_told 56 = .ok (.getfield 324, 3) := by decide +kernel
theorem dX10_told_59 : decode cX10_told 59 = .ok (.ireturn, 1) := by decide +kernel
theorem dX10_told_60 : decode cX10_told 60 = .ok (.aload_n 0, 1) := by decide +kernel
theorem dX10_told_61 : decode cX10_told 61 = .ok (.getfield 163, 3) := by decide +kernel
theorem dX10_told_64 : decode cX10_told 64 = .ok (.ireturn, 1) := by decide +kernel
theorem dX10_told_65 : decode cX10_told 65 = .ok (.aload_n 0, 1) := by decide +kernel
theorem dX10_told_66 : decode cX10_told 66 = .ok (.getfield 10, 3) := by decide +kernel
theorem dX10_told_69 : decode cX10_told 69 = .ok (.getfield 93, 3) := by decide +kernel
theorem dX10_told_72 : decode cX10_told 72 = .ok (.ireturn, 1) := by decide +kernel
theorem dX10_told_73 : decode cX10_told 73 = .ok (.aload_n 0, 1) := by decide +kernel
theorem dX10_told_74 : decode cX10_told 74 = .ok (.getfield 48, 3) := by decide +kernel
theorem dX10_told_77 : decode cX10_told 77 = .ok (.getfield 198, 3) := by decide +kernel
theorem dX10_told_80 : decode cX10_told 80 = .ok (.ifCond .le 13, 3) := by decide +kernel
theorem dX10_told_93 : decode cX10_told 93 = .ok (.iconst (-1), 1) := by decide +kernel
theorem dX10_told_94 : decode cX10_told 94 = .ok (.ireturn, 1) := by decide +kernel
theorem dX10_told_95 : decode cX10_told 95 = .ok (.aload_n 0, 1) := by decide +kernel
theorem dX10_told_96 : decode cX10_told 96 = .ok (.getfield 58, 3) := by decide +kernel
theorem dX10_told_99 : decode cX10_told 99 = .ok (.getfield 188, 3) := by decide +kernel
theorem dX10_told_102 : decode cX10_told 102 = .ok (.ireturn, 1) := by decide +kernel
theorem dX10_told_103 : decode cX10_told 103 = .ok (.aload_n 0, 1) := by decide +kernel
theorem dX10_told_104 : decode cX10_told 104 = .ok (.getfield 31, 3) := by decide +kernel
theorem dX10_told_107 : decode cX10_told 107 = .ok (.ireturn, 1) := by decide +kernel
theorem dX10_told_108 : decode cX10_told 108 = .ok (.ldc 199, 2) := by decide +kernel
theorem dX10_told_110 : decode cX10_told 110 = .ok (.ireturn, 1) := by decide +kernel
theorem dX10_lawOf_0 : decode cX10_lawOf 0 = .ok (.iload_n 1, 1) := by decide +kernel
theorem dX10_lawOf_1 : decode cX10_lawOf 1 = .ok (.ifCond .lt 20, 3) := by decide +kernel
theorem dX10_lawOf_21 : decode cX10_lawOf 21 = .ok (.aconst_null, 1) := by decide +kernel
theorem dX10_lawOf_22 : decode cX10_lawOf 22 = .ok (.areturn, 1) := by decide +kernel
theorem dX10_isSearched_0 : decode cX10_isSearched 0 = .ok (.aload_n 0, 1) := by decide +kernel
theorem dX10_isSearched_1 : decode cX10_isSearched 1 = .ok (.getfield 38, 3) := by decide +kernel
theorem dX10_isSearched_4 : decode cX10_isSearched 4 = .ok (.getfield 160, 3) := by decide +kernel
theorem dX10_isSearched_7 : decode cX10_isSearched 7 = .ok (.ifCond .le 19, 3) := by decide +kernel
theorem dX10_isSearched_26 : decode cX10_isSearched 26 = .ok (.iconst 0, 1) := by decide +kernel
theorem dX10_isSearched_27 : decode cX10_isSearched 27 = .ok (.ireturn, 1) := by decide +kernel
theorem dX11_in_0 : decode cX11_in 0 = .ok (.iload_n 0, 1) := by decide +kernel
theorem dX11_in_1 : decode cX11_in 1 = .ok (.iload_n 1, 1) := by decide +kernel
theorem dX11_in_2 : decode cX11_in 2 = .ok (.if_icmp .lt 12, 3) := by decide +kernel
theorem dX11_in_5 : decode cX11_in 5 = .ok (.iload_n 0, 1) := by decide +kernel
theorem dX11_in_6 : decode cX11_in 6 = .ok (.iload_n 2, 1) := by decide +kernel
theorem dX11_in_7 : decode cX11_in 7 = .ok (.if_icmp .gt 7, 3) := by decide +kernel
theorem dX11_in_10 : decode cX11_in 10 = .ok (.iconst 1, 1) := by decide +kernel
theorem dX11_in_11 : decode cX11_in 11 = .ok (.goto 4, 3) := by decide +kernel
theorem dX11_in_14 : decode cX11_in 14 = .ok (.iconst 0, 1) := by decide +kernel
theorem dX11_in_15 : decode cX11_in 15 = .ok (.ireturn, 1) := by decide +kernel
theorem dX11_thrown_0 : decode cX11_thrown 0 = .ok (.aload_n 0, 1) := by decide +kernel
theorem dX11_thrown_1 : decode cX11_thrown 1 = .ok (.getfield 153, 3) := by decide +kernel
theorem dX11_thrown_4 : decode cX11_thrown 4 = .ok (.ireturn, 1) := by decide +kernel
theorem dX11_isDesk_0 : decode cX11_isDesk 0 = .ok (.iload_n 1, 1) := by decide +kernel
theorem dX11_isDesk_1 : decode cX11_isDesk 1 = .ok (.iconst 0, 1) := by decide +kernel
theorem dX11_isDesk_2 : decode cX11_isDesk 2 = .ok (.aload_n 0, 1) := by decide +kernel
theorem dX11_isDesk_3 : decode cX11_isDesk 3 = .ok (.getfield 303, 3) := by decide +kernel
theorem dX11_isDesk_6 : decode cX11_isDesk 6 = .ok (.iconst 1, 1) := by decide +kernel
theorem dX11_isDesk_7 : decode cX11_isDesk 7 = .ok (.isub, 1) := by decide +kernel
theorem dX11_isDesk_8 : decode cX11_isDesk 8 = .ok (.invokestatic 274, 3) := by decide +kernel
theorem dX11_isDesk_11 : decode cX11_isDesk 11 = .ok (.ireturn, 1) := by decide +kernel
theorem dX11_isClerk_0 : decode cX11_isClerk 0 = .ok (.iload_n 1, 1) := by decide +kernel
theorem dX11_isClerk_1 : decode cX11_isClerk 1 = .ok (.iconst 0, 1) := by decide +kernel
theorem dX11_isClerk_2 : decode cX11_isClerk 2 = .ok (.bipush 11, 2) := by decide +kernel
theorem dX11_isClerk_4 : decode cX11_isClerk 4 = .ok (.invokestatic 274, 3) := by decide +kernel
theorem dX11_isClerk_7 : decode cX11_isClerk 7 = .ok (.ifCond .eq 25, 3) := by decide +kernel
theorem dX11_isClerk_10 : decode cX11_isClerk 10 = .ok (.aload_n 0, 1) := by decide +kernel
theorem dX11_isClerk_11 : decode cX11_isClerk 11 = .ok (.getfield 303, 3) := by decide +kernel
theorem dX11_isClerk_14 : decode cX11_isClerk 14 = .ok (.ifCond .le 18, 3) := by decide +kernel
theorem dX11_isClerk_32 : decode cX11_isClerk 32 = .ok (.iconst 0, 1) := by decide +kernel
theorem dX11_isClerk_33 : decode cX11_isClerk 33 = .ok (.ireturn, 1) := by decide +kernel
theorem dX11_door_0 : decode cX11_door 0 = .ok (.aload_n 0, 1) := by decide +kernel
theorem dX11_door_1 : decode cX11_door 1 = .ok (.iload_n 1, 1) := by decide +kernel
theorem dX11_door_2 : decode cX11_door 2 = .ok (.invokevirtual 325, 3) := by decide +kernel
theorem dX11_door_5 : decode cX11_door 5 = .ok (.ifCond .eq 39, 3) := by decide +kernel
theorem dX11_door_44 : decode cX11_door 44 = .ok (.iconst (-1), 1) := by decide +kernel
theorem dX11_door_45 : decode cX11_door 45 = .ok (.ireturn, 1) := by decide +kernel
theorem dX11_quarrel_0 : decode cX11_quarrel 0 = .ok (.aload_n 0, 1) := by decide +kernel
theorem dX11_quarrel_1 : decode cX11_quarrel 1 = .ok (.iload_n 1, 1) := by decide +kernel
theorem dX11_quarrel_2 : decode cX11_quarrel 2 = .ok (.invokevirtual 328, 3) := by decide +kernel
theorem dX11_quarrel_5 : decode cX11_quarrel 5 = .ok (.ifCond .eq 37, 3) := by decide +kernel
theorem dX11_quarrel_42 : decode cX11_quarrel 42 = .ok (.iconst (-1), 1) := by decide +kernel
theorem dX11_quarrel_43 : decode cX11_quarrel 43 = .ok (.ireturn, 1) := by decide +kernel
theorem dX11_set_0 : decode cX11_set 0 = .ok (.aload_n 0, 1) := by decide +kernel
theorem dX11_set_1 : decode cX11_set 1 = .ok (.iload_n 1, 1) := by decide +kernel
theorem dX11_set_2 : decode cX11_set 2 = .ok (.invokevirtual 328, 3) := by decide +kernel
theorem dX11_set_5 : decode cX11_set 5 = .ok (.ifCond .eq 22, 3) := by decide +kernel
theorem dX11_set_27 : decode cX11_set 27 = .ok (.iconst 0, 1) := by decide +kernel
theorem dX11_set_28 : decode cX11_set 28 = .ok (.ireturn, 1) := by decide +kernel
theorem dX11_clerk_0 : decode cX11_clerk 0 = .ok (.aload_n 0, 1) := by decide +kernel
theorem dX11_clerk_1 : decode cX11_clerk 1 = .ok (.iload_n 1, 1) := by decide +kernel
theorem dX11_clerk_2 : decode cX11_clerk 2 = .ok (.invokevirtual 328, 3) := by decide +kernel
theorem dX11_clerk_5 : decode cX11_clerk 5 = .ok (.ifCond .ne 5, 3) := by decide +kernel
theorem dX11_clerk_8 : decode cX11_clerk 8 = .ok (.iconst (-1), 1) := by decide +kernel
theorem dX11_clerk_9 : decode cX11_clerk 9 = .ok (.ireturn, 1) := by decide +kernel
theorem dX11_law_0 : decode cX11_law 0 = .ok (.aload_n 0, 1) := by decide +kernel
theorem dX11_law_1 : decode cX11_law 1 = .ok (.getfield 303, 3) := by decide +kernel
theorem dX11_law_4 : decode cX11_law 4 = .ok (.ifCond .eq 22, 3) := by decide +kernel
theorem dX11_law_26 : decode cX11_law 26 = .ok (.iconst 0, 1) := by decide +kernel
theorem dX11_law_27 : decode cX11_law 27 = .ok (.ireturn, 1) := by decide +kernel
theorem dX11_bars_0 : decode cX11_bars 0 = .ok (.aload_n 0, 1) := by decide +kernel
theorem dX11_bars_1 : decode cX11_bars 1 = .ok (.iload_n 2, 1) := by decide +kernel
theorem dX11_bars_2 : decode cX11_bars 2 = .ok (.invokevirtual 328, 3) := by decide +kernel
theorem dX11_bars_5 : decode cX11_bars 5 = .ok (.ifCond .eq 11, 3) := by decide +kernel
theorem dX11_bars_16 : decode cX11_bars 16 = .ok (.iconst 1, 1) := by decide +kernel
theorem dX11_bars_17 : decode cX11_bars 17 = .ok (.ireturn, 1) := by decide +kernel
theorem dX11_let_0 : decode cX11_let 0 = .ok (.aload_n 0, 1) := by decide +kernel
theorem dX11_let_1 : decode cX11_let 1 = .ok (.aload_n 0, 1) := by decide +kernel
theorem dX11_let_2 : decode cX11_let 2 = .ok (.getfield 49, 3) := by decide +kernel
theorem dX11_let_5 : decode cX11_let 5 = .ok (.iload_n 1, 1) := by decide +kernel
theorem dX11_let_6 : decode cX11_let 6 = .ok (.iload_n 2, 1) := by decide +kernel
theorem dX11_let_7 : decode cX11_let 7 = .ok (.invokevirtual 346, 3) := by decide +kernel
theorem dX11_let_10 : decode cX11_let 10 = .ok (.istore_n 3, 1) := by decide +kernel
theorem dX11_let_11 : decode cX11_let 11 = .ok (.iload_n 3, 1) := by decide +kernel
theorem dX11_let_12 : decode cX11_let 12 = .ok (.ifCond .ne 7, 3) := by decide +kernel
theorem dX11_let_19 : decode cX11_let 19 = .ok (.iload_n 3, 1) := by decide +kernel
theorem dX11_let_20 : decode cX11_let 20 = .ok (.iconst 4, 1) := by decide +kernel
theorem dX11_let_21 : decode cX11_let 21 = .ok (.if_icmp .ne 7, 3) := by decide +kernel
theorem dX11_let_28 : decode cX11_let 28 = .ok (.iconst (-1), 1) := by decide +kernel
theorem dX11_let_29 : decode cX11_let 29 = .ok (.ireturn, 1) := by decide +kernel
theorem dX11_move_0 : decode cX11_move 0 = .ok (.aload_n 0, 1) := by decide +kernel
theorem dX11_move_1 : decode cX11_move 1 = .ok (.aload_n 0, 1) := by decide +kernel
theorem dX11_move_2 : decode cX11_move 2 = .ok (.getfield 49, 3) := by decide +kernel
theorem dX11_move_5 : decode cX11_move 5 = .ok (.iload_n 1, 1) := by decide +kernel
theorem dX11_move_6 : decode cX11_move 6 = .ok (.iload_n 2, 1) := by decide +kernel
theorem dX11_move_7 : decode cX11_move 7 = .ok (.invokevirtual 346, 3) := by decide +kernel
theorem dX11_move_10 : decode cX11_move 10 = .ok (.ifCond .eq 5, 3) := by decide +kernel
theorem dX11_move_13 : decode cX11_move 13 = .ok (.iconst (-1), 1) := by decide +kernel
theorem dX11_move_14 : decode cX11_move 14 = .ok (.ireturn, 1) := by decide +kernel
theorem dX11_undo_0 : decode cX11_undo 0 = .ok (.aload_n 0, 1) := by decide +kernel
theorem dX11_undo_1 : decode cX11_undo 1 = .ok (.getfield 309, 3) := by decide +kernel
theorem dX11_undo_4 : decode cX11_undo 4 = .ok (.ifCond .ne 5, 3) := by decide +kernel
theorem dX11_undo_7 : decode cX11_undo 7 = .ok (.iconst (-1), 1) := by decide +kernel
theorem dX11_undo_8 : decode cX11_undo 8 = .ok (.ireturn, 1) := by decide +kernel
theorem dX11_diary_0 : decode cX11_diary 0 = .ok (.iload_n 1, 1) := by decide +kernel
theorem dX11_diary_1 : decode cX11_diary 1 = .ok (.iconst 0, 1) := by decide +kernel
theorem dX11_diary_2 : decode cX11_diary 2 = .ok (.aload_n 0, 1) := by decide +kernel
theorem dX11_diary_3 : decode cX11_diary 3 = .ok (.getfield 309, 3) := by decide +kernel
theorem dX11_diary_6 : decode cX11_diary 6 = .ok (.iconst 1, 1) := by decide +kernel
theorem dX11_diary_7 : decode cX11_diary 7 = .ok (.isub, 1) := by decide +kernel
theorem dX11_diary_8 : decode cX11_diary 8 = .ok (.invokestatic 274, 3) := by decide +kernel
theorem dX11_diary_11 : decode cX11_diary 11 = .ok (.ifCond .eq 20, 3) := by decide +kernel
theorem dX11_diary_31 : decode cX11_diary 31 = .ok (.iconst (-1), 1) := by decide +kernel
theorem dX11_diary_32 : decode cX11_diary 32 = .ok (.ireturn, 1) := by decide +kernel
theorem dX11_judge_0 : decode cX11_judge 0 = .ok (.aload_n 0, 1) := by decide +kernel
theorem dX11_judge_1 : decode cX11_judge 1 = .ok (.getfield 64, 3) := by decide +kernel
theorem dX11_judge_4 : decode cX11_judge 4 = .ok (.iconst (-1), 1) := by decide +kernel
theorem dX11_judge_5 : decode cX11_judge 5 = .ok (.if_icmp .eq 22, 3) := by decide +kernel
theorem dX11_judge_27 : decode cX11_judge 27 = .ok (.ldc_w 356, 3) := by decide +kernel
theorem dX11_judge_30 : decode cX11_judge 30 = .ok (.ireturn, 1) := by decide +kernel
theorem dX11_wish_0 : decode cX11_wish 0 = .ok (.aload_n 0, 1) := by decide +kernel
theorem dX11_wish_1 : decode cX11_wish 1 = .ok (.iload_n 1, 1) := by decide +kernel
theorem dX11_wish_2 : decode cX11_wish 2 = .ok (.invokevirtual 325, 3) := by decide +kernel
theorem dX11_wish_5 : decode cX11_wish 5 = .ok (.ifCond .eq 22, 3) := by decide +kernel
theorem dX11_wish_27 : decode cX11_wish 27 = .ok (.iconst 0, 1) := by decide +kernel
theorem dX11_wish_28 : decode cX11_wish 28 = .ok (.ireturn, 1) := by decide +kernel
theorem dX11_done_0 : decode cX11_done 0 = .ok (.aload_n 0, 1) := by decide +kernel
theorem dX11_done_1 : decode cX11_done 1 = .ok (.getfield 303, 3) := by decide +kernel
theorem dX11_done_4 : decode cX11_done 4 = .ok (.ifCond .ne 7, 3) := by decide +kernel
theorem dX11_done_7 : decode cX11_done 7 = .ok (.iconst (-1), 1) := by decide +kernel
theorem dX11_done_8 : decode cX11_done 8 = .ok (.goto 21, 3) := by decide +kernel
theorem dX11_done_29 : decode cX11_done 29 = .ok (.ireturn, 1) := by decide +kernel
theorem dX11_isSmall_0 : decode cX11_isSmall 0 = .ok (.aload_n 0, 1) := by decide +kernel
theorem dX11_isSmall_1 : decode cX11_isSmall 1 = .ok (.getfield 303, 3) := by decide +kernel
theorem dX11_isSmall_4 : decode cX11_isSmall 4 = .ok (.iconst 1, 1) := by decide +kernel
theorem dX11_isSmall_5 : decode cX11_isSmall 5 = .ok (.bipush 8, 2) := by decide +kernel
theorem dX11_isSmall_7 : decode cX11_isSmall 7 = .ok (.invokestatic 274, 3) := by decide +kernel
theorem dX11_isSmall_10 : decode cX11_isSmall 10 = .ok (.ireturn, 1) := by decide +kernel
theorem dX11_fewest_0 : decode cX11_fewest 0 = .ok (.aload_n 0, 1) := by decide +kernel
theorem dX11_fewest_1 : decode cX11_fewest 1 = .ok (.invokevirtual 394, 3) := by decide +kernel
theorem dX11_fewest_4 : decode cX11_fewest 4 = .ok (.ifCond .ne 7, 3) := by decide +kernel
theorem dX11_fewest_7 : decode cX11_fewest 7 = .ok (.ldc_w 356, 3) := by decide +kernel
theorem dX11_fewest_10 : decode cX11_fewest 10 = .ok (.ireturn, 1) := by decide +kernel
theorem dX11_cheapest_0 : decode cX11_cheapest 0 = .ok (.aload_n 0, 1) := by decide +kernel
theorem dX11_cheapest_1 : decode cX11_cheapest 1 = .ok (.invokevirtual 394, 3) := by decide +kernel
theorem dX11_cheapest_4 : decode cX11_cheapest 4 = .ok (.ifCond .eq 11, 3) := by decide +kernel
theorem dX11_cheapest_15 : decode cX11_cheapest 15 = .ok (.ldc_w 356, 3) := by decide +kernel
theorem dX11_cheapest_18 : decode cX11_cheapest 18 = .ok (.ireturn, 1) := by decide +kernel
theorem dX11_all_0 : decode cX11_all 0 = .ok (.aload_n 0, 1) := by decide +kernel
theorem dX11_all_1 : decode cX11_all 1 = .ok (.invokevirtual 394, 3) := by decide +kernel
theorem dX11_all_4 : decode cX11_all 4 = .ok (.ifCond .eq 12, 3) := by decide +kernel
theorem dX11_all_16 : decode cX11_all 16 = .ok (.ldc_w 356, 3) := by decide +kernel
theorem dX11_all_19 : decode cX11_all 19 = .ok (.ireturn, 1) := by decide +kernel
theorem dX11_count_0 : decode cX11_count 0 = .ok (.aload_n 0, 1) := by decide +kernel
theorem dX11_count_1 : decode cX11_count 1 = .ok (.invokevirtual 394, 3) := by decide +kernel
theorem dX11_count_4 : decode cX11_count 4 = .ok (.ifCond .eq 13, 3) := by decide +kernel
theorem dX11_count_17 : decode cX11_count 17 = .ok (.ldc_w 356, 3) := by decide +kernel
theorem dX11_count_20 : decode cX11_count 20 = .ok (.ireturn, 1) := by decide +kernel
theorem dX11_ill_0 : decode cX11_ill 0 = .ok (.aload_n 0, 1) := by decide +kernel
theorem dX11_ill_1 : decode cX11_ill 1 = .ok (.invokevirtual 394, 3) := by decide +kernel
theorem dX11_ill_4 : decode cX11_ill 4 = .ok (.ifCond .eq 19, 3) := by decide +kernel
theorem dX11_ill_23 : decode cX11_ill 23 = .ok (.ldc_w 356, 3) := by decide +kernel
theorem dX11_ill_26 : decode cX11_ill 26 = .ok (.ireturn, 1) := by decide +kernel
theorem dX11_holds_0 : decode cX11_holds 0 = .ok (.aload_n 0, 1) := by decide +kernel
theorem dX11_holds_1 : decode cX11_holds 1 = .ok (.invokevirtual 394, 3) := by decide +kernel
theorem dX11_holds_4 : decode cX11_holds 4 = .ok (.ifCond .ne 7, 3) := by decide +kernel
theorem dX11_holds_7 : decode cX11_holds 7 = .ok (.ldc_w 356, 3) := by decide +kernel
theorem dX11_holds_10 : decode cX11_holds 10 = .ok (.ireturn, 1) := by decide +kernel
theorem dX11_sort_0 : decode cX11_sort 0 = .ok (.aload_n 0, 1) := by decide +kernel
theorem dX11_sort_1 : decode cX11_sort 1 = .ok (.getfield 303, 3) := by decide +kernel
theorem dX11_sort_4 : decode cX11_sort 4 = .ok (.ifCond .eq 11, 3) := by decide +kernel
theorem dX11_sort_15 : decode cX11_sort 15 = .ok (.iconst (-1), 1) := by decide +kernel
theorem dX11_sort_16 : decode cX11_sort 16 = .ok (.goto 7, 3) := by decide +kernel
theorem dX11_sort_23 : decode cX11_sort 23 = .ok (.ireturn, 1) := by decide +kernel
theorem dX11_can_0 : decode cX11_can 0 = .ok (.aload_n 0, 1) := by decide +kernel
theorem dX11_can_1 : decode cX11_can 1 = .ok (.getfield 303, 3) := by decide +kernel
theorem dX11_can_4 : decode cX11_can 4 = .ok (.ifCond .eq 18, 3) := by decide +kernel
theorem dX11_can_22 : decode cX11_can 22 = .ok (.iconst (-1), 1) := by decide +kernel
theorem dX11_can_23 : decode cX11_can 23 = .ok (.ireturn, 1) := by decide +kernel
theorem dX11_worth_0 : decode cX11_worth 0 = .ok (.aload_n 0, 1) := by decide +kernel
theorem dX11_worth_1 : decode cX11_worth 1 = .ok (.iload_n 1, 1) := by decide +kernel
theorem dX11_worth_2 : decode cX11_worth 2 = .ok (.invokevirtual 328, 3) := by decide +kernel
theorem dX11_worth_5 : decode cX11_worth 5 = .ok (.ifCond .eq 21, 3) := by decide +kernel
theorem dX11_worth_26 : decode cX11_worth 26 = .ok (.iconst 0, 1) := by decide +kernel
theorem dX11_worth_27 : decode cX11_worth 27 = .ok (.ireturn, 1) := by decide +kernel
theorem dX11_seated_0 : decode cX11_seated 0 = .ok (.aload_n 0, 1) := by decide +kernel
theorem dX11_seated_1 : decode cX11_seated 1 = .ok (.getfield 303, 3) := by decide +kernel
theorem dX11_seated_4 : decode cX11_seated 4 = .ok (.ifCond .eq 16, 3) := by decide +kernel
theorem dX11_seated_20 : decode cX11_seated 20 = .ok (.iconst (-1), 1) := by decide +kernel
theorem dX11_seated_21 : decode cX11_seated 21 = .ok (.ireturn, 1) := by decide +kernel
theorem dX11_best_0 : decode cX11_best 0 = .ok (.aload_n 0, 1) := by decide +kernel
theorem dX11_best_1 : decode cX11_best 1 = .ok (.getfield 303, 3) := by decide +kernel
theorem dX11_best_4 : decode cX11_best 4 = .ok (.ifCond .eq 16, 3) := by decide +kernel
theorem dX11_best_20 : decode cX11_best 20 = .ok (.iconst (-1), 1) := by decide +kernel
theorem dX11_best_21 : decode cX11_best 21 = .ok (.ireturn, 1) := by decide +kernel
theorem dX11_gains_0 : decode cX11_gains 0 = .ok (.aload_n 0, 1) := by decide +kernel
theorem dX11_gains_1 : decode cX11_gains 1 = .ok (.iload_n 1, 1) := by decide +kernel
theorem dX11_gains_2 : decode cX11_gains 2 = .ok (.invokevirtual 328, 3) := by decide +kernel
theorem dX11_gains_5 : decode cX11_gains 5 = .ok (.ifCond .eq 12, 3) := by decide +kernel
theorem dX11_gains_17 : decode cX11_gains 17 = .ok (.iconst (-1), 1) := by decide +kernel
theorem dX11_gains_18 : decode cX11_gains 18 = .ok (.ireturn, 1) := by decide +kernel
theorem dX11_exchange_0 : decode cX11_exchange 0 = .ok (.aload_n 0, 1) := by decide +kernel
theorem dX11_exchange_1 : decode cX11_exchange 1 = .ok (.iload_n 1, 1) := by decide +kernel
theorem dX11_exchange_2 : decode cX11_exchange 2 = .ok (.invokevirtual 328, 3) := by decide +kernel
theorem dX11_exchange_5 : decode cX11_exchange 5 = .ok (.ifCond .ne 5, 3) := by decide +kernel
theorem dX11_exchange_8 : decode cX11_exchange 8 = .ok (.iconst (-1), 1) := by decide +kernel
theorem dX11_exchange_9 : decode cX11_exchange 9 = .ok (.ireturn, 1) := by decide +kernel
theorem dX11_agree_0 : decode cX11_agree 0 = .ok (.aload_n 0, 1) := by decide +kernel
theorem dX11_agree_1 : decode cX11_agree 1 = .ok (.getfield 303, 3) := by decide +kernel
theorem dX11_agree_4 : decode cX11_agree 4 = .ok (.ifCond .ne 5, 3) := by decide +kernel
theorem dX11_agree_7 : decode cX11_agree 7 = .ok (.iconst (-1), 1) := by decide +kernel
theorem dX11_agree_8 : decode cX11_agree 8 = .ok (.ireturn, 1) := by decide +kernel
theorem dX11_vote_0 : decode cX11_vote 0 = .ok (.aload_n 0, 1) := by decide +kernel
theorem dX11_vote_1 : decode cX11_vote 1 = .ok (.iload_n 1, 1) := by decide +kernel
theorem dX11_vote_2 : decode cX11_vote 2 = .ok (.invokevirtual 325, 3) := by decide +kernel
theorem dX11_vote_5 : decode cX11_vote 5 = .ok (.ifCond .eq 38, 3) := by decide +kernel
theorem dX11_vote_43 : decode cX11_vote 43 = .ok (.ldc_w 356, 3) := by decide +kernel
theorem dX11_vote_46 : decode cX11_vote 46 = .ok (.ireturn, 1) := by decide +kernel
theorem dX11_image_0 : decode cX11_image 0 = .ok (.aload_n 0, 1) := by decide +kernel
theorem dX11_image_1 : decode cX11_image 1 = .ok (.getfield 303, 3) := by decide +kernel
theorem dX11_image_4 : decode cX11_image 4 = .ok (.ifCond .ne 5, 3) := by decide +kernel
theorem dX11_image_7 : decode cX11_image 7 = .ok (.iconst (-1), 1) := by decide +kernel
theorem dX11_image_8 : decode cX11_image 8 = .ok (.ireturn, 1) := by decide +kernel
theorem dX11_back_0 : decode cX11_back 0 = .ok (.aload_n 0, 1) := by decide +kernel
theorem dX11_back_1 : decode cX11_back 1 = .ok (.getfield 315, 3) := by decide +kernel
theorem dX11_back_4 : decode cX11_back 4 = .ok (.ifCond .ne 5, 3) := by decide +kernel
theorem dX11_back_7 : decode cX11_back 7 = .ok (.iconst (-1), 1) := by decide +kernel
theorem dX11_back_8 : decode cX11_back 8 = .ok (.ireturn, 1) := by decide +kernel
theorem dX11_told_0 : decode cX11_told 0 = .ok (.iload_n 1, 1) := by decide +kernel
theorem dX11_told_1 : decode cX11_told 1 = .ok (.tableswitch 78 0 6 #[43, 48, 53, 58, 63, 68, 73], 43) := by decide +kernel
theorem dX11_told_44 : decode cX11_told 44 = .ok (.aload_n 0, 1) := by decide +kernel
theorem dX11_told_45 : decode cX11_told 45 = .ok (.getfield 303, 3) := by decide +kernel
theorem dX11_told_48 : decode cX11_told 48 = .ok (.ireturn, 1) := by decide +kernel
theorem dX11_told_49 : decode cX11_told 49 = .ok (.aload_n 0, 1) := by decide +kernel
theorem dX11_told_50 : decode cX11_told 50 = .ok (.getfield 306, 3) := by decide +kernel
theorem dX11_told_53 : decode cX11_told 53 = .ok (.ireturn, 1) := by decide +kernel
theorem dX11_told_54 : decode cX11_told 54 = .ok (.aload_n 0, 1) := by decide +kernel
theorem dX11_told_55 : decode cX11_told 55 = .ok (.getfield 322, 3) := by decide +kernel
theorem dX11_told_58 : decode cX11_told 58 = .ok (.ireturn, 1) := by decide +kernel
theorem dX11_told_59 : decode cX11_told 59 = .ok (.aload_n 0, 1) := by decide +kernel
theorem dX11_told_60 : decode cX11_told 60 = .ok (.getfield 160, 3) := by decide +kernel
theorem dX11_told_63 : decode cX11_told 63 = .ok (.ireturn, 1) := by decide +kernel
theorem dX11_told_64 : decode cX11_told 64 = .ok (.aload_n 0, 1) := by decide +kernel
theorem dX11_told_65 : decode cX11_told 65 = .ok (.getfield 64, 3) := by decide +kernel
theorem dX11_told_68 : decode cX11_told 68 = .ok (.ireturn, 1) := by decide +kernel
theorem dX11_told_69 : decode cX11_told 69 = .ok (.aload_n 0, 1) := by decide +kernel
theorem dX11_told_70 : decode cX11_told 70 = .ok (.getfield 309, 3) := by decide +kernel
theorem dX11_told_73 : decode cX11_told 73 = .ok (.ireturn, 1) := by decide +kernel
theorem dX11_told_74 : decode cX11_told 74 = .ok (.aload_n 0, 1) := by decide +kernel
theorem dX11_told_75 : decode cX11_told 75 = .ok (.getfield 74, 3) := by decide +kernel
theorem dX11_told_78 : decode cX11_told 78 = .ok (.ireturn, 1) := by decide +kernel
theorem dX11_told_79 : decode cX11_told 79 = .ok (.ldc_w 356, 3) := by decide +kernel
theorem dX11_told_82 : decode cX11_told 82 = .ok (.ireturn, 1) := by decide +kernel
theorem dJ7_fill_53178_0 : decode cJ7_fill_53178 0 = .ok (.iconst 0, 1) := by decide +kernel
theorem dJ7_fill_53178_1 : decode cJ7_fill_53178 1 = .ok (.istore_n 2, 1) := by decide +kernel
theorem dJ7_fill_53178_2 : decode cJ7_fill_53178 2 = .ok (.aload_n 0, 1) := by decide +kernel
theorem dJ7_fill_53178_3 : decode cJ7_fill_53178 3 = .ok (.arraylength, 1) := by decide +kernel
theorem dJ7_fill_53178_4 : decode cJ7_fill_53178 4 = .ok (.istore_n 3, 1) := by decide +kernel
theorem dJ7_fill_53178_5 : decode cJ7_fill_53178 5 = .ok (.iload_n 2, 1) := by decide +kernel
theorem dJ7_fill_53178_6 : decode cJ7_fill_53178 6 = .ok (.iload_n 3, 1) := by decide +kernel
theorem dJ7_fill_53178_7 : decode cJ7_fill_53178 7 = .ok (.if_icmp .ge 13, 3) := by decide +kernel
theorem dJ7_fill_53178_10 : decode cJ7_fill_53178 10 = .ok (.aload_n 0, 1) := by decide +kernel
theorem dJ7_fill_53178_11 : decode cJ7_fill_53178 11 = .ok (.iload_n 2, 1) := by decide +kernel
theorem dJ7_fill_53178_12 : decode cJ7_fill_53178 12 = .ok (.iload_n 1, 1) := by decide +kernel
theorem dJ7_fill_53178_13 : decode cJ7_fill_53178 13 = .ok (.iastore, 1) := by decide +kernel
theorem dJ7_fill_53178_14 : decode cJ7_fill_53178 14 = .ok (.iinc 2 1, 3) := by decide +kernel
theorem dJ7_fill_53178_17 : decode cJ7_fill_53178 17 = .ok (.goto (-12), 3) := by decide +kernel
theorem dJ7_fill_53178_20 : decode cJ7_fill_53178 20 = .ok (.return_, 1) := by decide +kernel
abbrev vwCl : List vw_C := [(RX0, TX0, 5), (RX1, TX1, 6), (RX2, TX2, 5), (RX3, TX3, 4), (RX4, TX4, 11), (RX5, TX5, 6), (RX6, TX6, 3), (RX7, TX7, 3), (RX8, TX8, 19), (RX9, TX9, 14), (RX10, TX10, 17), (RX11, TX11, 66)]
end
section
/-! numbers -/
theorem ar_lt {x y : Int32} : x < y ↔ x.toInt < y.toInt := Int32.lt_iff_toInt_lt
theorem ar_le {x y : Int32} : x ≤ y ↔ x.toInt ≤ y.toInt := Int32.le_iff_toInt_le
theorem ar_eq {x y : Int32} : x = y ↔ x.toInt = y.toInt := Int32.toInt_inj.symm
theorem ar_n0 : (0 : Int32).toInt = 0 := by decide
theorem ar_n1 : (1 : Int32).toInt = 1 := by decide
theorem ar_n2 : (2 : Int32).toInt = 2 := by decide
theorem ar_n3 : (3 : Int32).toInt = 3 := by decide
theorem ar_n4 : (4 : Int32).toInt = 4 := by decide
theorem ar_n5 : (5 : Int32).toInt = 5 := by decide
theorem ar_n6 : (6 : Int32).toInt = 6 := by decide
theorem ar_n7 : (7 : Int32).toInt = 7 := by decide
theorem ar_n8 : (8 : Int32).toInt = 8 := by decide
theorem ar_n9 : (9 : Int32).toInt = 9 := by decide
theorem ar_n11 : (11 : Int32).toInt = 11 := by decide
theorem ar_n12 : (12 : Int32).toInt = 12 := by decide
theorem ar_n60 : (60 : Int32).toInt = 60 := by decide
theorem ar_n99 : (99 : Int32).toInt = 99 := by decide
theorem ar_nm1 : (-1 : Int32).toInt = -1 := by decide
theorem ar_shr0 (x : Int32) : (0 : Int32) >>> x = 0 := by
  apply Int32.toBitVec_inj.mp
  simp [Int32.toBitVec_shiftRight]
theorem ar_and0 (x : Int32) : (0 : Int32) &&& x = 0 := by
  apply Int32.toBitVec_inj.mp
  simp
def md_in (x y z : Int32) : Int32 := if x < y then 0 else if z < x then 0 else 1
theorem md_in_e (x : Int32) : md_in x 0 (-1) = 0 := by
  unfold md_in
  by_cases h : x < 0
  · rw [if_pos h]
  · rw [if_neg h, if_pos (by simp only [ar_lt, ar_n0, ar_nm1] at h ⊢; omega)]
def sp_told (x : Int32) : Int32 := if x = 0 then 0 else if x = 1 then 0 else if x = 2 then 0 else if x = 3 then 0 else if x = 4 then -1 else if x = 5 then 0 else if x = 6 then -1 else -1000000
/-! the worlds of the class's object and of the model's -/
abbrev fx (a : Nat → Nat) (cA : Nat → ClassId) (f : Nat → Nat → Int32) (n : Int32) : va_W := [((a 0), .inr (10, [.ref (a 1), .ref (a 3), .ref (a 40), .int 0, .int (-1), .ref (a 4), .ref (a 5), .ref (a 6), .ref (a 7), .ref (a 8), .ref (a 9), .ref (a 10), .null, .null, .int 0, .int (-1), .ref (a 41)])), ((a 1), .inr (6, [.ref (a 2), .int n, .int 0])), ((a 2), .inl ((cA 2), 160, .inl (f 2))), ((a 3), .inr (3, [.ref (a 1), .ref (a 42), .int 0, .int 0])), ((a 4), .inr (4, [.int 0, .int 0, .ref (a 43), .ref (a 44), .ref (a 45), .ref (a 46), .ref (a 47), .ref (a 48), .ref (a 49), .ref (a 50), .ref (a 51)])), ((a 5), .inr (4, [.int 0, .int 0, .ref (a 11), .ref (a 12), .ref (a 13), .ref (a 14), .ref (a 15), .ref (a 16), .ref (a 17), .ref (a 18), .ref (a 19)])), ((a 6), .inr (5, [.ref (a 52), .int 0, .ref (a 53), .int 0, .int 0, .int 0])), ((a 7), .inr (5, [.ref (a 54), .int 0, .ref (a 55), .int 0, .int 0, .int 0])), ((a 8), .inr (1, [.ref (a 56), .int 0, .int 0, .ref (a 57), .int 0, .ref (a 58)])), ((a 9), .inr (7, [.ref (a 59), .ref (a 60), .ref (a 61)])), ((a 11), .inl ((cA 11), 12, .inl (f 11))), ((a 12), .inl ((cA 12), 12, .inl (f 12))), ((a 13), .inl ((cA 13), 144, .inl (f 13))), ((a 14), .inl ((cA 14), 12, .inl (f 14))), ((a 15), .inl ((cA 15), 12, .inl (f 15))), ((a 16), .inl ((cA 16), 12, .inl (f 16))), ((a 17), .inl ((cA 17), 12, .inl (f 17))), ((a 18), .inl ((cA 18), 12, .inl (f 18))), ((a 19), .inl ((cA 19), 144, .inl (f 19)))]
abbrev ft (cA : Nat → ClassId) : List (ClassId × FieldType) := [((cA 2), .int), ((cA 11), .int), ((cA 12), .int), ((cA 13), .int), ((cA 14), .int), ((cA 15), .int), ((cA 16), .int), ((cA 17), .int), ((cA 18), .int), ((cA 19), .int)]
abbrev mo (b : Nat → Nat) (th sz at_ wr dp tx rd rc rm : Int32) : List Value := [.int th, .ref (b 1), .int sz, .int at_, .int wr, .int dp, .ref (b 6), .ref (b 7), .ref (b 8), .ref (b 9), .ref (b 10), .ref (b 11), .ref (b 12), .int 0, .int tx, .ref (b 15), .ref (b 16), .ref (b 17), .ref (b 18), .ref (b 19), .int rd, .int rc, .ref (b 22), .ref (b 23), .ref (b 24), .int 0, .int 0, .ref (b 27), .int rm, .ref (b 29), .int (-1), .ref (b 31), .ref (b 32), .int (-1), .ref (b 34), .ref (b 35), .int 0, .int 0, .ref (b 38), .ref (b 39), .ref (b 40), .ref (b 41), .ref (b 42), .ref (b 43), .ref (b 44), .ref (b 45), .ref (b 46), .ref (b 47), .int 0, .int 0, .ref (b 50), .ref (b 51), .ref (b 52), .ref (b 53), .ref (b 54), .int (-1), .int 0, .ref (b 57), .ref (b 58), .ref (b 59), .ref (b 60), .ref (b 61), .ref (b 62), .int 0, .int 0, .int 0]
abbrev fm (b : Nat → Nat) (cB : Nat → ClassId) (f : Nat → Nat → Int32) (th sz at_ wr dp tx rd rc rm : Int32) : va_W := [((b 0), .inr (11, [.int th, .ref (b 1), .int sz, .int at_, .int wr, .int dp, .ref (b 6), .ref (b 7), .ref (b 8), .ref (b 9), .ref (b 10), .ref (b 11), .ref (b 12), .int 0, .int tx, .ref (b 15), .ref (b 16), .ref (b 17), .ref (b 18), .ref (b 19), .int rd, .int rc, .ref (b 22), .ref (b 23), .ref (b 24), .int 0, .int 0, .ref (b 27), .int rm, .ref (b 29), .int (-1), .ref (b 31), .ref (b 32), .int (-1), .ref (b 34), .ref (b 35), .int 0, .int 0, .ref (b 38), .ref (b 39), .ref (b 40), .ref (b 41), .ref (b 42), .ref (b 43), .ref (b 44), .ref (b 45), .ref (b 46), .ref (b 47), .int 0, .int 0, .ref (b 50), .ref (b 51), .ref (b 52), .ref (b 53), .ref (b 54), .int (-1), .int 0, .ref (b 57), .ref (b 58), .ref (b 59), .ref (b 60), .ref (b 61), .ref (b 62), .int 0, .int 0, .int 0])), ((b 1), .inl ((cB 1), 160, .inl (f 1))), ((b 8), .inl ((cB 8), 5, .inl (f 8))), ((b 9), .inl ((cB 9), 5, .inl (f 9))), ((b 19), .inl ((cB 19), 12, .inl (f 19)))]
abbrev fmt (cB : Nat → ClassId) : List (ClassId × FieldType) := [((cB 1), .int), ((cB 8), .int), ((cB 9), .int), ((cB 19), .int)]

def gl_0 : List Cond := [Cond.fieldLink RX4 39 "DeskMoves$Office" "desks" "I", Cond.fieldLink RX4 43 "DeskMoves$Office" "clerks" "I", Cond.instanceMethod yX4_hasDesk, Cond.selects RX4 yX4_hasDesk yX4_hasDesk, Cond.initialized RX4, Cond.code yX4_hasDesk cX4_hasDesk 2 (some .boolean), Cond.methodLink RX4 97 yX4_hasDesk, Cond.instanceMethod yX4_hasClerk, Cond.selects RX4 yX4_hasClerk yX4_hasClerk, Cond.code yX4_hasClerk cX4_hasClerk 2 (some .boolean), Cond.methodLink RX4 88 yX4_hasClerk, Cond.fieldLink RX7 21 "DeskMoves$Office" "desks" "I", Cond.fieldLink RX1 21 "DeskMoves$Diary" "size" "I", Cond.fieldLink RX10 38 "DeskMoves" "office" "LDeskMoves$Office;", Cond.fieldLink RX10 160 "DeskMoves$Office" "desks" "I", Cond.instanceMethod yX4_lengthBetween, Cond.selects RX4 yX4_lengthBetween yX4_lengthBetween, Cond.code yX4_lengthBetween cX4_lengthBetween 3 (some .int), Cond.methodLink RX10 132 yX4_lengthBetween, Cond.methodLink RX10 136 yX4_hasClerk, Cond.fieldLink RX10 31 "DeskMoves" "holding" "I", Cond.instanceMethod yX10_lawOf, Cond.selects RX10 yX10_lawOf yX10_lawOf, Cond.initialized RX10, Cond.code yX10_lawOf cX10_lawOf 2 (some (.object "DeskMoves$Law")), Cond.methodLink RX10 169 yX10_lawOf, Cond.instanceMethod yX4_hindrance, Cond.selects RX4 yX4_hindrance yX4_hindrance, Cond.code yX4_hindrance cX4_hindrance 5 (some .int), Cond.methodLink RX10 173 yX4_hindrance, Cond.fieldLink RX10 58 "DeskMoves" "book" "LDeskMoves$Diary;", Cond.fieldLink RX10 188 "DeskMoves$Diary" "size" "I", Cond.instanceMethod yX1_moveAt, Cond.selects RX1 yX1_moveAt yX1_moveAt, Cond.initialized RX1, Cond.code yX1_moveAt cX1_moveAt 2 (some .int), Cond.methodLink RX10 195 yX1_moveAt, Cond.fieldLink RX10 48 "DeskMoves" "plan" "LDeskMoves$Plan;", Cond.fieldLink RX10 198 "DeskMoves$Plan" "size" "I", Cond.constant RX10 199 (-1000000)]
def gl_1 : List Cond := [Cond.methodLink RX10 122 yX4_hasDesk, Cond.instanceMethod yX10_isSearched, Cond.selects RX10 yX10_isSearched yX10_isSearched, Cond.code yX10_isSearched cX10_isSearched 1 (some .boolean), Cond.methodLink RX10 223 yX10_isSearched, Cond.fieldLink RX10 65 "DeskMoves" "turns" "LDeskMoves$Turns;", Cond.instanceMethod yX7_kindOf, Cond.selects RX7 yX7_kindOf yX7_kindOf, Cond.initialized RX7, Cond.code yX7_kindOf cX7_kindOf 5 (some .int), Cond.methodLink RX10 263 yX7_kindOf, Cond.fieldLink RX10 317 "DeskMoves$Diary" "kept" "Z", Cond.fieldLink RX10 324 "DeskMoves$Office" "clerks" "I", Cond.fieldLink RX10 163 "DeskMoves" "lawCount" "I", Cond.fieldLink RX10 10 "DeskMoves" "tape" "LDeskMoves$Tape;", Cond.fieldLink RX10 93 "DeskMoves$Tape" "length" "I", Cond.fieldLink RX11 303 "DeskMovesModel" "desks" "I", Cond.static yX11_in, Cond.initialized RX11, Cond.code yX11_in cX11_in 3 (some .boolean), Cond.methodLink RX11 274 yX11_in, Cond.instanceMethod yX11_isClerk, Cond.selects RX11 yX11_isClerk yX11_isClerk, Cond.code yX11_isClerk cX11_isClerk 2 (some .boolean), Cond.methodLink RX11 328 yX11_isClerk, Cond.instanceMethod yX11_isDesk, Cond.selects RX11 yX11_isDesk yX11_isDesk, Cond.code yX11_isDesk cX11_isDesk 2 (some .boolean), Cond.methodLink RX11 325 yX11_isDesk, Cond.fieldLink RX11 49 "DeskMovesModel" "seat" "[I", Cond.instanceMethod yX11_bars, Cond.selects RX11 yX11_bars yX11_bars, Cond.code yX11_bars cX11_bars 5 (some .int), Cond.methodLink RX11 346 yX11_bars, Cond.fieldLink RX11 309 "DeskMovesModel" "diaryMany" "I", Cond.fieldLink RX11 64 "DeskMovesModel" "planMoves" "I", Cond.constant RX11 356 (-1000000), Cond.instanceMethod yX11_isSmall, Cond.selects RX11 yX11_isSmall yX11_isSmall, Cond.code yX11_isSmall cX11_isSmall 1 (some .boolean)]
def gl_2 : List Cond := [Cond.methodLink RX11 394 yX11_isSmall, Cond.fieldLink RX11 315 "DeskMovesModel" "hasImage" "Z", Cond.fieldLink RX11 306 "DeskMovesModel" "clerks" "I", Cond.fieldLink RX11 322 "DeskMovesModel" "laws" "I", Cond.fieldLink RX11 160 "DeskMovesModel" "size" "I", Cond.fieldLink RX11 74 "DeskMovesModel" "holding" "I", Cond.fieldLink RX11 153 "DeskMovesModel" "thrown" "I", Cond.fieldLink RX6 17 "DeskMoves$Tape" "at" "I", Cond.fieldLink RX6 13 "DeskMoves$Tape" "length" "I", Cond.instanceMethod yX6_look, Cond.selects RX6 yX6_look yX6_look, Cond.initialized RX6, Cond.code yX6_look cX6_look 1 (some .int), Cond.methodLink RX6 20 yX6_look, Cond.fieldLink RX3 15 "DeskMoves$LawReader" "tape" "LDeskMoves$Tape;", Cond.instanceMethod yX6_takes, Cond.selects RX6 yX6_takes yX6_takes, Cond.code yX6_takes cX6_takes 2 (some .boolean), Cond.methodLink RX3 38 yX6_takes, Cond.fieldLink RX3 19 "DeskMoves$Tape" "at" "I", Cond.fieldLink RX3 23 "DeskMoves$LawReader" "size" "I", Cond.fieldLink RX3 26 "DeskMoves$LawReader" "looksBeside" "Z", Cond.instanceMethod yX3_readClause, Cond.selects RX3 yX3_readClause yX3_readClause, Cond.initialized RX3, Cond.code yX3_readClause cX3_readClause 3 (some .boolean), Cond.methodLink RX3 30 yX3_readClause, Cond.fieldLink RX5 18 "DeskMoves$Plan" "size" "I", Cond.fieldLink RX5 22 "DeskMoves$Tape" "at" "I", Cond.methodLink RX5 27 yX6_look, Cond.methodLink RX4 67 yX6_look, Cond.instanceMethod yX4_addDesk, Cond.selects RX4 yX4_addDesk yX4_addDesk, Cond.code yX4_addDesk cX4_addDesk 4 (some .boolean), Cond.methodLink RX4 79 yX4_addDesk, Cond.fieldLink RX4 9 "DeskMoves$Office" "seat" "[I", Cond.static yJ7_fill_53178, Cond.initialized RJ7, Cond.code yJ7_fill_53178 cJ7_fill_53178 4 none, Cond.methodLink RX4 46 yJ7_fill_53178]
def gl_3 : List Cond := [Cond.fieldLink RX4 15 "DeskMoves$Office" "place" "[I", Cond.fieldLink RX4 18 "DeskMoves$Office" "lengths" "[I", Cond.fieldLink RX4 21 "DeskMoves$Office" "beside" "[I", Cond.fieldLink RX4 24 "DeskMoves$Office" "foes" "[I", Cond.fieldLink RX4 27 "DeskMoves$Office" "rank" "[I", Cond.fieldLink RX4 30 "DeskMoves$Office" "papers" "[I", Cond.fieldLink RX4 33 "DeskMoves$Office" "wishes" "[I", Cond.fieldLink RX4 36 "DeskMoves$Office" "worths" "[I", Cond.instanceMethod yX4_clear, Cond.selects RX4 yX4_clear yX4_clear, Cond.code yX4_clear cX4_clear 1 none, Cond.methodLink RX4 52 yX4_clear, Cond.fieldLink RX4 55 "DeskMoves$Tape" "at" "I", Cond.instanceMethod yX4_readSeats, Cond.selects RX4 yX4_readSeats yX4_readSeats, Cond.code yX4_readSeats cX4_readSeats 4 (some .boolean), Cond.methodLink RX4 60 yX4_readSeats]
abbrev gf : List Cond := wsX10 ++ (wsX30 ++ (wsX40 ++ (wsX50 ++ (wsX60 ++ (wsX70 ++ (wsX100 ++ (wsX110)))))))
def gw : List Cond := gl_0 ++ (gl_1 ++ (gl_2 ++ (gl_3 ++ (gf))))
theorem gl_0_in : ∀ w ∈ gl_0, w ∈ gw := fun w h => by unfold gw; exact List.mem_append_left _ h
theorem gl_1_in : ∀ w ∈ gl_1, w ∈ gw := fun w h => by unfold gw; exact List.mem_append_right _ (List.mem_append_left _ h)
theorem gl_2_in : ∀ w ∈ gl_2, w ∈ gw := fun w h => by unfold gw; exact List.mem_append_right _ (List.mem_append_right _ (List.mem_append_left _ h))
theorem gl_3_in : ∀ w ∈ gl_3, w ∈ gw := fun w h => by unfold gw; exact List.mem_append_right _ (List.mem_append_right _ (List.mem_append_right _ (List.mem_append_left _ h)))
theorem gf_in : ∀ w ∈ gf, w ∈ gw := fun w h => by unfold gw; exact List.mem_append_right _ (List.mem_append_right _ (List.mem_append_right _ (List.mem_append_right _ (h))))
theorem in_X1 : ∀ w ∈ u_ws RX1 TX1 6, w ∈ gw := fun w h => gf_in w (List.mem_append_left _ h)
theorem in_X3 : ∀ w ∈ u_ws RX3 TX3 4, w ∈ gw := fun w h => gf_in w (List.mem_append_right _ (List.mem_append_left _ h))
theorem in_X4 : ∀ w ∈ u_ws RX4 TX4 11, w ∈ gw := fun w h => gf_in w (List.mem_append_right _ (List.mem_append_right _ (List.mem_append_left _ h)))
theorem in_X5 : ∀ w ∈ u_ws RX5 TX5 6, w ∈ gw := fun w h => gf_in w (List.mem_append_right _ (List.mem_append_right _ (List.mem_append_right _ (List.mem_append_left _ h))))
theorem in_X6 : ∀ w ∈ u_ws RX6 TX6 3, w ∈ gw := fun w h => gf_in w (List.mem_append_right _ (List.mem_append_right _ (List.mem_append_right _ (List.mem_append_right _ (List.mem_append_left _ h)))))
theorem in_X7 : ∀ w ∈ u_ws RX7 TX7 3, w ∈ gw := fun w h => gf_in w (List.mem_append_right _ (List.mem_append_right _ (List.mem_append_right _ (List.mem_append_right _ (List.mem_append_right _ (List.mem_append_left _ h))))))
theorem in_X10 : ∀ w ∈ u_ws RX10 TX10 17, w ∈ gw := fun w h => gf_in w (List.mem_append_right _ (List.mem_append_right _ (List.mem_append_right _ (List.mem_append_right _ (List.mem_append_right _ (List.mem_append_right _ (List.mem_append_left _ h)))))))
theorem in_X11 : ∀ w ∈ u_ws RX11 TX11 66, w ∈ gw := fun w h => gf_in w (List.mem_append_right _ (List.mem_append_right _ (List.mem_append_right _ (List.mem_append_right _ (List.mem_append_right _ (List.mem_append_right _ (List.mem_append_right _ (h))))))))
theorem mw_0 : Cond.fieldLink RX4 39 "DeskMoves$Office" "desks" "I" ∈ gw := gl_0_in _ (List.mem_of_getElem? (i := 0) rfl)
theorem mw_1 : Cond.fieldLink RX4 43 "DeskMoves$Office" "clerks" "I" ∈ gw := gl_0_in _ (List.mem_of_getElem? (i := 1) rfl)
theorem mw_2 : Cond.instanceMethod yX4_hasDesk ∈ gw := gl_0_in _ (List.mem_of_getElem? (i := 2) rfl)
theorem mw_3 : Cond.selects RX4 yX4_hasDesk yX4_hasDesk ∈ gw := gl_0_in _ (List.mem_of_getElem? (i := 3) rfl)
theorem mw_4 : Cond.initialized RX4 ∈ gw := gl_0_in _ (List.mem_of_getElem? (i := 4) rfl)
theorem mw_5 : Cond.code yX4_hasDesk cX4_hasDesk 2 (some .boolean) ∈ gw := gl_0_in _ (List.mem_of_getElem? (i := 5) rfl)
theorem mw_6 : Cond.methodLink RX4 97 yX4_hasDesk ∈ gw := gl_0_in _ (List.mem_of_getElem? (i := 6) rfl)
theorem mw_7 : Cond.instanceMethod yX4_hasClerk ∈ gw := gl_0_in _ (List.mem_of_getElem? (i := 7) rfl)
theorem mw_8 : Cond.selects RX4 yX4_hasClerk yX4_hasClerk ∈ gw := gl_0_in _ (List.mem_of_getElem? (i := 8) rfl)
theorem mw_9 : Cond.code yX4_hasClerk cX4_hasClerk 2 (some .boolean) ∈ gw := gl_0_in _ (List.mem_of_getElem? (i := 9) rfl)
theorem mw_10 : Cond.methodLink RX4 88 yX4_hasClerk ∈ gw := gl_0_in _ (List.mem_of_getElem? (i := 10) rfl)
theorem mw_11 : Cond.fieldLink RX7 21 "DeskMoves$Office" "desks" "I" ∈ gw := gl_0_in _ (List.mem_of_getElem? (i := 11) rfl)
theorem mw_12 : Cond.fieldLink RX1 21 "DeskMoves$Diary" "size" "I" ∈ gw := gl_0_in _ (List.mem_of_getElem? (i := 12) rfl)
theorem mw_13 : Cond.fieldLink RX10 38 "DeskMoves" "office" "LDeskMoves$Office;" ∈ gw := gl_0_in _ (List.mem_of_getElem? (i := 13) rfl)
theorem mw_14 : Cond.fieldLink RX10 160 "DeskMoves$Office" "desks" "I" ∈ gw := gl_0_in _ (List.mem_of_getElem? (i := 14) rfl)
theorem mw_15 : Cond.instanceMethod yX4_lengthBetween ∈ gw := gl_0_in _ (List.mem_of_getElem? (i := 15) rfl)
theorem mw_16 : Cond.selects RX4 yX4_lengthBetween yX4_lengthBetween ∈ gw := gl_0_in _ (List.mem_of_getElem? (i := 16) rfl)
theorem mw_17 : Cond.code yX4_lengthBetween cX4_lengthBetween 3 (some .int) ∈ gw := gl_0_in _ (List.mem_of_getElem? (i := 17) rfl)
theorem mw_18 : Cond.methodLink RX10 132 yX4_lengthBetween ∈ gw := gl_0_in _ (List.mem_of_getElem? (i := 18) rfl)
theorem mw_19 : Cond.methodLink RX10 136 yX4_hasClerk ∈ gw := gl_0_in _ (List.mem_of_getElem? (i := 19) rfl)
theorem mw_20 : Cond.fieldLink RX10 31 "DeskMoves" "holding" "I" ∈ gw := gl_0_in _ (List.mem_of_getElem? (i := 20) rfl)
theorem mw_21 : Cond.instanceMethod yX10_lawOf ∈ gw := gl_0_in _ (List.mem_of_getElem? (i := 21) rfl)
theorem mw_22 : Cond.selects RX10 yX10_lawOf yX10_lawOf ∈ gw := gl_0_in _ (List.mem_of_getElem? (i := 22) rfl)
theorem mw_23 : Cond.initialized RX10 ∈ gw := gl_0_in _ (List.mem_of_getElem? (i := 23) rfl)
theorem mw_24 : Cond.code yX10_lawOf cX10_lawOf 2 (some (.object "DeskMoves$Law")) ∈ gw := gl_0_in _ (List.mem_of_getElem? (i := 24) rfl)
theorem mw_25 : Cond.methodLink RX10 169 yX10_lawOf ∈ gw := gl_0_in _ (List.mem_of_getElem? (i := 25) rfl)
theorem mw_26 : Cond.instanceMethod yX4_hindrance ∈ gw := gl_0_in _ (List.mem_of_getElem? (i := 26) rfl)
theorem mw_27 : Cond.selects RX4 yX4_hindrance yX4_hindrance ∈ gw := gl_0_in _ (List.mem_of_getElem? (i := 27) rfl)
theorem mw_28 : Cond.code yX4_hindrance cX4_hindrance 5 (some .int) ∈ gw := gl_0_in _ (List.mem_of_getElem? (i := 28) rfl)
theorem mw_29 : Cond.methodLink RX10 173 yX4_hindrance ∈ gw := gl_0_in _ (List.mem_of_getElem? (i := 29) rfl)
theorem mw_30 : Cond.fieldLink RX10 58 "DeskMoves" "book" "LDeskMoves$Diary;" ∈ gw := gl_0_in _ (List.mem_of_getElem? (i := 30) rfl)
theorem mw_31 : Cond.fieldLink RX10 188 "DeskMoves$Diary" "size" "I" ∈ gw := gl_0_in _ (List.mem_of_getElem? (i := 31) rfl)
theorem mw_32 : Cond.instanceMethod yX1_moveAt ∈ gw := gl_0_in _ (List.mem_of_getElem? (i := 32) rfl)
theorem mw_33 : Cond.selects RX1 yX1_moveAt yX1_moveAt ∈ gw := gl_0_in _ (List.mem_of_getElem? (i := 33) rfl)
theorem mw_34 : Cond.initialized RX1 ∈ gw := gl_0_in _ (List.mem_of_getElem? (i := 34) rfl)
theorem mw_35 : Cond.code yX1_moveAt cX1_moveAt 2 (some .int) ∈ gw := gl_0_in _ (List.mem_of_getElem? (i := 35) rfl)
theorem mw_36 : Cond.methodLink RX10 195 yX1_moveAt ∈ gw := gl_0_in _ (List.mem_of_getElem? (i := 36) rfl)
theorem mw_37 : Cond.fieldLink RX10 48 "DeskMoves" "plan" "LDeskMoves$Plan;" ∈ gw := gl_0_in _ (List.mem_of_getElem? (i := 37) rfl)
theorem mw_38 : Cond.fieldLink RX10 198 "DeskMoves$Plan" "size" "I" ∈ gw := gl_0_in _ (List.mem_of_getElem? (i := 38) rfl)
theorem mw_39 : Cond.constant RX10 199 (-1000000) ∈ gw := gl_0_in _ (List.mem_of_getElem? (i := 39) rfl)
theorem mw_40 : Cond.methodLink RX10 122 yX4_hasDesk ∈ gw := gl_1_in _ (List.mem_of_getElem? (i := 0) rfl)
theorem mw_41 : Cond.instanceMethod yX10_isSearched ∈ gw := gl_1_in _ (List.mem_of_getElem? (i := 1) rfl)
theorem mw_42 : Cond.selects RX10 yX10_isSearched yX10_isSearched ∈ gw := gl_1_in _ (List.mem_of_getElem? (i := 2) rfl)
theorem mw_43 : Cond.code yX10_isSearched cX10_isSearched 1 (some .boolean) ∈ gw := gl_1_in _ (List.mem_of_getElem? (i := 3) rfl)
theorem mw_44 : Cond.methodLink RX10 223 yX10_isSearched ∈ gw := gl_1_in _ (List.mem_of_getElem? (i := 4) rfl)
theorem mw_45 : Cond.fieldLink RX10 65 "DeskMoves" "turns" "LDeskMoves$Turns;" ∈ gw := gl_1_in _ (List.mem_of_getElem? (i := 5) rfl)
theorem mw_46 : Cond.instanceMethod yX7_kindOf ∈ gw := gl_1_in _ (List.mem_of_getElem? (i := 6) rfl)
theorem mw_47 : Cond.selects RX7 yX7_kindOf yX7_kindOf ∈ gw := gl_1_in _ (List.mem_of_getElem? (i := 7) rfl)
theorem mw_48 : Cond.initialized RX7 ∈ gw := gl_1_in _ (List.mem_of_getElem? (i := 8) rfl)
theorem mw_49 : Cond.code yX7_kindOf cX7_kindOf 5 (some .int) ∈ gw := gl_1_in _ (List.mem_of_getElem? (i := 9) rfl)
theorem mw_50 : Cond.methodLink RX10 263 yX7_kindOf ∈ gw := gl_1_in _ (List.mem_of_getElem? (i := 10) rfl)
theorem mw_51 : Cond.fieldLink RX10 317 "DeskMoves$Diary" "kept" "Z" ∈ gw := gl_1_in _ (List.mem_of_getElem? (i := 11) rfl)
theorem mw_52 : Cond.fieldLink RX10 324 "DeskMoves$Office" "clerks" "I" ∈ gw := gl_1_in _ (List.mem_of_getElem? (i := 12) rfl)
theorem mw_53 : Cond.fieldLink RX10 163 "DeskMoves" "lawCount" "I" ∈ gw := gl_1_in _ (List.mem_of_getElem? (i := 13) rfl)
theorem mw_54 : Cond.fieldLink RX10 10 "DeskMoves" "tape" "LDeskMoves$Tape;" ∈ gw := gl_1_in _ (List.mem_of_getElem? (i := 14) rfl)
theorem mw_55 : Cond.fieldLink RX10 93 "DeskMoves$Tape" "length" "I" ∈ gw := gl_1_in _ (List.mem_of_getElem? (i := 15) rfl)
theorem mw_56 : Cond.fieldLink RX11 303 "DeskMovesModel" "desks" "I" ∈ gw := gl_1_in _ (List.mem_of_getElem? (i := 16) rfl)
theorem mw_57 : Cond.static yX11_in ∈ gw := gl_1_in _ (List.mem_of_getElem? (i := 17) rfl)
theorem mw_58 : Cond.initialized RX11 ∈ gw := gl_1_in _ (List.mem_of_getElem? (i := 18) rfl)
theorem mw_59 : Cond.code yX11_in cX11_in 3 (some .boolean) ∈ gw := gl_1_in _ (List.mem_of_getElem? (i := 19) rfl)
theorem mw_60 : Cond.methodLink RX11 274 yX11_in ∈ gw := gl_1_in _ (List.mem_of_getElem? (i := 20) rfl)
theorem mw_61 : Cond.instanceMethod yX11_isClerk ∈ gw := gl_1_in _ (List.mem_of_getElem? (i := 21) rfl)
theorem mw_62 : Cond.selects RX11 yX11_isClerk yX11_isClerk ∈ gw := gl_1_in _ (List.mem_of_getElem? (i := 22) rfl)
theorem mw_63 : Cond.code yX11_isClerk cX11_isClerk 2 (some .boolean) ∈ gw := gl_1_in _ (List.mem_of_getElem? (i := 23) rfl)
theorem mw_64 : Cond.methodLink RX11 328 yX11_isClerk ∈ gw := gl_1_in _ (List.mem_of_getElem? (i := 24) rfl)
theorem mw_65 : Cond.instanceMethod yX11_isDesk ∈ gw := gl_1_in _ (List.mem_of_getElem? (i := 25) rfl)
theorem mw_66 : Cond.selects RX11 yX11_isDesk yX11_isDesk ∈ gw := gl_1_in _ (List.mem_of_getElem? (i := 26) rfl)
theorem mw_67 : Cond.code yX11_isDesk cX11_isDesk 2 (some .boolean) ∈ gw := gl_1_in _ (List.mem_of_getElem? (i := 27) rfl)
theorem mw_68 : Cond.methodLink RX11 325 yX11_isDesk ∈ gw := gl_1_in _ (List.mem_of_getElem? (i := 28) rfl)
theorem mw_69 : Cond.fieldLink RX11 49 "DeskMovesModel" "seat" "[I" ∈ gw := gl_1_in _ (List.mem_of_getElem? (i := 29) rfl)
theorem mw_70 : Cond.instanceMethod yX11_bars ∈ gw := gl_1_in _ (List.mem_of_getElem? (i := 30) rfl)
theorem mw_71 : Cond.selects RX11 yX11_bars yX11_bars ∈ gw := gl_1_in _ (List.mem_of_getElem? (i := 31) rfl)
theorem mw_72 : Cond.code yX11_bars cX11_bars 5 (some .int) ∈ gw := gl_1_in _ (List.mem_of_getElem? (i := 32) rfl)
theorem mw_73 : Cond.methodLink RX11 346 yX11_bars ∈ gw := gl_1_in _ (List.mem_of_getElem? (i := 33) rfl)
theorem mw_74 : Cond.fieldLink RX11 309 "DeskMovesModel" "diaryMany" "I" ∈ gw := gl_1_in _ (List.mem_of_getElem? (i := 34) rfl)
theorem mw_75 : Cond.fieldLink RX11 64 "DeskMovesModel" "planMoves" "I" ∈ gw := gl_1_in _ (List.mem_of_getElem? (i := 35) rfl)
theorem mw_76 : Cond.constant RX11 356 (-1000000) ∈ gw := gl_1_in _ (List.mem_of_getElem? (i := 36) rfl)
theorem mw_77 : Cond.instanceMethod yX11_isSmall ∈ gw := gl_1_in _ (List.mem_of_getElem? (i := 37) rfl)
theorem mw_78 : Cond.selects RX11 yX11_isSmall yX11_isSmall ∈ gw := gl_1_in _ (List.mem_of_getElem? (i := 38) rfl)
theorem mw_79 : Cond.code yX11_isSmall cX11_isSmall 1 (some .boolean) ∈ gw := gl_1_in _ (List.mem_of_getElem? (i := 39) rfl)
theorem mw_80 : Cond.methodLink RX11 394 yX11_isSmall ∈ gw := gl_2_in _ (List.mem_of_getElem? (i := 0) rfl)
theorem mw_81 : Cond.fieldLink RX11 315 "DeskMovesModel" "hasImage" "Z" ∈ gw := gl_2_in _ (List.mem_of_getElem? (i := 1) rfl)
theorem mw_82 : Cond.fieldLink RX11 306 "DeskMovesModel" "clerks" "I" ∈ gw := gl_2_in _ (List.mem_of_getElem? (i := 2) rfl)
theorem mw_83 : Cond.fieldLink RX11 322 "DeskMovesModel" "laws" "I" ∈ gw := gl_2_in _ (List.mem_of_getElem? (i := 3) rfl)
theorem mw_84 : Cond.fieldLink RX11 160 "DeskMovesModel" "size" "I" ∈ gw := gl_2_in _ (List.mem_of_getElem? (i := 4) rfl)
theorem mw_85 : Cond.fieldLink RX11 74 "DeskMovesModel" "holding" "I" ∈ gw := gl_2_in _ (List.mem_of_getElem? (i := 5) rfl)
theorem mw_86 : Cond.fieldLink RX11 153 "DeskMovesModel" "thrown" "I" ∈ gw := gl_2_in _ (List.mem_of_getElem? (i := 6) rfl)
theorem mw_87 : Cond.fieldLink RX6 17 "DeskMoves$Tape" "at" "I" ∈ gw := gl_2_in _ (List.mem_of_getElem? (i := 7) rfl)
theorem mw_88 : Cond.fieldLink RX6 13 "DeskMoves$Tape" "length" "I" ∈ gw := gl_2_in _ (List.mem_of_getElem? (i := 8) rfl)
theorem mw_89 : Cond.instanceMethod yX6_look ∈ gw := gl_2_in _ (List.mem_of_getElem? (i := 9) rfl)
theorem mw_90 : Cond.selects RX6 yX6_look yX6_look ∈ gw := gl_2_in _ (List.mem_of_getElem? (i := 10) rfl)
theorem mw_91 : Cond.initialized RX6 ∈ gw := gl_2_in _ (List.mem_of_getElem? (i := 11) rfl)
theorem mw_92 : Cond.code yX6_look cX6_look 1 (some .int) ∈ gw := gl_2_in _ (List.mem_of_getElem? (i := 12) rfl)
theorem mw_93 : Cond.methodLink RX6 20 yX6_look ∈ gw := gl_2_in _ (List.mem_of_getElem? (i := 13) rfl)
theorem mw_94 : Cond.fieldLink RX3 15 "DeskMoves$LawReader" "tape" "LDeskMoves$Tape;" ∈ gw := gl_2_in _ (List.mem_of_getElem? (i := 14) rfl)
theorem mw_95 : Cond.instanceMethod yX6_takes ∈ gw := gl_2_in _ (List.mem_of_getElem? (i := 15) rfl)
theorem mw_96 : Cond.selects RX6 yX6_takes yX6_takes ∈ gw := gl_2_in _ (List.mem_of_getElem? (i := 16) rfl)
theorem mw_97 : Cond.code yX6_takes cX6_takes 2 (some .boolean) ∈ gw := gl_2_in _ (List.mem_of_getElem? (i := 17) rfl)
theorem mw_98 : Cond.methodLink RX3 38 yX6_takes ∈ gw := gl_2_in _ (List.mem_of_getElem? (i := 18) rfl)
theorem mw_99 : Cond.fieldLink RX3 19 "DeskMoves$Tape" "at" "I" ∈ gw := gl_2_in _ (List.mem_of_getElem? (i := 19) rfl)
theorem mw_100 : Cond.fieldLink RX3 23 "DeskMoves$LawReader" "size" "I" ∈ gw := gl_2_in _ (List.mem_of_getElem? (i := 20) rfl)
theorem mw_101 : Cond.fieldLink RX3 26 "DeskMoves$LawReader" "looksBeside" "Z" ∈ gw := gl_2_in _ (List.mem_of_getElem? (i := 21) rfl)
theorem mw_102 : Cond.instanceMethod yX3_readClause ∈ gw := gl_2_in _ (List.mem_of_getElem? (i := 22) rfl)
theorem mw_103 : Cond.selects RX3 yX3_readClause yX3_readClause ∈ gw := gl_2_in _ (List.mem_of_getElem? (i := 23) rfl)
theorem mw_104 : Cond.initialized RX3 ∈ gw := gl_2_in _ (List.mem_of_getElem? (i := 24) rfl)
theorem mw_105 : Cond.code yX3_readClause cX3_readClause 3 (some .boolean) ∈ gw := gl_2_in _ (List.mem_of_getElem? (i := 25) rfl)
theorem mw_106 : Cond.methodLink RX3 30 yX3_readClause ∈ gw := gl_2_in _ (List.mem_of_getElem? (i := 26) rfl)
theorem mw_107 : Cond.fieldLink RX5 18 "DeskMoves$Plan" "size" "I" ∈ gw := gl_2_in _ (List.mem_of_getElem? (i := 27) rfl)
theorem mw_108 : Cond.fieldLink RX5 22 "DeskMoves$Tape" "at" "I" ∈ gw := gl_2_in _ (List.mem_of_getElem? (i := 28) rfl)
theorem mw_109 : Cond.methodLink RX5 27 yX6_look ∈ gw := gl_2_in _ (List.mem_of_getElem? (i := 29) rfl)
theorem mw_110 : Cond.methodLink RX4 67 yX6_look ∈ gw := gl_2_in _ (List.mem_of_getElem? (i := 30) rfl)
theorem mw_111 : Cond.instanceMethod yX4_addDesk ∈ gw := gl_2_in _ (List.mem_of_getElem? (i := 31) rfl)
theorem mw_112 : Cond.selects RX4 yX4_addDesk yX4_addDesk ∈ gw := gl_2_in _ (List.mem_of_getElem? (i := 32) rfl)
theorem mw_113 : Cond.code yX4_addDesk cX4_addDesk 4 (some .boolean) ∈ gw := gl_2_in _ (List.mem_of_getElem? (i := 33) rfl)
theorem mw_114 : Cond.methodLink RX4 79 yX4_addDesk ∈ gw := gl_2_in _ (List.mem_of_getElem? (i := 34) rfl)
theorem mw_115 : Cond.fieldLink RX4 9 "DeskMoves$Office" "seat" "[I" ∈ gw := gl_2_in _ (List.mem_of_getElem? (i := 35) rfl)
theorem mw_116 : Cond.static yJ7_fill_53178 ∈ gw := gl_2_in _ (List.mem_of_getElem? (i := 36) rfl)
theorem mw_117 : Cond.initialized RJ7 ∈ gw := gl_2_in _ (List.mem_of_getElem? (i := 37) rfl)
theorem mw_118 : Cond.code yJ7_fill_53178 cJ7_fill_53178 4 none ∈ gw := gl_2_in _ (List.mem_of_getElem? (i := 38) rfl)
theorem mw_119 : Cond.methodLink RX4 46 yJ7_fill_53178 ∈ gw := gl_2_in _ (List.mem_of_getElem? (i := 39) rfl)
theorem mw_120 : Cond.fieldLink RX4 15 "DeskMoves$Office" "place" "[I" ∈ gw := gl_3_in _ (List.mem_of_getElem? (i := 0) rfl)
theorem mw_121 : Cond.fieldLink RX4 18 "DeskMoves$Office" "lengths" "[I" ∈ gw := gl_3_in _ (List.mem_of_getElem? (i := 1) rfl)
theorem mw_122 : Cond.fieldLink RX4 21 "DeskMoves$Office" "beside" "[I" ∈ gw := gl_3_in _ (List.mem_of_getElem? (i := 2) rfl)
theorem mw_123 : Cond.fieldLink RX4 24 "DeskMoves$Office" "foes" "[I" ∈ gw := gl_3_in _ (List.mem_of_getElem? (i := 3) rfl)
theorem mw_124 : Cond.fieldLink RX4 27 "DeskMoves$Office" "rank" "[I" ∈ gw := gl_3_in _ (List.mem_of_getElem? (i := 4) rfl)
theorem mw_125 : Cond.fieldLink RX4 30 "DeskMoves$Office" "papers" "[I" ∈ gw := gl_3_in _ (List.mem_of_getElem? (i := 5) rfl)
theorem mw_126 : Cond.fieldLink RX4 33 "DeskMoves$Office" "wishes" "[I" ∈ gw := gl_3_in _ (List.mem_of_getElem? (i := 6) rfl)
theorem mw_127 : Cond.fieldLink RX4 36 "DeskMoves$Office" "worths" "[I" ∈ gw := gl_3_in _ (List.mem_of_getElem? (i := 7) rfl)
theorem mw_128 : Cond.instanceMethod yX4_clear ∈ gw := gl_3_in _ (List.mem_of_getElem? (i := 8) rfl)
theorem mw_129 : Cond.selects RX4 yX4_clear yX4_clear ∈ gw := gl_3_in _ (List.mem_of_getElem? (i := 9) rfl)
theorem mw_130 : Cond.code yX4_clear cX4_clear 1 none ∈ gw := gl_3_in _ (List.mem_of_getElem? (i := 10) rfl)
theorem mw_131 : Cond.methodLink RX4 52 yX4_clear ∈ gw := gl_3_in _ (List.mem_of_getElem? (i := 11) rfl)
theorem mw_132 : Cond.fieldLink RX4 55 "DeskMoves$Tape" "at" "I" ∈ gw := gl_3_in _ (List.mem_of_getElem? (i := 12) rfl)
theorem mw_133 : Cond.instanceMethod yX4_readSeats ∈ gw := gl_3_in _ (List.mem_of_getElem? (i := 13) rfl)
theorem mw_134 : Cond.selects RX4 yX4_readSeats yX4_readSeats ∈ gw := gl_3_in _ (List.mem_of_getElem? (i := 14) rfl)
theorem mw_135 : Cond.code yX4_readSeats cX4_readSeats 4 (some .boolean) ∈ gw := gl_3_in _ (List.mem_of_getElem? (i := 15) rfl)
theorem mw_136 : Cond.methodLink RX4 60 yX4_readSeats ∈ gw := gl_3_in _ (List.mem_of_getElem? (i := 16) rfl)
set_option maxRecDepth 100000 in
theorem gw_good : gw.all goodWord = true := by decide +kernel
theorem tb_1 : ∀ w ∈ tables_1_1, w ∈ lw_tbl := fun w h => List.mem_append_right _ (show w ∈ tables_1 from by unfold tables_1; exact List.mem_append_left _ h)
theorem tb_2 : ∀ w ∈ tables_1_2, w ∈ lw_tbl := fun w h => List.mem_append_right _ (show w ∈ tables_1 from by unfold tables_1; exact List.mem_append_right _ (List.mem_append_left _ h))
theorem tb_3 : ∀ w ∈ tables_1_3, w ∈ lw_tbl := fun w h => List.mem_append_right _ (show w ∈ tables_1 from by unfold tables_1; exact List.mem_append_right _ (List.mem_append_right _ (List.mem_append_left _ h)))
theorem tb_4 : ∀ w ∈ tables_1_4, w ∈ lw_tbl := fun w h => List.mem_append_right _ (show w ∈ tables_1 from by unfold tables_1; exact List.mem_append_right _ (List.mem_append_right _ (List.mem_append_right _ (List.mem_append_left _ h))))
theorem tb_5 : ∀ w ∈ tables_1_5, w ∈ lw_tbl := fun w h => List.mem_append_right _ (show w ∈ tables_1 from by unfold tables_1; exact List.mem_append_right _ (List.mem_append_right _ (List.mem_append_right _ (List.mem_append_right _ (List.mem_append_left _ h)))))
theorem tb_6 : ∀ w ∈ tables_1_6, w ∈ lw_tbl := fun w h => List.mem_append_right _ (show w ∈ tables_1 from by unfold tables_1; exact List.mem_append_right _ (List.mem_append_right _ (List.mem_append_right _ (List.mem_append_right _ (List.mem_append_right _ (List.mem_append_left _ h))))))
theorem tb_7 : ∀ w ∈ tables_1_7, w ∈ lw_tbl := fun w h => List.mem_append_right _ (show w ∈ tables_1 from by unfold tables_1; exact List.mem_append_right _ (List.mem_append_right _ (List.mem_append_right _ (List.mem_append_right _ (List.mem_append_right _ (List.mem_append_right _ (List.mem_append_left _ h)))))))
theorem tb_8 : ∀ w ∈ tables_1_8, w ∈ lw_tbl := fun w h => List.mem_append_right _ (show w ∈ tables_1 from by unfold tables_1; exact List.mem_append_right _ (List.mem_append_right _ (List.mem_append_right _ (List.mem_append_right _ (List.mem_append_right _ (List.mem_append_right _ (List.mem_append_right _ (List.mem_append_left _ h))))))))
theorem tb_9 : ∀ w ∈ tables_1_9, w ∈ lw_tbl := fun w h => List.mem_append_right _ (show w ∈ tables_1 from by unfold tables_1; exact List.mem_append_right _ (List.mem_append_right _ (List.mem_append_right _ (List.mem_append_right _ (List.mem_append_right _ (List.mem_append_right _ (List.mem_append_right _ (List.mem_append_right _ (h)))))))))
theorem wl_0 : Cond.fieldLink RX4 39 "DeskMoves$Office" "desks" "I" ∈ lw_tbl := tb_1 _ (List.mem_of_getElem? (i := 83) rfl)
theorem wl_1 : Cond.fieldLink RX4 43 "DeskMoves$Office" "clerks" "I" ∈ lw_tbl := tb_1 _ (List.mem_of_getElem? (i := 87) rfl)
theorem wl_2 : Cond.instanceMethod yX4_hasDesk ∈ lw_tbl := tb_2 _ (List.mem_of_getElem? (i := 156) rfl)
theorem wl_3 : Cond.selects RX4 yX4_hasDesk yX4_hasDesk ∈ lw_tbl := tb_2 _ (List.mem_of_getElem? (i := 157) rfl)
theorem wl_4 : Cond.initialized RX4 ∈ lw_tbl := tb_1 _ (List.mem_of_getElem? (i := 4) rfl)
theorem wl_5 : Cond.code yX4_hasDesk cX4_hasDesk 2 (some .boolean) ∈ lw_tbl := tb_2 _ (List.mem_of_getElem? (i := 158) rfl)
theorem wl_6 : Cond.methodLink RX4 97 yX4_hasDesk ∈ lw_tbl := tb_2 _ (List.mem_of_getElem? (i := 155) rfl)
theorem wl_7 : Cond.instanceMethod yX4_hasClerk ∈ lw_tbl := tb_2 _ (List.mem_of_getElem? (i := 144) rfl)
theorem wl_8 : Cond.selects RX4 yX4_hasClerk yX4_hasClerk ∈ lw_tbl := tb_2 _ (List.mem_of_getElem? (i := 145) rfl)
theorem wl_9 : Cond.code yX4_hasClerk cX4_hasClerk 2 (some .boolean) ∈ lw_tbl := tb_2 _ (List.mem_of_getElem? (i := 146) rfl)
theorem wl_10 : Cond.methodLink RX4 88 yX4_hasClerk ∈ lw_tbl := tb_2 _ (List.mem_of_getElem? (i := 143) rfl)
theorem wl_11 : Cond.fieldLink RX7 21 "DeskMoves$Office" "desks" "I" ∈ lw_tbl := tb_1 _ (List.mem_of_getElem? (i := 82) rfl)
theorem wl_12 : Cond.fieldLink RX1 21 "DeskMoves$Diary" "size" "I" ∈ lw_tbl := tb_1 _ (List.mem_of_getElem? (i := 185) rfl)
theorem wl_13 : Cond.fieldLink RX10 38 "DeskMoves" "office" "LDeskMoves$Office;" ∈ lw_tbl := tb_2 _ (List.mem_of_getElem? (i := 41) rfl)
theorem wl_14 : Cond.fieldLink RX10 160 "DeskMoves$Office" "desks" "I" ∈ lw_tbl := tb_1 _ (List.mem_of_getElem? (i := 85) rfl)
theorem wl_15 : Cond.instanceMethod yX4_lengthBetween ∈ lw_tbl := tb_3 _ (List.mem_of_getElem? (i := 115) rfl)
theorem wl_16 : Cond.selects RX4 yX4_lengthBetween yX4_lengthBetween ∈ lw_tbl := tb_3 _ (List.mem_of_getElem? (i := 116) rfl)
theorem wl_17 : Cond.code yX4_lengthBetween cX4_lengthBetween 3 (some .int) ∈ lw_tbl := tb_3 _ (List.mem_of_getElem? (i := 117) rfl)
theorem wl_18 : Cond.methodLink RX10 132 yX4_lengthBetween ∈ lw_tbl := tb_3 _ (List.mem_of_getElem? (i := 114) rfl)
theorem wl_19 : Cond.methodLink RX10 136 yX4_hasClerk ∈ lw_tbl := tb_3 _ (List.mem_of_getElem? (i := 122) rfl)
theorem wl_20 : Cond.fieldLink RX10 31 "DeskMoves" "holding" "I" ∈ lw_tbl := tb_2 _ (List.mem_of_getElem? (i := 40) rfl)
theorem wl_21 : Cond.instanceMethod yX10_lawOf ∈ lw_tbl := tb_3 _ (List.mem_of_getElem? (i := 149) rfl)
theorem wl_22 : Cond.selects RX10 yX10_lawOf yX10_lawOf ∈ lw_tbl := List.mem_append_left _ (by decide +kernel)
theorem wl_23 : Cond.initialized RX10 ∈ lw_tbl := tb_1 _ (List.mem_of_getElem? (i := 1) rfl)
theorem wl_24 : Cond.code yX10_lawOf cX10_lawOf 2 (some (.object "DeskMoves$Law")) ∈ lw_tbl := tb_3 _ (List.mem_of_getElem? (i := 150) rfl)
theorem wl_25 : Cond.methodLink RX10 169 yX10_lawOf ∈ lw_tbl := tb_3 _ (List.mem_of_getElem? (i := 147) rfl)
theorem wl_26 : Cond.instanceMethod yX4_hindrance ∈ lw_tbl := tb_3 _ (List.mem_of_getElem? (i := 152) rfl)
theorem wl_27 : Cond.selects RX4 yX4_hindrance yX4_hindrance ∈ lw_tbl := tb_3 _ (List.mem_of_getElem? (i := 153) rfl)
theorem wl_28 : Cond.code yX4_hindrance cX4_hindrance 5 (some .int) ∈ lw_tbl := tb_3 _ (List.mem_of_getElem? (i := 154) rfl)
theorem wl_29 : Cond.methodLink RX10 173 yX4_hindrance ∈ lw_tbl := tb_3 _ (List.mem_of_getElem? (i := 151) rfl)
theorem wl_30 : Cond.fieldLink RX10 58 "DeskMoves" "book" "LDeskMoves$Diary;" ∈ lw_tbl := tb_2 _ (List.mem_of_getElem? (i := 45) rfl)
theorem wl_31 : Cond.fieldLink RX10 188 "DeskMoves$Diary" "size" "I" ∈ lw_tbl := tb_1 _ (List.mem_of_getElem? (i := 186) rfl)
theorem wl_32 : Cond.instanceMethod yX1_moveAt ∈ lw_tbl := tb_3 _ (List.mem_of_getElem? (i := 212) rfl)
theorem wl_33 : Cond.selects RX1 yX1_moveAt yX1_moveAt ∈ lw_tbl := tb_3 _ (List.mem_of_getElem? (i := 213) rfl)
theorem wl_34 : Cond.initialized RX1 ∈ lw_tbl := tb_1 _ (List.mem_of_getElem? (i := 6) rfl)
theorem wl_35 : Cond.code yX1_moveAt cX1_moveAt 2 (some .int) ∈ lw_tbl := tb_3 _ (List.mem_of_getElem? (i := 214) rfl)
theorem wl_36 : Cond.methodLink RX10 195 yX1_moveAt ∈ lw_tbl := tb_3 _ (List.mem_of_getElem? (i := 211) rfl)
theorem wl_37 : Cond.fieldLink RX10 48 "DeskMoves" "plan" "LDeskMoves$Plan;" ∈ lw_tbl := tb_2 _ (List.mem_of_getElem? (i := 43) rfl)
theorem wl_38 : Cond.fieldLink RX10 198 "DeskMoves$Plan" "size" "I" ∈ lw_tbl := tb_1 _ (List.mem_of_getElem? (i := 157) rfl)
theorem wl_39 : Cond.constant RX10 199 (-1000000) ∈ lw_tbl := tb_3 _ (List.mem_of_getElem? (i := 219) rfl)
theorem wl_40 : Cond.methodLink RX10 122 yX4_hasDesk ∈ lw_tbl := tb_4 _ (List.mem_of_getElem? (i := 6) rfl)
theorem wl_41 : Cond.instanceMethod yX10_isSearched ∈ lw_tbl := tb_4 _ (List.mem_of_getElem? (i := 25) rfl)
theorem wl_42 : Cond.selects RX10 yX10_isSearched yX10_isSearched ∈ lw_tbl := List.mem_append_left _ (by decide +kernel)
theorem wl_43 : Cond.code yX10_isSearched cX10_isSearched 1 (some .boolean) ∈ lw_tbl := tb_4 _ (List.mem_of_getElem? (i := 26) rfl)
theorem wl_44 : Cond.methodLink RX10 223 yX10_isSearched ∈ lw_tbl := tb_4 _ (List.mem_of_getElem? (i := 23) rfl)
theorem wl_45 : Cond.fieldLink RX10 65 "DeskMoves" "turns" "LDeskMoves$Turns;" ∈ lw_tbl := tb_2 _ (List.mem_of_getElem? (i := 46) rfl)
theorem wl_46 : Cond.instanceMethod yX7_kindOf ∈ lw_tbl := tb_5 _ (List.mem_of_getElem? (i := 21) rfl)
theorem wl_47 : Cond.selects RX7 yX7_kindOf yX7_kindOf ∈ lw_tbl := tb_5 _ (List.mem_of_getElem? (i := 22) rfl)
theorem wl_48 : Cond.initialized RX7 ∈ lw_tbl := tb_1 _ (List.mem_of_getElem? (i := 7) rfl)
theorem wl_49 : Cond.code yX7_kindOf cX7_kindOf 5 (some .int) ∈ lw_tbl := tb_5 _ (List.mem_of_getElem? (i := 23) rfl)
theorem wl_50 : Cond.methodLink RX10 263 yX7_kindOf ∈ lw_tbl := tb_5 _ (List.mem_of_getElem? (i := 20) rfl)
theorem wl_51 : Cond.fieldLink RX10 317 "DeskMoves$Diary" "kept" "Z" ∈ lw_tbl := tb_1 _ (List.mem_of_getElem? (i := 188) rfl)
theorem wl_52 : Cond.fieldLink RX10 324 "DeskMoves$Office" "clerks" "I" ∈ lw_tbl := tb_1 _ (List.mem_of_getElem? (i := 90) rfl)
theorem wl_53 : Cond.fieldLink RX10 163 "DeskMoves" "lawCount" "I" ∈ lw_tbl := tb_2 _ (List.mem_of_getElem? (i := 39) rfl)
theorem wl_54 : Cond.fieldLink RX10 10 "DeskMoves" "tape" "LDeskMoves$Tape;" ∈ lw_tbl := tb_2 _ (List.mem_of_getElem? (i := 36) rfl)
theorem wl_55 : Cond.fieldLink RX10 93 "DeskMoves$Tape" "length" "I" ∈ lw_tbl := tb_1 _ (List.mem_of_getElem? (i := 40) rfl)
theorem wl_56 : Cond.fieldLink RX11 303 "DeskMovesModel" "desks" "I" ∈ lw_tbl := tb_6 _ (List.mem_of_getElem? (i := 64) rfl)
theorem wl_57 : Cond.static yX11_in ∈ lw_tbl := tb_7 _ (List.mem_of_getElem? (i := 34) rfl)
theorem wl_58 : Cond.initialized RX11 ∈ lw_tbl := tb_1 _ (List.mem_of_getElem? (i := 10) rfl)
theorem wl_59 : Cond.code yX11_in cX11_in 3 (some .boolean) ∈ lw_tbl := tb_7 _ (List.mem_of_getElem? (i := 35) rfl)
theorem wl_60 : Cond.methodLink RX11 274 yX11_in ∈ lw_tbl := tb_7 _ (List.mem_of_getElem? (i := 33) rfl)
theorem wl_61 : Cond.instanceMethod yX11_isClerk ∈ lw_tbl := tb_7 _ (List.mem_of_getElem? (i := 154) rfl)
theorem wl_62 : Cond.selects RX11 yX11_isClerk yX11_isClerk ∈ lw_tbl := List.mem_append_left _ (by decide +kernel)
theorem wl_63 : Cond.code yX11_isClerk cX11_isClerk 2 (some .boolean) ∈ lw_tbl := tb_7 _ (List.mem_of_getElem? (i := 155) rfl)
theorem wl_64 : Cond.methodLink RX11 328 yX11_isClerk ∈ lw_tbl := tb_7 _ (List.mem_of_getElem? (i := 152) rfl)
theorem wl_65 : Cond.instanceMethod yX11_isDesk ∈ lw_tbl := tb_7 _ (List.mem_of_getElem? (i := 142) rfl)
theorem wl_66 : Cond.selects RX11 yX11_isDesk yX11_isDesk ∈ lw_tbl := List.mem_append_left _ (by decide +kernel)
theorem wl_67 : Cond.code yX11_isDesk cX11_isDesk 2 (some .boolean) ∈ lw_tbl := tb_7 _ (List.mem_of_getElem? (i := 143) rfl)
theorem wl_68 : Cond.methodLink RX11 325 yX11_isDesk ∈ lw_tbl := tb_7 _ (List.mem_of_getElem? (i := 140) rfl)
theorem wl_69 : Cond.fieldLink RX11 49 "DeskMovesModel" "seat" "[I" ∈ lw_tbl := tb_6 _ (List.mem_of_getElem? (i := 61) rfl)
theorem wl_70 : Cond.instanceMethod yX11_bars ∈ lw_tbl := tb_7 _ (List.mem_of_getElem? (i := 182) rfl)
theorem wl_71 : Cond.selects RX11 yX11_bars yX11_bars ∈ lw_tbl := List.mem_append_left _ (by decide +kernel)
theorem wl_72 : Cond.code yX11_bars cX11_bars 5 (some .int) ∈ lw_tbl := tb_7 _ (List.mem_of_getElem? (i := 183) rfl)
theorem wl_73 : Cond.methodLink RX11 346 yX11_bars ∈ lw_tbl := tb_7 _ (List.mem_of_getElem? (i := 180) rfl)
theorem wl_74 : Cond.fieldLink RX11 309 "DeskMovesModel" "diaryMany" "I" ∈ lw_tbl := tb_6 _ (List.mem_of_getElem? (i := 76) rfl)
theorem wl_75 : Cond.fieldLink RX11 64 "DeskMovesModel" "planMoves" "I" ∈ lw_tbl := tb_6 _ (List.mem_of_getElem? (i := 69) rfl)
theorem wl_76 : Cond.constant RX11 356 (-1000000) ∈ lw_tbl := tb_7 _ (List.mem_of_getElem? (i := 231) rfl)
theorem wl_77 : Cond.instanceMethod yX11_isSmall ∈ lw_tbl := tb_8 _ (List.mem_of_getElem? (i := 19) rfl)
theorem wl_78 : Cond.selects RX11 yX11_isSmall yX11_isSmall ∈ lw_tbl := List.mem_append_left _ (by decide +kernel)
theorem wl_79 : Cond.code yX11_isSmall cX11_isSmall 1 (some .boolean) ∈ lw_tbl := tb_8 _ (List.mem_of_getElem? (i := 20) rfl)
theorem wl_80 : Cond.methodLink RX11 394 yX11_isSmall ∈ lw_tbl := tb_8 _ (List.mem_of_getElem? (i := 17) rfl)
theorem wl_81 : Cond.fieldLink RX11 315 "DeskMovesModel" "hasImage" "Z" ∈ lw_tbl := tb_6 _ (List.mem_of_getElem? (i := 104) rfl)
theorem wl_82 : Cond.fieldLink RX11 306 "DeskMovesModel" "clerks" "I" ∈ lw_tbl := tb_6 _ (List.mem_of_getElem? (i := 65) rfl)
theorem wl_83 : Cond.fieldLink RX11 322 "DeskMovesModel" "laws" "I" ∈ lw_tbl := tb_6 _ (List.mem_of_getElem? (i := 52) rfl)
theorem wl_84 : Cond.fieldLink RX11 160 "DeskMovesModel" "size" "I" ∈ lw_tbl := tb_6 _ (List.mem_of_getElem? (i := 41) rfl)
theorem wl_85 : Cond.fieldLink RX11 74 "DeskMovesModel" "holding" "I" ∈ lw_tbl := tb_6 _ (List.mem_of_getElem? (i := 72) rfl)
theorem wl_86 : Cond.fieldLink RX11 153 "DeskMovesModel" "thrown" "I" ∈ lw_tbl := tb_6 _ (List.mem_of_getElem? (i := 39) rfl)
theorem wl_87 : Cond.fieldLink RX6 17 "DeskMoves$Tape" "at" "I" ∈ lw_tbl := tb_1 _ (List.mem_of_getElem? (i := 45) rfl)
theorem wl_88 : Cond.fieldLink RX6 13 "DeskMoves$Tape" "length" "I" ∈ lw_tbl := tb_1 _ (List.mem_of_getElem? (i := 41) rfl)
theorem wl_89 : Cond.instanceMethod yX6_look ∈ lw_tbl := tb_2 _ (List.mem_of_getElem? (i := 121) rfl)
theorem wl_90 : Cond.selects RX6 yX6_look yX6_look ∈ lw_tbl := tb_2 _ (List.mem_of_getElem? (i := 122) rfl)
theorem wl_91 : Cond.initialized RX6 ∈ lw_tbl := tb_1 _ (List.mem_of_getElem? (i := 2) rfl)
theorem wl_92 : Cond.code yX6_look cX6_look 1 (some .int) ∈ lw_tbl := tb_2 _ (List.mem_of_getElem? (i := 123) rfl)
theorem wl_93 : Cond.methodLink RX6 20 yX6_look ∈ lw_tbl := tb_2 _ (List.mem_of_getElem? (i := 138) rfl)
theorem wl_94 : Cond.fieldLink RX3 15 "DeskMoves$LawReader" "tape" "LDeskMoves$Tape;" ∈ lw_tbl := tb_1 _ (List.mem_of_getElem? (i := 61) rfl)
theorem wl_95 : Cond.instanceMethod yX6_takes ∈ lw_tbl := tb_2 _ (List.mem_of_getElem? (i := 135) rfl)
theorem wl_96 : Cond.selects RX6 yX6_takes yX6_takes ∈ lw_tbl := tb_2 _ (List.mem_of_getElem? (i := 136) rfl)
theorem wl_97 : Cond.code yX6_takes cX6_takes 2 (some .boolean) ∈ lw_tbl := tb_2 _ (List.mem_of_getElem? (i := 137) rfl)
theorem wl_98 : Cond.methodLink RX3 38 yX6_takes ∈ lw_tbl := tb_2 _ (List.mem_of_getElem? (i := 175) rfl)
theorem wl_99 : Cond.fieldLink RX3 19 "DeskMoves$Tape" "at" "I" ∈ lw_tbl := tb_1 _ (List.mem_of_getElem? (i := 42) rfl)
theorem wl_100 : Cond.fieldLink RX3 23 "DeskMoves$LawReader" "size" "I" ∈ lw_tbl := tb_1 _ (List.mem_of_getElem? (i := 63) rfl)
theorem wl_101 : Cond.fieldLink RX3 26 "DeskMoves$LawReader" "looksBeside" "Z" ∈ lw_tbl := tb_1 _ (List.mem_of_getElem? (i := 64) rfl)
theorem wl_102 : Cond.instanceMethod yX3_readClause ∈ lw_tbl := tb_2 _ (List.mem_of_getElem? (i := 173) rfl)
theorem wl_103 : Cond.selects RX3 yX3_readClause yX3_readClause ∈ lw_tbl := List.mem_append_left _ (by decide +kernel)
theorem wl_104 : Cond.initialized RX3 ∈ lw_tbl := tb_1 _ (List.mem_of_getElem? (i := 3) rfl)
theorem wl_105 : Cond.code yX3_readClause cX3_readClause 3 (some .boolean) ∈ lw_tbl := tb_2 _ (List.mem_of_getElem? (i := 174) rfl)
theorem wl_106 : Cond.methodLink RX3 30 yX3_readClause ∈ lw_tbl := tb_2 _ (List.mem_of_getElem? (i := 171) rfl)
theorem wl_107 : Cond.fieldLink RX5 18 "DeskMoves$Plan" "size" "I" ∈ lw_tbl := tb_1 _ (List.mem_of_getElem? (i := 156) rfl)
theorem wl_108 : Cond.fieldLink RX5 22 "DeskMoves$Tape" "at" "I" ∈ lw_tbl := tb_1 _ (List.mem_of_getElem? (i := 43) rfl)
theorem wl_109 : Cond.methodLink RX5 27 yX6_look ∈ lw_tbl := tb_3 _ (List.mem_of_getElem? (i := 32) rfl)
theorem wl_110 : Cond.methodLink RX4 67 yX6_look ∈ lw_tbl := tb_2 _ (List.mem_of_getElem? (i := 120) rfl)
theorem wl_111 : Cond.instanceMethod yX4_addDesk ∈ lw_tbl := tb_2 _ (List.mem_of_getElem? (i := 141) rfl)
theorem wl_112 : Cond.selects RX4 yX4_addDesk yX4_addDesk ∈ lw_tbl := List.mem_append_left _ (by decide +kernel)
theorem wl_113 : Cond.code yX4_addDesk cX4_addDesk 4 (some .boolean) ∈ lw_tbl := tb_2 _ (List.mem_of_getElem? (i := 142) rfl)
theorem wl_114 : Cond.methodLink RX4 79 yX4_addDesk ∈ lw_tbl := tb_2 _ (List.mem_of_getElem? (i := 139) rfl)
theorem wl_115 : Cond.fieldLink RX4 9 "DeskMoves$Office" "seat" "[I" ∈ lw_tbl := tb_1 _ (List.mem_of_getElem? (i := 91) rfl)
theorem wl_116 : Cond.static yJ7_fill_53178 ∈ lw_tbl := tb_2 _ (List.mem_of_getElem? (i := 34) rfl)
theorem wl_117 : Cond.initialized RJ7 ∈ lw_tbl := tb_1 _ (List.mem_of_getElem? (i := 9) rfl)
theorem wl_118 : Cond.code yJ7_fill_53178 cJ7_fill_53178 4 none ∈ lw_tbl := tb_2 _ (List.mem_of_getElem? (i := 35) rfl)
theorem wl_119 : Cond.methodLink RX4 46 yJ7_fill_53178 ∈ lw_tbl := tb_2 _ (List.mem_of_getElem? (i := 115) rfl)
theorem wl_120 : Cond.fieldLink RX4 15 "DeskMoves$Office" "place" "[I" ∈ lw_tbl := tb_1 _ (List.mem_of_getElem? (i := 98) rfl)
theorem wl_121 : Cond.fieldLink RX4 18 "DeskMoves$Office" "lengths" "[I" ∈ lw_tbl := tb_1 _ (List.mem_of_getElem? (i := 102) rfl)
theorem wl_122 : Cond.fieldLink RX4 21 "DeskMoves$Office" "beside" "[I" ∈ lw_tbl := tb_1 _ (List.mem_of_getElem? (i := 105) rfl)
theorem wl_123 : Cond.fieldLink RX4 24 "DeskMoves$Office" "foes" "[I" ∈ lw_tbl := tb_1 _ (List.mem_of_getElem? (i := 108) rfl)
theorem wl_124 : Cond.fieldLink RX4 27 "DeskMoves$Office" "rank" "[I" ∈ lw_tbl := tb_1 _ (List.mem_of_getElem? (i := 111) rfl)
theorem wl_125 : Cond.fieldLink RX4 30 "DeskMoves$Office" "papers" "[I" ∈ lw_tbl := tb_1 _ (List.mem_of_getElem? (i := 115) rfl)
theorem wl_126 : Cond.fieldLink RX4 33 "DeskMoves$Office" "wishes" "[I" ∈ lw_tbl := tb_1 _ (List.mem_of_getElem? (i := 119) rfl)
theorem wl_127 : Cond.fieldLink RX4 36 "DeskMoves$Office" "worths" "[I" ∈ lw_tbl := tb_1 _ (List.mem_of_getElem? (i := 123) rfl)
theorem wl_128 : Cond.instanceMethod yX4_clear ∈ lw_tbl := tb_2 _ (List.mem_of_getElem? (i := 112) rfl)
theorem wl_129 : Cond.selects RX4 yX4_clear yX4_clear ∈ lw_tbl := tb_2 _ (List.mem_of_getElem? (i := 113) rfl)
theorem wl_130 : Cond.code yX4_clear cX4_clear 1 none ∈ lw_tbl := tb_2 _ (List.mem_of_getElem? (i := 114) rfl)
theorem wl_131 : Cond.methodLink RX4 52 yX4_clear ∈ lw_tbl := tb_2 _ (List.mem_of_getElem? (i := 111) rfl)
theorem wl_132 : Cond.fieldLink RX4 55 "DeskMoves$Tape" "at" "I" ∈ lw_tbl := tb_1 _ (List.mem_of_getElem? (i := 44) rfl)
theorem wl_133 : Cond.instanceMethod yX4_readSeats ∈ lw_tbl := tb_2 _ (List.mem_of_getElem? (i := 118) rfl)
theorem wl_134 : Cond.selects RX4 yX4_readSeats yX4_readSeats ∈ lw_tbl := List.mem_append_left _ (by decide +kernel)
theorem wl_135 : Cond.code yX4_readSeats cX4_readSeats 4 (some .boolean) ∈ lw_tbl := tb_2 _ (List.mem_of_getElem? (i := 119) rfl)
theorem wl_136 : Cond.methodLink RX4 60 yX4_readSeats ∈ lw_tbl := tb_2 _ (List.mem_of_getElem? (i := 116) rfl)
theorem gl_0_tb : ∀ w ∈ gl_0, w ∈ lw_tbl := List.forall_mem_cons.mpr ⟨wl_0, List.forall_mem_cons.mpr ⟨wl_1, List.forall_mem_cons.mpr ⟨wl_2, List.forall_mem_cons.mpr ⟨wl_3, List.forall_mem_cons.mpr ⟨wl_4, List.forall_mem_cons.mpr ⟨wl_5, List.forall_mem_cons.mpr ⟨wl_6, List.forall_mem_cons.mpr ⟨wl_7, List.forall_mem_cons.mpr ⟨wl_8, List.forall_mem_cons.mpr ⟨wl_9, List.forall_mem_cons.mpr ⟨wl_10, List.forall_mem_cons.mpr ⟨wl_11, List.forall_mem_cons.mpr ⟨wl_12, List.forall_mem_cons.mpr ⟨wl_13, List.forall_mem_cons.mpr ⟨wl_14, List.forall_mem_cons.mpr ⟨wl_15, List.forall_mem_cons.mpr ⟨wl_16, List.forall_mem_cons.mpr ⟨wl_17, List.forall_mem_cons.mpr ⟨wl_18, List.forall_mem_cons.mpr ⟨wl_19, List.forall_mem_cons.mpr ⟨wl_20, List.forall_mem_cons.mpr ⟨wl_21, List.forall_mem_cons.mpr ⟨wl_22, List.forall_mem_cons.mpr ⟨wl_23, List.forall_mem_cons.mpr ⟨wl_24, List.forall_mem_cons.mpr ⟨wl_25, List.forall_mem_cons.mpr ⟨wl_26, List.forall_mem_cons.mpr ⟨wl_27, List.forall_mem_cons.mpr ⟨wl_28, List.forall_mem_cons.mpr ⟨wl_29, List.forall_mem_cons.mpr ⟨wl_30, List.forall_mem_cons.mpr ⟨wl_31, List.forall_mem_cons.mpr ⟨wl_32, List.forall_mem_cons.mpr ⟨wl_33, List.forall_mem_cons.mpr ⟨wl_34, List.forall_mem_cons.mpr ⟨wl_35, List.forall_mem_cons.mpr ⟨wl_36, List.forall_mem_cons.mpr ⟨wl_37, List.forall_mem_cons.mpr ⟨wl_38, List.forall_mem_cons.mpr ⟨wl_39, fun _ h => absurd h List.not_mem_nil⟩⟩⟩⟩⟩⟩⟩⟩⟩⟩⟩⟩⟩⟩⟩⟩⟩⟩⟩⟩⟩⟩⟩⟩⟩⟩⟩⟩⟩⟩⟩⟩⟩⟩⟩⟩⟩⟩⟩⟩
theorem gl_1_tb : ∀ w ∈ gl_1, w ∈ lw_tbl := List.forall_mem_cons.mpr ⟨wl_40, List.forall_mem_cons.mpr ⟨wl_41, List.forall_mem_cons.mpr ⟨wl_42, List.forall_mem_cons.mpr ⟨wl_43, List.forall_mem_cons.mpr ⟨wl_44, List.forall_mem_cons.mpr ⟨wl_45, List.forall_mem_cons.mpr ⟨wl_46, List.forall_mem_cons.mpr ⟨wl_47, List.forall_mem_cons.mpr ⟨wl_48, List.forall_mem_cons.mpr ⟨wl_49, List.forall_mem_cons.mpr ⟨wl_50, List.forall_mem_cons.mpr ⟨wl_51, List.forall_mem_cons.mpr ⟨wl_52, List.forall_mem_cons.mpr ⟨wl_53, List.forall_mem_cons.mpr ⟨wl_54, List.forall_mem_cons.mpr ⟨wl_55, List.forall_mem_cons.mpr ⟨wl_56, List.forall_mem_cons.mpr ⟨wl_57, List.forall_mem_cons.mpr ⟨wl_58, List.forall_mem_cons.mpr ⟨wl_59, List.forall_mem_cons.mpr ⟨wl_60, List.forall_mem_cons.mpr ⟨wl_61, List.forall_mem_cons.mpr ⟨wl_62, List.forall_mem_cons.mpr ⟨wl_63, List.forall_mem_cons.mpr ⟨wl_64, List.forall_mem_cons.mpr ⟨wl_65, List.forall_mem_cons.mpr ⟨wl_66, List.forall_mem_cons.mpr ⟨wl_67, List.forall_mem_cons.mpr ⟨wl_68, List.forall_mem_cons.mpr ⟨wl_69, List.forall_mem_cons.mpr ⟨wl_70, List.forall_mem_cons.mpr ⟨wl_71, List.forall_mem_cons.mpr ⟨wl_72, List.forall_mem_cons.mpr ⟨wl_73, List.forall_mem_cons.mpr ⟨wl_74, List.forall_mem_cons.mpr ⟨wl_75, List.forall_mem_cons.mpr ⟨wl_76, List.forall_mem_cons.mpr ⟨wl_77, List.forall_mem_cons.mpr ⟨wl_78, List.forall_mem_cons.mpr ⟨wl_79, fun _ h => absurd h List.not_mem_nil⟩⟩⟩⟩⟩⟩⟩⟩⟩⟩⟩⟩⟩⟩⟩⟩⟩⟩⟩⟩⟩⟩⟩⟩⟩⟩⟩⟩⟩⟩⟩⟩⟩⟩⟩⟩⟩⟩⟩⟩
theorem gl_2_tb : ∀ w ∈ gl_2, w ∈ lw_tbl := List.forall_mem_cons.mpr ⟨wl_80, List.forall_mem_cons.mpr ⟨wl_81, List.forall_mem_cons.mpr ⟨wl_82, List.forall_mem_cons.mpr ⟨wl_83, List.forall_mem_cons.mpr ⟨wl_84, List.forall_mem_cons.mpr ⟨wl_85, List.forall_mem_cons.mpr ⟨wl_86, List.forall_mem_cons.mpr ⟨wl_87, List.forall_mem_cons.mpr ⟨wl_88, List.forall_mem_cons.mpr ⟨wl_89, List.forall_mem_cons.mpr ⟨wl_90, List.forall_mem_cons.mpr ⟨wl_91, List.forall_mem_cons.mpr ⟨wl_92, List.forall_mem_cons.mpr ⟨wl_93, List.forall_mem_cons.mpr ⟨wl_94, List.forall_mem_cons.mpr ⟨wl_95, List.forall_mem_cons.mpr ⟨wl_96, List.forall_mem_cons.mpr ⟨wl_97, List.forall_mem_cons.mpr ⟨wl_98, List.forall_mem_cons.mpr ⟨wl_99, List.forall_mem_cons.mpr ⟨wl_100, List.forall_mem_cons.mpr ⟨wl_101, List.forall_mem_cons.mpr ⟨wl_102, List.forall_mem_cons.mpr ⟨wl_103, List.forall_mem_cons.mpr ⟨wl_104, List.forall_mem_cons.mpr ⟨wl_105, List.forall_mem_cons.mpr ⟨wl_106, List.forall_mem_cons.mpr ⟨wl_107, List.forall_mem_cons.mpr ⟨wl_108, List.forall_mem_cons.mpr ⟨wl_109, List.forall_mem_cons.mpr ⟨wl_110, List.forall_mem_cons.mpr ⟨wl_111, List.forall_mem_cons.mpr ⟨wl_112, List.forall_mem_cons.mpr ⟨wl_113, List.forall_mem_cons.mpr ⟨wl_114, List.forall_mem_cons.mpr ⟨wl_115, List.forall_mem_cons.mpr ⟨wl_116, List.forall_mem_cons.mpr ⟨wl_117, List.forall_mem_cons.mpr ⟨wl_118, List.forall_mem_cons.mpr ⟨wl_119, fun _ h => absurd h List.not_mem_nil⟩⟩⟩⟩⟩⟩⟩⟩⟩⟩⟩⟩⟩⟩⟩⟩⟩⟩⟩⟩⟩⟩⟩⟩⟩⟩⟩⟩⟩⟩⟩⟩⟩⟩⟩⟩⟩⟩⟩⟩
theorem gl_3_tb : ∀ w ∈ gl_3, w ∈ lw_tbl := List.forall_mem_cons.mpr ⟨wl_120, List.forall_mem_cons.mpr ⟨wl_121, List.forall_mem_cons.mpr ⟨wl_122, List.forall_mem_cons.mpr ⟨wl_123, List.forall_mem_cons.mpr ⟨wl_124, List.forall_mem_cons.mpr ⟨wl_125, List.forall_mem_cons.mpr ⟨wl_126, List.forall_mem_cons.mpr ⟨wl_127, List.forall_mem_cons.mpr ⟨wl_128, List.forall_mem_cons.mpr ⟨wl_129, List.forall_mem_cons.mpr ⟨wl_130, List.forall_mem_cons.mpr ⟨wl_131, List.forall_mem_cons.mpr ⟨wl_132, List.forall_mem_cons.mpr ⟨wl_133, List.forall_mem_cons.mpr ⟨wl_134, List.forall_mem_cons.mpr ⟨wl_135, List.forall_mem_cons.mpr ⟨wl_136, fun _ h => absurd h List.not_mem_nil⟩⟩⟩⟩⟩⟩⟩⟩⟩⟩⟩⟩⟩⟩⟩⟩⟩
set_option maxRecDepth 100000 in
theorem gf_X1 : u_ws RX1 TX1 6 = [311, 313, 315, 317, 319, 321].filterMap (fun i => lw_tbl[i]?) := by decide +kernel
set_option maxRecDepth 100000 in
theorem gf_X3 : u_ws RX3 TX3 4 = [184, 186, 188, 190].filterMap (fun i => lw_tbl[i]?) := by decide +kernel
set_option maxRecDepth 100000 in
theorem gf_X4 : u_ws RX4 TX4 11 = [245, 247, 249, 251, 253, 255, 257, 259, 261, 263, 265].filterMap (fun i => lw_tbl[i]?) := by decide +kernel
set_option maxRecDepth 100000 in
theorem gf_X5 : u_ws RX5 TX5 6 = [284, 286, 288, 290, 292, 294].filterMap (fun i => lw_tbl[i]?) := by decide +kernel
set_option maxRecDepth 100000 in
theorem gf_X6 : u_ws RX6 TX6 3 = [166, 168, 170].filterMap (fun i => lw_tbl[i]?) := by decide +kernel
set_option maxRecDepth 100000 in
theorem gf_X7 : u_ws RX7 TX7 3 = [333, 335, 337].filterMap (fun i => lw_tbl[i]?) := by decide +kernel
set_option maxRecDepth 100000 in
theorem gf_X10 : u_ws RX10 TX10 17 = [412, 414, 416, 418, 420, 422, 424, 426, 428, 430, 432, 434, 436, 438, 440, 442, 444].filterMap (fun i => lw_tbl[i]?) := by decide +kernel
set_option maxRecDepth 100000 in
theorem gf_X11 : u_ws RX11 TX11 66 = [1424, 1426, 1428, 1430, 1432, 1434, 1436, 1438, 1440, 1442, 1444, 1446, 1448, 1450, 1452, 1454, 1456, 1458, 1460, 1462, 1464, 1466, 1468, 1470, 1472, 1474, 1476, 1478, 1480, 1482, 1484, 1486, 1488, 1490, 1492, 1494, 1496, 1498, 1500, 1502, 1504, 1506, 1508, 1510, 1512, 1514, 1516, 1518, 1520, 1522, 1524, 1526, 1528, 1530, 1532, 1534, 1536, 1538, 1540, 1542, 1544, 1546, 1548, 1550, 1552, 1554].filterMap (fun i => lw_tbl[i]?) := by decide +kernel
theorem gf_tb {ws big : List Cond} {ps : List Nat} (h : ws = ps.filterMap (fun i => big[i]?)) : ∀ w ∈ ws, w ∈ big := fun w hw => by
  rw [h] at hw
  obtain ⟨i, -, hi⟩ := List.mem_filterMap.mp hw
  exact List.mem_of_getElem? hi
theorem gw_in : ∀ w ∈ gw, w ∈ lw_tbl := fun w h => by
  unfold gw at h
  exact (List.mem_append.mp h).elim (gl_0_tb w) (fun h => (List.mem_append.mp h).elim (gl_1_tb w) (fun h => (List.mem_append.mp h).elim (gl_2_tb w) (fun h => (List.mem_append.mp h).elim (gl_3_tb w) (fun h => (List.mem_append.mp h).elim (gf_tb gf_X1 w) (fun h => (List.mem_append.mp h).elim (gf_tb gf_X3 w) (fun h => (List.mem_append.mp h).elim (gf_tb gf_X4 w) (fun h => (List.mem_append.mp h).elim (gf_tb gf_X5 w) (fun h => (List.mem_append.mp h).elim (gf_tb gf_X6 w) (fun h => (List.mem_append.mp h).elim (gf_tb gf_X7 w) (fun h => (List.mem_append.mp h).elim (gf_tb gf_X10 w) (fun h => gf_tb gf_X11 w h)))))))))))
theorem gw_tl {c : Cond} {args : Array Value} {s : State} (h : ∀ w ∈ c :: gw, w.before args s = true) : ∀ w ∈ gw, w.before args s = true := fun w hw => h w (List.mem_cons_of_mem _ hw)
theorem gw_gd {w : Cond} (h : w ∈ gw) : GoodIn gw [w] := fun v hv => by
  rw [List.mem_singleton.mp hv]
  exact ⟨h, good_of_word (List.all_eq_true.mp gw_good w h)⟩
theorem gw_self : GoodIn gw gw := fun w h => ⟨h, good_of_word (List.all_eq_true.mp gw_good w h)⟩
theorem gw_c {c : Cond} (hc : c ∈ gw) : GoodIn gw (c :: gw) := fun w h => (List.mem_cons.mp h).elim (fun e => by rw [e]; exact gw_self c hc) (fun h => gw_self w h)
theorem gw_V {own C : String} {index : Nat} {y : MethodName} {c : Cond} (h1 : Cond.methodLink own index y ∈ gw) (h2 : Cond.instanceMethod y ∈ gw) (h3 : Cond.selects C y y ∈ gw) (h4 : Cond.initialized C ∈ gw) (hc : c ∈ gw) : GoodIn gw (wsV own index C y (c :: gw)) := by
  intro w h
  unfold wsV at h
  rcases List.mem_append.mp h with h | h
  · simp only [List.mem_cons, List.not_mem_nil, or_false] at h
    rcases h with rfl | rfl | rfl | rfl
    · exact gw_self _ h1
    · exact gw_self _ h2
    · exact gw_self _ h3
    · exact gw_self _ h4
  · exact gw_c hc w h
theorem cV {R : Room} {s : State} {args : Array Value} {own C : String} {index : Nat} {y : MethodName} {bytes : ByteArray} {maxL : Nat} {ret : Option FieldType} {rm : Room} {mc ms : Nat} (n : Nat) (ht : ∀ w ∈ gw, w.before args s = true) (hl : Cond.methodLink own index y ∈ gw)
    (hk : Cond.instanceMethod y ∈ gw ∧ Cond.selects C y y ∈ gw ∧ Cond.initialized C ∈ gw ∧ Cond.code y bytes maxL ret ∈ gw ∧ (y.cls = C ∧ y.cls ≠ "java/lang/invoke/MethodHandle" ∧ y.cls ≠ "java/lang/invoke/VarHandle" ∧ (parseMethodDescriptor y.desc).map (fun d => d.parameters.length) = some n)) (hrc : rm.cells = mc) (hrs : rm.slots = ms) (hR : rm.frames + 1 ≤ R.frames ∧ 8 + (maxL + 11) + rm.locals ≤ R.locals) :
    CallW R s args own C index y bytes maxL ret (Cond.code y bytes maxL ret :: gw) rm mc ms n :=
  cwV n ht (gw_V hl hk.1 hk.2.1 hk.2.2.1 hk.2.2.2.1) rfl hrc hrs hk.2.2.2.2 hR
theorem cS {R : Room} {s : State} {args : Array Value} {own : String} {index : Nat} {y : MethodName} {bytes : ByteArray} {maxL : Nat} {ret : Option FieldType} {rm : Room} {mc ms : Nat} (n : Nat) (ht : ∀ w ∈ gw, w.before args s = true) (hl : Cond.methodLink own index y ∈ gw)
    (hk : Cond.static y ∈ gw ∧ Cond.initialized y.cls ∈ gw ∧ Cond.code y bytes maxL ret ∈ gw ∧ (y.cls ≠ "java/lang/invoke/MethodHandle" ∧ y.cls ≠ "java/lang/invoke/VarHandle" ∧ (parseMethodDescriptor y.desc).map (fun d => d.parameters.length) = some n)) (hrc : rm.cells = mc) (hrs : rm.slots = ms) (hR : rm.frames + 1 ≤ R.frames ∧ 8 + (maxL + 11) + rm.locals ≤ R.locals) :
    CallB R s args own index y bytes maxL ret (Cond.code y bytes maxL ret :: gw) rm mc ms n ∧ (Cond.static y).before args s = true :=
  ⟨callB_of n ht (gw_c hk.2.2.1) rfl hrc hrs (ht _ hk.2.1) (ht _ hl) hk.2.2.2 hR, ht _ hk.1⟩
theorem cI {R : Room} {s : State} {args : Array Value} {own : String} {index : Nat} {y : MethodName} {bytes : ByteArray} {maxL : Nat} {rm : Room} {mc ms : Nat} (n : Nat) (ht : ∀ w ∈ gw, w.before args s = true) (hl : Cond.methodLink own index y ∈ gw)
    (hk : Cond.instanceMethod y ∈ gw ∧ Cond.initialized y.cls ∈ gw ∧ Cond.code y bytes maxL none ∈ gw ∧ y.name = "<init>" ∧ (y.cls ≠ "java/lang/invoke/MethodHandle" ∧ y.cls ≠ "java/lang/invoke/VarHandle" ∧ (parseMethodDescriptor y.desc).map (fun d => d.parameters.length) = some n)) (hrc : rm.cells = mc) (hrs : rm.slots = ms) (hR : rm.frames + 1 ≤ R.frames ∧ 8 + (maxL + 11) + rm.locals ≤ R.locals) :
    CallB R s args own index y bytes maxL none (Cond.code y bytes maxL none :: gw) rm mc ms n ∧ y.name = "<init>" ∧ (Cond.instanceMethod y).before args s = true :=
  cwI n ht (gw_c hk.2.2.1) rfl hrc hrs (ht _ hk.2.1) (ht _ hl) (ht _ hk.1) hk.2.2.2.1 hk.2.2.2.2 hR
/-! what a method needs of its world -/
def pr (D : va_G) (W : va_W) (ty : List (ClassId × FieldType)) (U : State) : Prop := va_P D vwCl W U.heap ∧ va_K D vwCl ty U
def pw (D : va_G) (A : Nat → Prop) (W : va_W) (ty : List (ClassId × FieldType)) (U : State) : Prop := va_P D vwCl W U.heap ∧ va_K D vwCl ty U ∧ va_D A W
theorem bl_r {av : List Value} {D : va_G} {W : va_W} {ty : List (ClassId × FieldType)} : FrameBlind (va_Pc av (pr D W ty)) := fun a U g mk q => ⟨q.1, q.2.1, va_K.moved (u := U) (U := U.calling g mk a) (Vm.Alike.refl U.vm) q.2.2⟩
theorem bl_w {av : List Value} {D : va_G} {A : Nat → Prop} {W : va_W} {ty : List (ClassId × FieldType)} : FrameBlind (va_Pc av (pw D A W ty)) := fun a U g mk q => ⟨q.1, q.2.1, va_K.moved (u := U) (U := U.calling g mk a) (Vm.Alike.refl U.vm) q.2.2.1, q.2.2.2⟩
theorem us_r {s : State} {H : Heap} {av : List Value} {D : va_G} {W : va_W} {ty : List (ClassId × FieldType)} (hP : va_P D vwCl W H) (hK : va_K D vwCl ty s) : ∀ U : State, U.heap = H → s.WarmedH U.vm → va_Pc av (pr D W ty) av.toArray U := fun U hU hW => ⟨rfl, by rw [hU]; exact hP, va_K.moved hW.alike hK⟩
theorem us_w {s : State} {H : Heap} {av : List Value} {D : va_G} {A : Nat → Prop} {W : va_W} {ty : List (ClassId × FieldType)} (hP : va_P D vwCl W H) (hK : va_K D vwCl ty s) (hD : va_D A W) : ∀ U : State, U.heap = H → s.WarmedH U.vm → va_Pc av (pw D A W ty) av.toArray U := fun U hU hW => ⟨rfl, by rw [hU]; exact hP, va_K.moved hW.alike hK, hD⟩
theorem ro_keep {D : va_G} {cl : List vw_C} {ws : va_W} {H H1 : Heap} (hP : va_P D cl ws H) (hk : ∀ q : Nat, q < H.size → ¬ (fun _ : Nat => False) q → H1[q]? = H[q]?) : va_P D cl ws H1 := hP.kept (fun k q h => hk q.1 (hP k q h).lt (fun h => h))
/-- an answer that is null -/
def va_QN (A : Nat → Prop) : Array Value → State → Outcome → State → Prop := fun _ st oc t => oc = .returned (some .null) ∧ va_F A st t
section KN
variable {p : Program} {l : Launch} {e : Env} {R : Room} {s : State} {m : MethodId} {args : Array Value} {below : List Frame} {meth : Method} {c : Code} {H : Heap} {locs : List Loc} {cells slots : Nat} {Q : State → Prop}
variable {pc : Nat} {ls : Array Slot} {rest st0 : List Value} {a : Array Value} {A0 A1 : Nat → Prop} {H0 : Heap} {mc ms : Nat} {free : Addr → Prop}
theorem lv_val {x y : Int32} (h : x = y) (k : W p l e R s m args below meth c H locs cells slots Q (F0 m pc ls (.int y :: rest))) : W p l e R s m args below meth c H locs cells slots Q (F0 m pc ls (.int x :: rest)) := by
  rw [h]
  exact k
theorem va_callN (hr : va_Run p l e R s m args below meth c H locs cells slots mc ms (F0 m pc ls st0) rest (va_QN A1 a) free) (hS : va_S A0 H0 H locs) (hA : ∀ q, q < H.size → A1 q → A0 q) (hf : ∀ q, free q → A0 q)
    (kk : ∀ (H1 : Heap) (locs1 : List Loc), (∀ q : Nat, q < H.size → ¬ A1 q → H1[q]? = H[q]?) → va_S A0 H0 H1 locs1 → W p l e R s m args below meth c H1 locs1 (cells + mc) (slots + ms) Q (F0 m (pc + 3) ls (.null :: rest))) : W p l e R s m args below meth c H locs cells slots Q (F0 m pc ls st0) := by
  intro T hT X
  obtain ⟨v, st₀, t, T', L, h0, X', hL, e1, e2, ⟨hv, hz, hk⟩, st⟩ := hr T hT X
  cases hv
  rw [h0] at hz hk
  obtain ⟨t2, a1, b1⟩ := kk T'.heap (locs ++ L) (fun q h1 h2 => by rw [e1]; exact hk q h1 h2)
    ⟨Nat.le_trans hS.1 (by rw [e1]; exact hz), fun q h1 h2 => by rw [e1, hk q (Nat.lt_of_lt_of_le h1 hS.1) (fun z => h2 (hA q (Nat.lt_of_lt_of_le h1 hS.1) z))]; exact hS.2.1 q h1 h2, fun q hq => by
      rcases List.mem_append.mp hq with h | h
      · exact hS.2.2 q h
      · exact hf _ (hL q h)⟩ T' rfl X'
  exact ⟨t2, st t2 a1, b1⟩
end KN

theorem kv_X4_hasDesk : Cond.instanceMethod yX4_hasDesk ∈ gw ∧ Cond.selects RX4 yX4_hasDesk yX4_hasDesk ∈ gw ∧ Cond.initialized RX4 ∈ gw ∧ Cond.code yX4_hasDesk cX4_hasDesk 2 (some .boolean) ∈ gw ∧ (yX4_hasDesk.cls = RX4 ∧ yX4_hasDesk.cls ≠ "java/lang/invoke/MethodHandle" ∧ yX4_hasDesk.cls ≠ "java/lang/invoke/VarHandle" ∧ (parseMethodDescriptor yX4_hasDesk.desc).map (fun d => d.parameters.length) = some 1) := ⟨mw_2, mw_3, mw_4, mw_5, by decide +kernel⟩
theorem kv_X4_hasClerk : Cond.instanceMethod yX4_hasClerk ∈ gw ∧ Cond.selects RX4 yX4_hasClerk yX4_hasClerk ∈ gw ∧ Cond.initialized RX4 ∈ gw ∧ Cond.code yX4_hasClerk cX4_hasClerk 2 (some .boolean) ∈ gw ∧ (yX4_hasClerk.cls = RX4 ∧ yX4_hasClerk.cls ≠ "java/lang/invoke/MethodHandle" ∧ yX4_hasClerk.cls ≠ "java/lang/invoke/VarHandle" ∧ (parseMethodDescriptor yX4_hasClerk.desc).map (fun d => d.parameters.length) = some 1) := ⟨mw_7, mw_8, mw_4, mw_9, by decide +kernel⟩
theorem kv_X4_lengthBetween : Cond.instanceMethod yX4_lengthBetween ∈ gw ∧ Cond.selects RX4 yX4_lengthBetween yX4_lengthBetween ∈ gw ∧ Cond.initialized RX4 ∈ gw ∧ Cond.code yX4_lengthBetween cX4_lengthBetween 3 (some .int) ∈ gw ∧ (yX4_lengthBetween.cls = RX4 ∧ yX4_lengthBetween.cls ≠ "java/lang/invoke/MethodHandle" ∧ yX4_lengthBetween.cls ≠ "java/lang/invoke/VarHandle" ∧ (parseMethodDescriptor yX4_lengthBetween.desc).map (fun d => d.parameters.length) = some 2) := ⟨mw_15, mw_16, mw_4, mw_17, by decide +kernel⟩
theorem kv_X10_lawOf : Cond.instanceMethod yX10_lawOf ∈ gw ∧ Cond.selects RX10 yX10_lawOf yX10_lawOf ∈ gw ∧ Cond.initialized RX10 ∈ gw ∧ Cond.code yX10_lawOf cX10_lawOf 2 (some (.object "DeskMoves$Law")) ∈ gw ∧ (yX10_lawOf.cls = RX10 ∧ yX10_lawOf.cls ≠ "java/lang/invoke/MethodHandle" ∧ yX10_lawOf.cls ≠ "java/lang/invoke/VarHandle" ∧ (parseMethodDescriptor yX10_lawOf.desc).map (fun d => d.parameters.length) = some 1) := ⟨mw_21, mw_22, mw_23, mw_24, by decide +kernel⟩
theorem kv_X4_hindrance : Cond.instanceMethod yX4_hindrance ∈ gw ∧ Cond.selects RX4 yX4_hindrance yX4_hindrance ∈ gw ∧ Cond.initialized RX4 ∈ gw ∧ Cond.code yX4_hindrance cX4_hindrance 5 (some .int) ∈ gw ∧ (yX4_hindrance.cls = RX4 ∧ yX4_hindrance.cls ≠ "java/lang/invoke/MethodHandle" ∧ yX4_hindrance.cls ≠ "java/lang/invoke/VarHandle" ∧ (parseMethodDescriptor yX4_hindrance.desc).map (fun d => d.parameters.length) = some 3) := ⟨mw_26, mw_27, mw_4, mw_28, by decide +kernel⟩
theorem kv_X1_moveAt : Cond.instanceMethod yX1_moveAt ∈ gw ∧ Cond.selects RX1 yX1_moveAt yX1_moveAt ∈ gw ∧ Cond.initialized RX1 ∈ gw ∧ Cond.code yX1_moveAt cX1_moveAt 2 (some .int) ∈ gw ∧ (yX1_moveAt.cls = RX1 ∧ yX1_moveAt.cls ≠ "java/lang/invoke/MethodHandle" ∧ yX1_moveAt.cls ≠ "java/lang/invoke/VarHandle" ∧ (parseMethodDescriptor yX1_moveAt.desc).map (fun d => d.parameters.length) = some 1) := ⟨mw_32, mw_33, mw_34, mw_35, by decide +kernel⟩
theorem kv_X10_isSearched : Cond.instanceMethod yX10_isSearched ∈ gw ∧ Cond.selects RX10 yX10_isSearched yX10_isSearched ∈ gw ∧ Cond.initialized RX10 ∈ gw ∧ Cond.code yX10_isSearched cX10_isSearched 1 (some .boolean) ∈ gw ∧ (yX10_isSearched.cls = RX10 ∧ yX10_isSearched.cls ≠ "java/lang/invoke/MethodHandle" ∧ yX10_isSearched.cls ≠ "java/lang/invoke/VarHandle" ∧ (parseMethodDescriptor yX10_isSearched.desc).map (fun d => d.parameters.length) = some 0) := ⟨mw_41, mw_42, mw_23, mw_43, by decide +kernel⟩
theorem kv_X7_kindOf : Cond.instanceMethod yX7_kindOf ∈ gw ∧ Cond.selects RX7 yX7_kindOf yX7_kindOf ∈ gw ∧ Cond.initialized RX7 ∈ gw ∧ Cond.code yX7_kindOf cX7_kindOf 5 (some .int) ∈ gw ∧ (yX7_kindOf.cls = RX7 ∧ yX7_kindOf.cls ≠ "java/lang/invoke/MethodHandle" ∧ yX7_kindOf.cls ≠ "java/lang/invoke/VarHandle" ∧ (parseMethodDescriptor yX7_kindOf.desc).map (fun d => d.parameters.length) = some 1) := ⟨mw_46, mw_47, mw_48, mw_49, by decide +kernel⟩
theorem kv_X11_in : Cond.static yX11_in ∈ gw ∧ Cond.initialized yX11_in.cls ∈ gw ∧ Cond.code yX11_in cX11_in 3 (some .boolean) ∈ gw ∧ (yX11_in.cls ≠ "java/lang/invoke/MethodHandle" ∧ yX11_in.cls ≠ "java/lang/invoke/VarHandle" ∧ (parseMethodDescriptor yX11_in.desc).map (fun d => d.parameters.length) = some 3) := ⟨mw_57, mw_58, mw_59, by decide +kernel⟩
theorem kv_X11_isClerk : Cond.instanceMethod yX11_isClerk ∈ gw ∧ Cond.selects RX11 yX11_isClerk yX11_isClerk ∈ gw ∧ Cond.initialized RX11 ∈ gw ∧ Cond.code yX11_isClerk cX11_isClerk 2 (some .boolean) ∈ gw ∧ (yX11_isClerk.cls = RX11 ∧ yX11_isClerk.cls ≠ "java/lang/invoke/MethodHandle" ∧ yX11_isClerk.cls ≠ "java/lang/invoke/VarHandle" ∧ (parseMethodDescriptor yX11_isClerk.desc).map (fun d => d.parameters.length) = some 1) := ⟨mw_61, mw_62, mw_58, mw_63, by decide +kernel⟩
theorem kv_X11_isDesk : Cond.instanceMethod yX11_isDesk ∈ gw ∧ Cond.selects RX11 yX11_isDesk yX11_isDesk ∈ gw ∧ Cond.initialized RX11 ∈ gw ∧ Cond.code yX11_isDesk cX11_isDesk 2 (some .boolean) ∈ gw ∧ (yX11_isDesk.cls = RX11 ∧ yX11_isDesk.cls ≠ "java/lang/invoke/MethodHandle" ∧ yX11_isDesk.cls ≠ "java/lang/invoke/VarHandle" ∧ (parseMethodDescriptor yX11_isDesk.desc).map (fun d => d.parameters.length) = some 1) := ⟨mw_65, mw_66, mw_58, mw_67, by decide +kernel⟩
theorem kv_X11_bars : Cond.instanceMethod yX11_bars ∈ gw ∧ Cond.selects RX11 yX11_bars yX11_bars ∈ gw ∧ Cond.initialized RX11 ∈ gw ∧ Cond.code yX11_bars cX11_bars 5 (some .int) ∈ gw ∧ (yX11_bars.cls = RX11 ∧ yX11_bars.cls ≠ "java/lang/invoke/MethodHandle" ∧ yX11_bars.cls ≠ "java/lang/invoke/VarHandle" ∧ (parseMethodDescriptor yX11_bars.desc).map (fun d => d.parameters.length) = some 3) := ⟨mw_70, mw_71, mw_58, mw_72, by decide +kernel⟩
theorem kv_X11_isSmall : Cond.instanceMethod yX11_isSmall ∈ gw ∧ Cond.selects RX11 yX11_isSmall yX11_isSmall ∈ gw ∧ Cond.initialized RX11 ∈ gw ∧ Cond.code yX11_isSmall cX11_isSmall 1 (some .boolean) ∈ gw ∧ (yX11_isSmall.cls = RX11 ∧ yX11_isSmall.cls ≠ "java/lang/invoke/MethodHandle" ∧ yX11_isSmall.cls ≠ "java/lang/invoke/VarHandle" ∧ (parseMethodDescriptor yX11_isSmall.desc).map (fun d => d.parameters.length) = some 0) := ⟨mw_77, mw_78, mw_58, mw_79, by decide +kernel⟩
theorem kv_X6_look : Cond.instanceMethod yX6_look ∈ gw ∧ Cond.selects RX6 yX6_look yX6_look ∈ gw ∧ Cond.initialized RX6 ∈ gw ∧ Cond.code yX6_look cX6_look 1 (some .int) ∈ gw ∧ (yX6_look.cls = RX6 ∧ yX6_look.cls ≠ "java/lang/invoke/MethodHandle" ∧ yX6_look.cls ≠ "java/lang/invoke/VarHandle" ∧ (parseMethodDescriptor yX6_look.desc).map (fun d => d.parameters.length) = some 0) := ⟨mw_89, mw_90, mw_91, mw_92, by decide +kernel⟩
theorem kv_X6_takes : Cond.instanceMethod yX6_takes ∈ gw ∧ Cond.selects RX6 yX6_takes yX6_takes ∈ gw ∧ Cond.initialized RX6 ∈ gw ∧ Cond.code yX6_takes cX6_takes 2 (some .boolean) ∈ gw ∧ (yX6_takes.cls = RX6 ∧ yX6_takes.cls ≠ "java/lang/invoke/MethodHandle" ∧ yX6_takes.cls ≠ "java/lang/invoke/VarHandle" ∧ (parseMethodDescriptor yX6_takes.desc).map (fun d => d.parameters.length) = some 1) := ⟨mw_95, mw_96, mw_91, mw_97, by decide +kernel⟩
theorem kv_X3_readClause : Cond.instanceMethod yX3_readClause ∈ gw ∧ Cond.selects RX3 yX3_readClause yX3_readClause ∈ gw ∧ Cond.initialized RX3 ∈ gw ∧ Cond.code yX3_readClause cX3_readClause 3 (some .boolean) ∈ gw ∧ (yX3_readClause.cls = RX3 ∧ yX3_readClause.cls ≠ "java/lang/invoke/MethodHandle" ∧ yX3_readClause.cls ≠ "java/lang/invoke/VarHandle" ∧ (parseMethodDescriptor yX3_readClause.desc).map (fun d => d.parameters.length) = some 0) := ⟨mw_102, mw_103, mw_104, mw_105, by decide +kernel⟩
theorem kv_X4_addDesk : Cond.instanceMethod yX4_addDesk ∈ gw ∧ Cond.selects RX4 yX4_addDesk yX4_addDesk ∈ gw ∧ Cond.initialized RX4 ∈ gw ∧ Cond.code yX4_addDesk cX4_addDesk 4 (some .boolean) ∈ gw ∧ (yX4_addDesk.cls = RX4 ∧ yX4_addDesk.cls ≠ "java/lang/invoke/MethodHandle" ∧ yX4_addDesk.cls ≠ "java/lang/invoke/VarHandle" ∧ (parseMethodDescriptor yX4_addDesk.desc).map (fun d => d.parameters.length) = some 1) := ⟨mw_111, mw_112, mw_4, mw_113, by decide +kernel⟩
theorem kv_J7_fill_53178 : Cond.static yJ7_fill_53178 ∈ gw ∧ Cond.initialized yJ7_fill_53178.cls ∈ gw ∧ Cond.code yJ7_fill_53178 cJ7_fill_53178 4 none ∈ gw ∧ (yJ7_fill_53178.cls ≠ "java/lang/invoke/MethodHandle" ∧ yJ7_fill_53178.cls ≠ "java/lang/invoke/VarHandle" ∧ (parseMethodDescriptor yJ7_fill_53178.desc).map (fun d => d.parameters.length) = some 2) := ⟨mw_116, mw_117, mw_118, by decide +kernel⟩
theorem kv_X4_clear : Cond.instanceMethod yX4_clear ∈ gw ∧ Cond.selects RX4 yX4_clear yX4_clear ∈ gw ∧ Cond.initialized RX4 ∈ gw ∧ Cond.code yX4_clear cX4_clear 1 none ∈ gw ∧ (yX4_clear.cls = RX4 ∧ yX4_clear.cls ≠ "java/lang/invoke/MethodHandle" ∧ yX4_clear.cls ≠ "java/lang/invoke/VarHandle" ∧ (parseMethodDescriptor yX4_clear.desc).map (fun d => d.parameters.length) = some 0) := ⟨mw_128, mw_129, mw_4, mw_130, by decide +kernel⟩
theorem kv_X4_readSeats : Cond.instanceMethod yX4_readSeats ∈ gw ∧ Cond.selects RX4 yX4_readSeats yX4_readSeats ∈ gw ∧ Cond.initialized RX4 ∈ gw ∧ Cond.code yX4_readSeats cX4_readSeats 4 (some .boolean) ∈ gw ∧ (yX4_readSeats.cls = RX4 ∧ yX4_readSeats.cls ≠ "java/lang/invoke/MethodHandle" ∧ yX4_readSeats.cls ≠ "java/lang/invoke/VarHandle" ∧ (parseMethodDescriptor yX4_readSeats.desc).map (fun d => d.parameters.length) = some 1) := ⟨mw_133, mw_134, mw_4, mw_135, by decide +kernel⟩
end
section
/-! contracts that write -/
abbrev vU : Type := (Nat → Nat) × (Nat → ClassId) × (Nat → Nat → Int32)
def pn (D : va_G) (sz : Nat) (W : va_W) (ty : List (ClassId × FieldType)) (U : State) : Prop := U.heap.size = sz ∧ va_P D vwCl W U.heap ∧ va_K D vwCl ty U ∧ va_D (fun _ => True) W
def nw (D : va_G) (A : Nat → Prop) (W : va_W) (ty : List (ClassId × FieldType)) (t : State) : Prop := va_P D vwCl W t.heap ∧ va_K D vwCl ty t ∧ va_D A W
theorem bl_n {av : List Value} {D : va_G} {sz : Nat} {W : va_W} {ty : List (ClassId × FieldType)} : FrameBlind (va_Pc av (pn D sz W ty)) := fun a U g mk q => ⟨q.1, q.2.1, q.2.2.1, va_K.moved (u := U) (U := U.calling g mk a) (Vm.Alike.refl U.vm) q.2.2.2.1, q.2.2.2.2⟩
theorem us_n {s : State} {H : Heap} {av : List Value} {D : va_G} {A : Nat → Prop} {W : va_W} {ty : List (ClassId × FieldType)} (hP : va_P D vwCl W H) (hK : va_K D vwCl ty s) (hD : va_D A W) : ∀ U : State, U.heap = H → s.WarmedH U.vm → va_Pc av (pn D H.size W ty) av.toArray U := fun U hU hW => ⟨rfl, by rw [hU], by rw [hU]; exact hP, va_K.moved hW.alike hK, hD.weaken (fun _ _ _ _ => trivial)⟩
theorem nl_P {D : va_G} {cl : List vw_C} {H : Heap} : va_P D cl [] H := fun k q h => by simp at h
theorem nl_D {A : Nat → Prop} : va_D A [] := ⟨fun i j p q h => by simp at h, fun k q h => by simp at h⟩
/-! numbers of signs -/
def us (x y : Int32) : Int32 := (x.toUInt32 >>> (y.toUInt32 &&& Int32.toUInt32 31)).toInt32
def nzN (v : Int32) : Nat := if v = 0 then 0 else 1
theorem nzN_z {v : Int32} (h : v = 0) : nzN v = 0 := if_pos h
theorem nzN_n {v : Int32} (h : ¬ v = 0) : nzN v = 1 := if_neg h
theorem nzN_le (v : Int32) : nzN v ≤ 1 := by
  unfold nzN
  split <;> decide
def sgN (x : Int32) : Nat := nzN (us x 24 &&& 255) + nzN (us x 16 &&& 255) + nzN (us x 8 &&& 255) + nzN (us x 0 &&& 255)
theorem sgN_le (x : Int32) : sgN x ≤ 4 := by
  have h1 := nzN_le (us x 24 &&& 255)
  have h2 := nzN_le (us x 16 &&& 255)
  have h3 := nzN_le (us x 8 &&& 255)
  have h4 := nzN_le (us x 0 &&& 255)
  unfold sgN
  omega
theorem ni_160 : (160 : Int32) = nI 160 := by decide
theorem ni_ge {k : Nat} (h : k < 160) : ¬ (160 : Int32) ≤ nI k := by
  rw [ni_160]
  exact nI_ge h (by decide)
theorem ni_le {k : Nat} (h : k ≤ 160) : nI k ≤ (160 : Int32) := by
  rw [ni_160]
  exact nI_le h (by decide)
def sp_feed (x y z v w : Int32) : Int32 := nI (sgN x + sgN y + sgN z + sgN v + sgN w)
def sp_end (x : Int32) : Int32 := if x < 0 then 0 else if x ≤ 0 then 1 else 0
def sp_fault (x : Int32) : Int32 := if x = 0 then 0 else if x = 1 then 0 else if x = 2 then 0 else -2
theorem sp_fault_in {x : Int32} (h1 : ¬ x < 0) (h2 : x ≤ 2) : 0 = sp_fault x := by
  unfold sp_fault
  by_cases a : x = 0
  · rw [if_pos a]
  · by_cases b : x = 1
    · rw [if_neg a, if_pos b]
    · by_cases d : x = 2
      · rw [if_neg a, if_neg b, if_pos d]
      · exfalso
        simp only [ar_lt, ar_le, ar_eq, ar_n0, ar_n1, ar_n2] at a b d h1 h2
        omega
theorem sp_fault_out {x : Int32} (h : x < 0 ∨ ¬ x ≤ 2) : -2 = sp_fault x := by
  unfold sp_fault
  rw [if_neg, if_neg, if_neg]
  all_goals
    intro e
    simp only [ar_lt, ar_le, ar_eq, ar_n0, ar_n1, ar_n2] at h e
    omega
section TN
variable {p : Program} {l : Launch} {e : Env} {R : Room} {s : State} {m : MethodId} {args : Array Value} {below : List Frame} {meth : Method} {c : Code} {H : Heap} {locs : List Loc} {cells slots : Nat} {Q : State → Prop}
variable {pc : Nat} {ls : Array Slot} {rest : List Value} {cc : ByteArray}
/-- a test for 0 that leaves 1 or 0 -/
theorem lv_tern (hx : p.tables.exec = Jvm.exec) (hb : c.code = cc) {v : Int32} (d0 : decode cc pc = .ok (.ifCond .eq 7, 3)) (d3 : decode cc (pc + 3) = .ok (.iconst 1, 1)) (d4 : decode cc (pc + 4) = .ok (.goto 4, 3)) (d7 : decode cc (pc + 7) = .ok (.iconst 0, 1))
    (k : W p l e R s m args below meth c H locs cells slots Q (F0 m (pc + 8) ls (.int (nI (nzN v)) :: rest))) : W p l e R s m args below meth c H locs cells slots Q (F0 m pc ls (.int v :: rest)) := by
  refine lv_if_eq (tgt := pc + 7) hx hb d0 (by omega) (fun h => ?_) (fun h => ?_)
  · rw [nzN_z h] at k
    refine lv_iconst (v := 0) hx hb d7 (by decide) ?_
    exact k
  · rw [nzN_n h] at k
    refine lv_iconst (v := 1) hx hb d3 (by decide) ?_
    refine lv_goto (tgt := pc + 8) hx hb d4 (by omega) ?_
    exact k
end TN
end
section
set_option maxHeartbeats 4000000 in
set_option maxRecDepth 100000 in
theorem c_X4_hasDesk (l : Launch) (D : va_G) (o : Nat) (os : List Value) (x : Int32) : Met l yX4_hasDesk (.code yX4_hasDesk cX4_hasDesk 2 (some .boolean) :: gw) ({ frames := 0, cells := 0, slots := 0, locals := 0 }) (va_Pc [.ref o, .int x] (pr D [(o, .inr (4, .int 0 :: .int 0 :: os))] [])) (va_Qi (fun r (_ : Unit) => r = 0) (fun _ _ => True) (fun _ => False)) 0 0 (fun _ => False) := by
  refine Met.ofW (cc := cX4_hasDesk) (maxL := 2) (ret := (some .boolean)) (by decide) rfl ?_
  intro p e s m args below meth c s₁ B hml hv
  obtain ⟨rfl, hP, hK⟩ := hv
  have hx := B.exec
  have hb := B.bytes
  have hr := B.returns
  have hts := atoms_spec (ws := .code yX4_hasDesk cX4_hasDesk 2 (some .boolean) :: gw) B.pre
  have htg := gw_tl hts
  have hown : s.vm.findClass RX4 = some m.cls := findClass_of_methodNamed B.named
  have hlocks := B.notSynchronized
  have hS : va_S (fun _ => False) s.heap s.heap [] := va_S.rf
  have hl := lv_entry ([.ref o, .int x]) (n := 2) (Nat.le_of_ble_eq_true rfl)
  rw [lg_entry_eq]
  generalize (lg_sl ([.ref o, .int x]) ++ List.replicate (2 - (lg_sl ([.ref o, .int x])).length) Slot.unset).toArray = ls at hl ⊢
  have hl : lv_has ls 2 [(0, .ref o), (1, .int x)] := hl
  refine lv_iload_n hx hb dX4_hasDesk_0 rfl (lv_at hl 1 rfl) ?_
  refine lv_if_lt (tgt := 22) hx hb dX4_hasDesk_1 (by decide) (fun h_1 => ?_) (fun h_1 => ?_)
  · refine lv_iconst (v := 0) hx hb dX4_hasDesk_22 (by decide) ?_
    exact W.zret (v := 0) hx hb hr (by first | rfl | decide | exact ar_nb _) (fun t ht hW => ⟨⟨0, (), rfl, rfl, trivial⟩, hS.F ht⟩) hS.2.2 dX4_hasDesk_23
  · refine lv_iload_n hx hb dX4_hasDesk_4 rfl (lv_at hl 1 rfl) ?_
    refine lv_aload_n hx hb dX4_hasDesk_5 rfl (lv_at hl 0 rfl) ?_
    refine va_get (D := D) (ci := 4) (v := .int 0) (C := RX4) (T := TX4) (N := 11) hx hb htg in_X4 hown hK hP 0 rfl rfl 0 (by decide) (htg _ mw_0) (fun _ h9 => h9) rfl dX4_hasDesk_6 ?_
    refine lv_icmp_ge (tgt := 22) hx hb dX4_hasDesk_9 (by decide) (fun h_2 => ?_) (fun h_2 => ?_)
    · refine lv_iconst (v := 0) hx hb dX4_hasDesk_22 (by decide) ?_
      exact W.zret (v := 0) hx hb hr (by first | rfl | decide | exact ar_nb _) (fun t ht hW => ⟨⟨0, (), rfl, rfl, trivial⟩, hS.F ht⟩) hS.2.2 dX4_hasDesk_23
    · exfalso
      simp only [ar_lt, ar_le, ar_eq, ar_n0, ar_n1, ar_n2, ar_n3, ar_n4, ar_n5, ar_n6, ar_n7, ar_n8, ar_n9, ar_n11, ar_n12, ar_n60, ar_n99, ar_nm1] at h_2 h_1
      omega

set_option maxHeartbeats 4000000 in
set_option maxRecDepth 100000 in
theorem c_X4_hasClerk (l : Launch) (D : va_G) (o : Nat) (os : List Value) (x : Int32) : Met l yX4_hasClerk (.code yX4_hasClerk cX4_hasClerk 2 (some .boolean) :: gw) ({ frames := 0, cells := 0, slots := 0, locals := 0 }) (va_Pc [.ref o, .int x] (pr D [(o, .inr (4, .int 0 :: .int 0 :: os))] [])) (va_Qi (fun r (_ : Unit) => r = 0) (fun _ _ => True) (fun _ => False)) 0 0 (fun _ => False) := by
  refine Met.ofW (cc := cX4_hasClerk) (maxL := 2) (ret := (some .boolean)) (by decide) rfl ?_
  intro p e s m args below meth c s₁ B hml hv
  obtain ⟨rfl, hP, hK⟩ := hv
  have hx := B.exec
  have hb := B.bytes
  have hr := B.returns
  have hts := atoms_spec (ws := .code yX4_hasClerk cX4_hasClerk 2 (some .boolean) :: gw) B.pre
  have htg := gw_tl hts
  have hown : s.vm.findClass RX4 = some m.cls := findClass_of_methodNamed B.named
  have hlocks := B.notSynchronized
  have hS : va_S (fun _ => False) s.heap s.heap [] := va_S.rf
  have hl := lv_entry ([.ref o, .int x]) (n := 2) (Nat.le_of_ble_eq_true rfl)
  rw [lg_entry_eq]
  generalize (lg_sl ([.ref o, .int x]) ++ List.replicate (2 - (lg_sl ([.ref o, .int x])).length) Slot.unset).toArray = ls at hl ⊢
  have hl : lv_has ls 2 [(0, .ref o), (1, .int x)] := hl
  refine lv_iload_n hx hb dX4_hasClerk_0 rfl (lv_at hl 1 rfl) ?_
  refine lv_if_lt (tgt := 25) hx hb dX4_hasClerk_1 (by decide) (fun h_1 => ?_) (fun h_1 => ?_)
  · refine lv_iconst (v := 0) hx hb dX4_hasClerk_25 (by decide) ?_
    exact W.zret (v := 0) hx hb hr (by first | rfl | decide | exact ar_nb _) (fun t ht hW => ⟨⟨0, (), rfl, rfl, trivial⟩, hS.F ht⟩) hS.2.2 dX4_hasClerk_26
  · refine lv_iload_n hx hb dX4_hasClerk_4 rfl (lv_at hl 1 rfl) ?_
    refine lv_bipush (v := 12) hx hb dX4_hasClerk_5 (by decide) ?_
    refine lv_icmp_ge (tgt := 25) hx hb dX4_hasClerk_7 (by decide) (fun h_2 => ?_) (fun h_2 => ?_)
    · refine lv_iconst (v := 0) hx hb dX4_hasClerk_25 (by decide) ?_
      exact W.zret (v := 0) hx hb hr (by first | rfl | decide | exact ar_nb _) (fun t ht hW => ⟨⟨0, (), rfl, rfl, trivial⟩, hS.F ht⟩) hS.2.2 dX4_hasClerk_26
    · refine lv_aload_n hx hb dX4_hasClerk_10 rfl (lv_at hl 0 rfl) ?_
      refine va_get (D := D) (ci := 4) (v := .int 0) (C := RX4) (T := TX4) (N := 11) hx hb htg in_X4 hown hK hP 0 rfl rfl 1 (by decide) (htg _ mw_1) (fun _ h9 => h9) rfl dX4_hasClerk_11 ?_
      refine lv_iload_n hx hb dX4_hasClerk_14 rfl (lv_at hl 1 rfl) ?_
      refine lv_ishr hx hb dX4_hasClerk_15 ?_
      refine lv_val (y := 0) (ar_shr0 _) ?_
      refine lv_iconst (v := 1) hx hb dX4_hasClerk_16 (by decide) ?_
      refine lv_iand hx hb dX4_hasClerk_17 ?_
      refine lv_val (y := 0) (by decide) ?_
      refine lv_if_eq (tgt := 25) hx hb dX4_hasClerk_18 (by decide) (fun _ => ?_) (fun h9 => False.elim (h9 (by decide)))
      refine lv_iconst (v := 0) hx hb dX4_hasClerk_25 (by decide) ?_
      exact W.zret (v := 0) hx hb hr (by first | rfl | decide | exact ar_nb _) (fun t ht hW => ⟨⟨0, (), rfl, rfl, trivial⟩, hS.F ht⟩) hS.2.2 dX4_hasClerk_26

set_option maxHeartbeats 4000000 in
set_option maxRecDepth 100000 in
theorem c_X4_lengthBetween (l : Launch) (D : va_G) (o : Nat) (os : List Value) (x y : Int32) : Met l yX4_lengthBetween (.code yX4_lengthBetween cX4_lengthBetween 3 (some .int) :: gw) ({ frames := 1, cells := 0, slots := 0, locals := 40 }) (va_Pc [.ref o, .int x, .int y] (pr D [(o, .inr (4, .int 0 :: .int 0 :: os))] [])) (va_Qi (fun r (_ : Unit) => r = 0) (fun _ _ => True) (fun _ => False)) 0 0 (fun _ => False) := by
  refine Met.ofW (cc := cX4_lengthBetween) (maxL := 3) (ret := (some .int)) (by decide) rfl ?_
  intro p e s m args below meth c s₁ B hml hv
  obtain ⟨rfl, hP, hK⟩ := hv
  have hx := B.exec
  have hb := B.bytes
  have hr := B.returns
  have hts := atoms_spec (ws := .code yX4_lengthBetween cX4_lengthBetween 3 (some .int) :: gw) B.pre
  have htg := gw_tl hts
  have hown : s.vm.findClass RX4 = some m.cls := findClass_of_methodNamed B.named
  have hlocks := B.notSynchronized
  have hS : va_S (fun _ => False) s.heap s.heap [] := va_S.rf
  have hl := lv_entry ([.ref o, .int x, .int y]) (n := 3) (Nat.le_of_ble_eq_true rfl)
  rw [lg_entry_eq]
  generalize (lg_sl ([.ref o, .int x, .int y]) ++ List.replicate (3 - (lg_sl ([.ref o, .int x, .int y])).length) Slot.unset).toArray = ls at hl ⊢
  have hl : lv_has ls 3 [(0, .ref o), (1, .int x), (2, .int y)] := hl
  refine lv_aload_n hx hb dX4_lengthBetween_0 rfl (lv_at hl 0 rfl) ?_
  refine lv_iload_n hx hb dX4_lengthBetween_1 rfl (lv_at hl 1 rfl) ?_
  have hPc := hP.sub (ws' := [(o, .inr (4, .int 0 :: .int 0 :: os))]) [0] rfl
  have hKc := hK.sub (tys' := []) [] rfl
  refine va_calli (va_runV (As := [.int x]) (rest := []) ⟨hx, hb, hml, hown, htg⟩ (c_X4_hasDesk l D o os x) (cV 1 htg mw_6 kv_X4_hasDesk rfl rfl ⟨(Nat.le_of_ble_eq_true rfl), (Nat.le_of_ble_eq_true rfl)⟩) ⟨bl_r, va_recv hKc hPc (ci := 4) (q0 := 0) rfl rfl, us_r hPc hKc⟩ rfl rfl hl.1 rfl (lv_room (Nat.le_of_ble_eq_true rfl)) dX4_lengthBetween_2 ⟨(Nat.le_of_ble_eq_true rfl), (Nat.le_of_ble_eq_true rfl)⟩) hS (fun _ _ h9 => False.elim h9) (fun _ h9 => False.elim h9) (fun r_1 u t H locs ht hvm hw hB hz1 hk1 hS => ?_)
  have hP := ro_keep hP hk1
  subst hw
  refine lv_if_eq (tgt := 30) hx hb dX4_lengthBetween_5 (by decide) (fun _ => ?_) (fun h9 => False.elim (h9 (by decide)))
  refine lv_iconst (v := 0) hx hb dX4_lengthBetween_30 (by decide) ?_
  exact W.iret (v := 0) hx hb hr  (fun t ht hW => ⟨⟨0, (), rfl, rfl, trivial⟩, hS.F ht⟩) hS.2.2 dX4_lengthBetween_31

set_option maxHeartbeats 4000000 in
set_option maxRecDepth 100000 in
theorem c_X4_hindrance (l : Launch) (D : va_G) (o : Nat) (os : List Value) (x y : Int32) : Met l yX4_hindrance (.code yX4_hindrance cX4_hindrance 5 (some .int) :: gw) ({ frames := 1, cells := 0, slots := 0, locals := 40 }) (va_Pc [.ref o, .null, .int x, .int y] (pr D [(o, .inr (4, .int 0 :: .int 0 :: os))] [])) (va_Qi (fun r (_ : Unit) => r = 1) (fun _ _ => True) (fun _ => False)) 0 0 (fun _ => False) := by
  refine Met.ofW (cc := cX4_hindrance) (maxL := 5) (ret := (some .int)) (by decide) rfl ?_
  intro p e s m args below meth c s₁ B hml hv
  obtain ⟨rfl, hP, hK⟩ := hv
  have hx := B.exec
  have hb := B.bytes
  have hr := B.returns
  have hts := atoms_spec (ws := .code yX4_hindrance cX4_hindrance 5 (some .int) :: gw) B.pre
  have htg := gw_tl hts
  have hown : s.vm.findClass RX4 = some m.cls := findClass_of_methodNamed B.named
  have hlocks := B.notSynchronized
  have hS : va_S (fun _ => False) s.heap s.heap [] := va_S.rf
  have hl := lv_entry ([.ref o, .null, .int x, .int y]) (n := 5) (Nat.le_of_ble_eq_true rfl)
  rw [lg_entry_eq]
  generalize (lg_sl ([.ref o, .null, .int x, .int y]) ++ List.replicate (5 - (lg_sl ([.ref o, .null, .int x, .int y])).length) Slot.unset).toArray = ls at hl ⊢
  have hl : lv_has ls 5 [(0, .ref o), (1, .null), (2, .int x), (3, .int y)] := hl
  refine lv_aload_n hx hb dX4_hindrance_0 rfl (lv_at hl 0 rfl) ?_
  refine lv_iload_n hx hb dX4_hindrance_1 rfl (lv_at hl 2 rfl) ?_
  have hPc := hP.sub (ws' := [(o, .inr (4, .int 0 :: .int 0 :: os))]) [0] rfl
  have hKc := hK.sub (tys' := []) [] rfl
  refine va_calli (va_runV (As := [.int x]) (rest := []) ⟨hx, hb, hml, hown, htg⟩ (c_X4_hasClerk l D o os x) (cV 1 htg mw_10 kv_X4_hasClerk rfl rfl ⟨(Nat.le_of_ble_eq_true rfl), (Nat.le_of_ble_eq_true rfl)⟩) ⟨bl_r, va_recv hKc hPc (ci := 4) (q0 := 0) rfl rfl, us_r hPc hKc⟩ rfl rfl hl.1 rfl (lv_room (Nat.le_of_ble_eq_true rfl)) dX4_hindrance_2 ⟨(Nat.le_of_ble_eq_true rfl), (Nat.le_of_ble_eq_true rfl)⟩) hS (fun _ _ h9 => False.elim h9) (fun _ h9 => False.elim h9) (fun r_1 u t H locs ht hvm hw hB hz1 hk1 hS => ?_)
  have hP := ro_keep hP hk1
  subst hw
  refine lv_if_eq (tgt := 16) hx hb dX4_hindrance_5 (by decide) (fun _ => ?_) (fun h9 => False.elim (h9 (by decide)))
  refine lv_iconst (v := 1) hx hb dX4_hindrance_16 (by decide) ?_
  exact W.iret (v := 1) hx hb hr  (fun t ht hW => ⟨⟨1, (), rfl, rfl, trivial⟩, hS.F ht⟩) hS.2.2 dX4_hindrance_17

set_option maxHeartbeats 4000000 in
set_option maxRecDepth 100000 in
theorem c_X7_kindOf (l : Launch) (D : va_G) (tq : Nat) (ts : List Value) (o : Nat) (os : List Value) : Met l yX7_kindOf (.code yX7_kindOf cX7_kindOf 5 (some .int) :: gw) ({ frames := 0, cells := 0, slots := 0, locals := 0 }) (va_Pc [.ref tq, .ref o] (pr D [(tq, .inr (7, ts)), (o, .inr (4, .int 0 :: .int 0 :: os))] [])) (va_Qi (fun r (_ : Unit) => r = (-1)) (fun _ _ => True) (fun _ => False)) 0 0 (fun _ => False) := by
  refine Met.ofW (cc := cX7_kindOf) (maxL := 5) (ret := (some .int)) (by decide) rfl ?_
  intro p e s m args below meth c s₁ B hml hv
  obtain ⟨rfl, hP, hK⟩ := hv
  have hx := B.exec
  have hb := B.bytes
  have hr := B.returns
  have hts := atoms_spec (ws := .code yX7_kindOf cX7_kindOf 5 (some .int) :: gw) B.pre
  have htg := gw_tl hts
  have hown : s.vm.findClass RX7 = some m.cls := findClass_of_methodNamed B.named
  have hlocks := B.notSynchronized
  have hS : va_S (fun _ => False) s.heap s.heap [] := va_S.rf
  have hl := lv_entry ([.ref tq, .ref o]) (n := 5) (Nat.le_of_ble_eq_true rfl)
  rw [lg_entry_eq]
  generalize (lg_sl ([.ref tq, .ref o]) ++ List.replicate (5 - (lg_sl ([.ref tq, .ref o])).length) Slot.unset).toArray = ls at hl ⊢
  have hl : lv_has ls 5 [(0, .ref tq), (1, .ref o)] := hl
  refine lv_aload_n hx hb dX7_kindOf_0 rfl (lv_at hl 1 rfl) ?_
  refine va_get (D := D) (ci := 4) (v := .int 0) (C := RX4) (T := TX4) (N := 11) hx hb htg in_X4 hown hK hP 1 rfl rfl 0 (by decide) (htg _ mw_11) (fun _ h9 => h9) rfl dX7_kindOf_1 ?_
  refine lv_if_eq (tgt := 23) hx hb dX7_kindOf_4 (by decide) (fun _ => ?_) (fun h9 => False.elim (h9 (by decide)))
  refine lv_iconst (v := (-1)) hx hb dX7_kindOf_23 (by decide) ?_
  exact W.iret (v := (-1)) hx hb hr  (fun t ht hW => ⟨⟨(-1), (), rfl, rfl, trivial⟩, hS.F ht⟩) hS.2.2 dX7_kindOf_24

set_option maxHeartbeats 4000000 in
set_option maxRecDepth 100000 in
theorem c_X1_moveAt (l : Launch) (D : va_G) (o q : Nat) (os : List Value) (x : Int32) : Met l yX1_moveAt (.code yX1_moveAt cX1_moveAt 2 (some .int) :: gw) ({ frames := 0, cells := 0, slots := 0, locals := 0 }) (va_Pc [.ref o, .int x] (pr D [(o, .inr (1, .ref q :: .int 0 :: os))] [])) (va_Qi (fun r (_ : Unit) => r = (-1)) (fun _ _ => True) (fun _ => False)) 0 0 (fun _ => False) := by
  refine Met.ofW (cc := cX1_moveAt) (maxL := 2) (ret := (some .int)) (by decide) rfl ?_
  intro p e s m args below meth c s₁ B hml hv
  obtain ⟨rfl, hP, hK⟩ := hv
  have hx := B.exec
  have hb := B.bytes
  have hr := B.returns
  have hts := atoms_spec (ws := .code yX1_moveAt cX1_moveAt 2 (some .int) :: gw) B.pre
  have htg := gw_tl hts
  have hown : s.vm.findClass RX1 = some m.cls := findClass_of_methodNamed B.named
  have hlocks := B.notSynchronized
  have hS : va_S (fun _ => False) s.heap s.heap [] := va_S.rf
  have hl := lv_entry ([.ref o, .int x]) (n := 2) (Nat.le_of_ble_eq_true rfl)
  rw [lg_entry_eq]
  generalize (lg_sl ([.ref o, .int x]) ++ List.replicate (2 - (lg_sl ([.ref o, .int x])).length) Slot.unset).toArray = ls at hl ⊢
  have hl : lv_has ls 2 [(0, .ref o), (1, .int x)] := hl
  refine lv_iload_n hx hb dX1_moveAt_0 rfl (lv_at hl 1 rfl) ?_
  refine lv_if_lt (tgt := 25) hx hb dX1_moveAt_1 (by decide) (fun h_1 => ?_) (fun h_1 => ?_)
  · refine lv_iconst (v := (-1)) hx hb dX1_moveAt_25 (by decide) ?_
    exact W.iret (v := (-1)) hx hb hr  (fun t ht hW => ⟨⟨(-1), (), rfl, rfl, trivial⟩, hS.F ht⟩) hS.2.2 dX1_moveAt_26
  · refine lv_iload_n hx hb dX1_moveAt_4 rfl (lv_at hl 1 rfl) ?_
    refine lv_aload_n hx hb dX1_moveAt_5 rfl (lv_at hl 0 rfl) ?_
    refine va_get (D := D) (ci := 1) (v := .int 0) (C := RX1) (T := TX1) (N := 6) hx hb htg in_X1 hown hK hP 0 rfl rfl 1 (by decide) (htg _ mw_12) (fun _ h9 => h9) rfl dX1_moveAt_6 ?_
    refine lv_icmp_ge (tgt := 25) hx hb dX1_moveAt_9 (by decide) (fun h_2 => ?_) (fun h_2 => ?_)
    · refine lv_iconst (v := (-1)) hx hb dX1_moveAt_25 (by decide) ?_
      exact W.iret (v := (-1)) hx hb hr  (fun t ht hW => ⟨⟨(-1), (), rfl, rfl, trivial⟩, hS.F ht⟩) hS.2.2 dX1_moveAt_26
    · exfalso
      simp only [ar_lt, ar_le, ar_eq, ar_n0, ar_n1, ar_n2, ar_n3, ar_n4, ar_n5, ar_n6, ar_n7, ar_n8, ar_n9, ar_n11, ar_n12, ar_n60, ar_n99, ar_nm1] at h_2 h_1
      omega
end
section
set_option maxHeartbeats 4000000 in
set_option maxRecDepth 100000 in
theorem c_X10_lawOf (l : Launch) (D : va_G) (a : Nat → Nat) (cA : Nat → ClassId) (f : Nat → Nat → Int32)  : Met l yX10_lawOf (.code yX10_lawOf cX10_lawOf 2 (some (.object "DeskMoves$Law")) :: gw) ({ frames := 0, cells := 0, slots := 0, locals := 0 }) (va_Pc [.ref (a 0), .int (-1)] (pr D [((a 0), .inr (10, [.ref (a 1), .ref (a 3), .ref (a 40), .int 0, .int (-1), .ref (a 4), .ref (a 5), .ref (a 6), .ref (a 7), .ref (a 8), .ref (a 9), .ref (a 10), .null, .null, .int 0, .int (-1), .ref (a 41)])), ((a 1), .inr (6, [.ref (a 2), .int 0, .int 0])), ((a 2), .inl ((cA 2), 160, .inl (f 2))), ((a 3), .inr (3, [.ref (a 1), .ref (a 42), .int 0, .int 0])), ((a 4), .inr (4, [.int 0, .int 0, .ref (a 43), .ref (a 44), .ref (a 45), .ref (a 46), .ref (a 47), .ref (a 48), .ref (a 49), .ref (a 50), .ref (a 51)])), ((a 5), .inr (4, [.int 0, .int 0, .ref (a 11), .ref (a 12), .ref (a 13), .ref (a 14), .ref (a 15), .ref (a 16), .ref (a 17), .ref (a 18), .ref (a 19)])), ((a 6), .inr (5, [.ref (a 52), .int 0, .ref (a 53), .int 0, .int 0, .int 0])), ((a 7), .inr (5, [.ref (a 54), .int 0, .ref (a 55), .int 0, .int 0, .int 0])), ((a 8), .inr (1, [.ref (a 56), .int 0, .int 0, .ref (a 57), .int 0, .ref (a 58)])), ((a 9), .inr (7, [.ref (a 59), .ref (a 60), .ref (a 61)])), ((a 11), .inl ((cA 11), 12, .inl (f 11))), ((a 12), .inl ((cA 12), 12, .inl (f 12))), ((a 13), .inl ((cA 13), 144, .inl (f 13))), ((a 14), .inl ((cA 14), 12, .inl (f 14))), ((a 15), .inl ((cA 15), 12, .inl (f 15))), ((a 16), .inl ((cA 16), 12, .inl (f 16))), ((a 17), .inl ((cA 17), 12, .inl (f 17))), ((a 18), .inl ((cA 18), 12, .inl (f 18))), ((a 19), .inl ((cA 19), 144, .inl (f 19)))] [((cA 2), .int), ((cA 11), .int), ((cA 12), .int), ((cA 13), .int), ((cA 14), .int), ((cA 15), .int), ((cA 16), .int), ((cA 17), .int), ((cA 18), .int), ((cA 19), .int)])) (va_QN (fun _ => False)) 0 0 (fun _ => False) := by
  refine Met.ofW (cc := cX10_lawOf) (maxL := 2) (ret := (some (.object "DeskMoves$Law"))) (by decide) rfl ?_
  intro p e s m args below meth c s₁ B hml hv
  obtain ⟨rfl, hP, hK⟩ := hv
  have hx := B.exec
  have hb := B.bytes
  have hr := B.returns
  have hts := atoms_spec (ws := .code yX10_lawOf cX10_lawOf 2 (some (.object "DeskMoves$Law")) :: gw) B.pre
  have htg := gw_tl hts
  have hown : s.vm.findClass RX10 = some m.cls := findClass_of_methodNamed B.named
  have hlocks := B.notSynchronized
  have hS : va_S (fun _ => False) s.heap s.heap [] := va_S.rf
  have hl := lv_entry ([.ref (a 0), .int (-1)]) (n := 2) (Nat.le_of_ble_eq_true rfl)
  rw [lg_entry_eq]
  generalize (lg_sl ([.ref (a 0), .int (-1)]) ++ List.replicate (2 - (lg_sl ([.ref (a 0), .int (-1)])).length) Slot.unset).toArray = ls at hl ⊢
  have hl : lv_has ls 2 [(0, .ref (a 0)), (1, .int (-1))] := hl
  refine lv_iload_n hx hb dX10_lawOf_0 rfl (lv_at hl 1 rfl) ?_
  refine lv_if_lt (tgt := 21) hx hb dX10_lawOf_1 (by decide) (fun _ => ?_) (fun h9 => False.elim (h9 (by decide)))
  refine lv_null hx hb dX10_lawOf_21 ?_
  exact W.aret (v := .null) hx hb hr (Or.inl ⟨_, rfl⟩) (Or.inl rfl) (fun t ht hW => ⟨rfl, hS.F ht⟩) hS.2.2 dX10_lawOf_22

set_option maxHeartbeats 4000000 in
set_option maxRecDepth 100000 in
theorem c_X10_isSearched (l : Launch) (D : va_G) (a : Nat → Nat) (cA : Nat → ClassId) (f : Nat → Nat → Int32)  : Met l yX10_isSearched (.code yX10_isSearched cX10_isSearched 1 (some .boolean) :: gw) ({ frames := 0, cells := 0, slots := 0, locals := 0 }) (va_Pc [.ref (a 0)] (pr D [((a 0), .inr (10, [.ref (a 1), .ref (a 3), .ref (a 40), .int 0, .int (-1), .ref (a 4), .ref (a 5), .ref (a 6), .ref (a 7), .ref (a 8), .ref (a 9), .ref (a 10), .null, .null, .int 0, .int (-1), .ref (a 41)])), ((a 1), .inr (6, [.ref (a 2), .int 0, .int 0])), ((a 2), .inl ((cA 2), 160, .inl (f 2))), ((a 3), .inr (3, [.ref (a 1), .ref (a 42), .int 0, .int 0])), ((a 4), .inr (4, [.int 0, .int 0, .ref (a 43), .ref (a 44), .ref (a 45), .ref (a 46), .ref (a 47), .ref (a 48), .ref (a 49), .ref (a 50), .ref (a 51)])), ((a 5), .inr (4, [.int 0, .int 0, .ref (a 11), .ref (a 12), .ref (a 13), .ref (a 14), .ref (a 15), .ref (a 16), .ref (a 17), .ref (a 18), .ref (a 19)])), ((a 6), .inr (5, [.ref (a 52), .int 0, .ref (a 53), .int 0, .int 0, .int 0])), ((a 7), .inr (5, [.ref (a 54), .int 0, .ref (a 55), .int 0, .int 0, .int 0])), ((a 8), .inr (1, [.ref (a 56), .int 0, .int 0, .ref (a 57), .int 0, .ref (a 58)])), ((a 9), .inr (7, [.ref (a 59), .ref (a 60), .ref (a 61)])), ((a 11), .inl ((cA 11), 12, .inl (f 11))), ((a 12), .inl ((cA 12), 12, .inl (f 12))), ((a 13), .inl ((cA 13), 144, .inl (f 13))), ((a 14), .inl ((cA 14), 12, .inl (f 14))), ((a 15), .inl ((cA 15), 12, .inl (f 15))), ((a 16), .inl ((cA 16), 12, .inl (f 16))), ((a 17), .inl ((cA 17), 12, .inl (f 17))), ((a 18), .inl ((cA 18), 12, .inl (f 18))), ((a 19), .inl ((cA 19), 144, .inl (f 19)))] [((cA 2), .int), ((cA 11), .int), ((cA 12), .int), ((cA 13), .int), ((cA 14), .int), ((cA 15), .int), ((cA 16), .int), ((cA 17), .int), ((cA 18), .int), ((cA 19), .int)])) (va_Qi (fun r (_ : Unit) => r = 0) (fun _ _ => True) (fun _ => False)) 0 0 (fun _ => False) := by
  refine Met.ofW (cc := cX10_isSearched) (maxL := 1) (ret := (some .boolean)) (by decide) rfl ?_
  intro p e s m args below meth c s₁ B hml hv
  obtain ⟨rfl, hP, hK⟩ := hv
  have hx := B.exec
  have hb := B.bytes
  have hr := B.returns
  have hts := atoms_spec (ws := .code yX10_isSearched cX10_isSearched 1 (some .boolean) :: gw) B.pre
  have htg := gw_tl hts
  have hown : s.vm.findClass RX10 = some m.cls := findClass_of_methodNamed B.named
  have hlocks := B.notSynchronized
  have hS : va_S (fun _ => False) s.heap s.heap [] := va_S.rf
  have hl := lv_entry ([.ref (a 0)]) (n := 1) (Nat.le_of_ble_eq_true rfl)
  rw [lg_entry_eq]
  generalize (lg_sl ([.ref (a 0)]) ++ List.replicate (1 - (lg_sl ([.ref (a 0)])).length) Slot.unset).toArray = ls at hl ⊢
  have hl : lv_has ls 1 [(0, .ref (a 0))] := hl
  refine lv_aload_n hx hb dX10_isSearched_0 rfl (lv_at hl 0 rfl) ?_
  refine va_get (D := D) (ci := 10) (v := .ref (a 4)) (C := RX10) (T := TX10) (N := 17) hx hb htg in_X10 hown hK hP 0 rfl rfl 5 (by decide) (htg _ mw_13) (fun _ h9 => h9) rfl dX10_isSearched_1 ?_
  refine va_get (D := D) (ci := 4) (v := .int 0) (C := RX4) (T := TX4) (N := 11) hx hb htg in_X4 hown hK hP 4 rfl rfl 0 (by decide) (htg _ mw_14) (fun _ h9 => h9) rfl dX10_isSearched_4 ?_
  refine lv_if_le (tgt := 26) hx hb dX10_isSearched_7 (by decide) (fun _ => ?_) (fun h9 => False.elim (h9 (by decide)))
  refine lv_iconst (v := 0) hx hb dX10_isSearched_26 (by decide) ?_
  exact W.zret (v := 0) hx hb hr (by first | rfl | decide | exact ar_nb _) (fun t ht hW => ⟨⟨0, (), rfl, rfl, trivial⟩, hS.F ht⟩) hS.2.2 dX10_isSearched_27

set_option maxHeartbeats 4000000 in
set_option maxRecDepth 100000 in
theorem c_X10_door (l : Launch) (D : va_G) (a : Nat → Nat) (cA : Nat → ClassId) (f : Nat → Nat → Int32) (x y : Int32) : Met l yX10_door (.code yX10_door cX10_door 4 (some .int) :: gw) ({ frames := 2, cells := 0, slots := 0, locals := 80 }) (va_Pc [.ref (a 0), .int x, .int y] (pr D [((a 0), .inr (10, [.ref (a 1), .ref (a 3), .ref (a 40), .int 0, .int (-1), .ref (a 4), .ref (a 5), .ref (a 6), .ref (a 7), .ref (a 8), .ref (a 9), .ref (a 10), .null, .null, .int 0, .int (-1), .ref (a 41)])), ((a 1), .inr (6, [.ref (a 2), .int 0, .int 0])), ((a 2), .inl ((cA 2), 160, .inl (f 2))), ((a 3), .inr (3, [.ref (a 1), .ref (a 42), .int 0, .int 0])), ((a 4), .inr (4, [.int 0, .int 0, .ref (a 43), .ref (a 44), .ref (a 45), .ref (a 46), .ref (a 47), .ref (a 48), .ref (a 49), .ref (a 50), .ref (a 51)])), ((a 5), .inr (4, [.int 0, .int 0, .ref (a 11), .ref (a 12), .ref (a 13), .ref (a 14), .ref (a 15), .ref (a 16), .ref (a 17), .ref (a 18), .ref (a 19)])), ((a 6), .inr (5, [.ref (a 52), .int 0, .ref (a 53), .int 0, .int 0, .int 0])), ((a 7), .inr (5, [.ref (a 54), .int 0, .ref (a 55), .int 0, .int 0, .int 0])), ((a 8), .inr (1, [.ref (a 56), .int 0, .int 0, .ref (a 57), .int 0, .ref (a 58)])), ((a 9), .inr (7, [.ref (a 59), .ref (a 60), .ref (a 61)])), ((a 11), .inl ((cA 11), 12, .inl (f 11))), ((a 12), .inl ((cA 12), 12, .inl (f 12))), ((a 13), .inl ((cA 13), 144, .inl (f 13))), ((a 14), .inl ((cA 14), 12, .inl (f 14))), ((a 15), .inl ((cA 15), 12, .inl (f 15))), ((a 16), .inl ((cA 16), 12, .inl (f 16))), ((a 17), .inl ((cA 17), 12, .inl (f 17))), ((a 18), .inl ((cA 18), 12, .inl (f 18))), ((a 19), .inl ((cA 19), 144, .inl (f 19)))] [((cA 2), .int), ((cA 11), .int), ((cA 12), .int), ((cA 13), .int), ((cA 14), .int), ((cA 15), .int), ((cA 16), .int), ((cA 17), .int), ((cA 18), .int), ((cA 19), .int)])) (va_Qi (fun r (_ : Unit) => r = (-1)) (fun _ _ => True) (fun _ => False)) 0 0 (fun _ => False) := by
  refine Met.ofW (cc := cX10_door) (maxL := 4) (ret := (some .int)) (by decide) rfl ?_
  intro p e s m args below meth c s₁ B hml hv
  obtain ⟨rfl, hP, hK⟩ := hv
  have hx := B.exec
  have hb := B.bytes
  have hr := B.returns
  have hts := atoms_spec (ws := .code yX10_door cX10_door 4 (some .int) :: gw) B.pre
  have htg := gw_tl hts
  have hown : s.vm.findClass RX10 = some m.cls := findClass_of_methodNamed B.named
  have hlocks := B.notSynchronized
  have hS : va_S (fun _ => False) s.heap s.heap [] := va_S.rf
  have hl := lv_entry ([.ref (a 0), .int x, .int y]) (n := 4) (Nat.le_of_ble_eq_true rfl)
  rw [lg_entry_eq]
  generalize (lg_sl ([.ref (a 0), .int x, .int y]) ++ List.replicate (4 - (lg_sl ([.ref (a 0), .int x, .int y])).length) Slot.unset).toArray = ls at hl ⊢
  have hl : lv_has ls 4 [(0, .ref (a 0)), (1, .int x), (2, .int y)] := hl
  refine lv_aload_n hx hb dX10_door_0 rfl (lv_at hl 0 rfl) ?_
  refine va_get (D := D) (ci := 10) (v := .ref (a 4)) (C := RX10) (T := TX10) (N := 17) hx hb htg in_X10 hown hK hP 0 rfl rfl 5 (by decide) (htg _ mw_13) (fun _ h9 => h9) rfl dX10_door_1 ?_
  refine lv_iload_n hx hb dX10_door_4 rfl (lv_at hl 1 rfl) ?_
  refine lv_iload_n hx hb dX10_door_5 rfl (lv_at hl 2 rfl) ?_
  have hPc := hP.sub (ws' := [((a 4), .inr (4, [.int 0, .int 0, .ref (a 43), .ref (a 44), .ref (a 45), .ref (a 46), .ref (a 47), .ref (a 48), .ref (a 49), .ref (a 50), .ref (a 51)]))]) [4] rfl
  have hKc := hK.sub (tys' := []) [] rfl
  refine va_calli (va_runV (As := [.int x, .int y]) (rest := []) ⟨hx, hb, hml, hown, htg⟩ (c_X4_lengthBetween l D (a 4) [.ref (a 43), .ref (a 44), .ref (a 45), .ref (a 46), .ref (a 47), .ref (a 48), .ref (a 49), .ref (a 50), .ref (a 51)] x y) (cV 2 htg mw_18 kv_X4_lengthBetween rfl rfl ⟨(Nat.le_of_ble_eq_true rfl), (Nat.le_of_ble_eq_true rfl)⟩) ⟨bl_r, va_recv hKc hPc (ci := 4) (q0 := 0) rfl rfl, us_r hPc hKc⟩ rfl rfl hl.1 rfl (lv_room (Nat.le_of_ble_eq_true rfl)) dX10_door_6 ⟨(Nat.le_of_ble_eq_true rfl), (Nat.le_of_ble_eq_true rfl)⟩) hS (fun _ _ h9 => False.elim h9) (fun _ h9 => False.elim h9) (fun r_1 u t H locs ht hvm hw hB hz1 hk1 hS => ?_)
  have hP := ro_keep hP hk1
  subst hw
  refine lv_istore_n (lv' := [(3, .int 0), (0, .ref (a 0)), (1, .int x), (2, .int y)]) hx hb dX10_door_9 rfl hl (by decide) rfl (fun ls hl => ?_)
  refine lv_iload_n hx hb dX10_door_10 rfl (lv_at hl 0 rfl) ?_
  refine lv_if_le (tgt := 18) hx hb dX10_door_11 (by decide) (fun _ => ?_) (fun h9 => False.elim (h9 (by decide)))
  refine lv_iconst (v := (-1)) hx hb dX10_door_18 (by decide) ?_
  exact W.iret (v := (-1)) hx hb hr  (fun t ht hW => ⟨⟨(-1), (), rfl, rfl, trivial⟩, hS.F ht⟩) hS.2.2 dX10_door_19

set_option maxHeartbeats 4000000 in
set_option maxRecDepth 100000 in
theorem c_X10_quarrel (l : Launch) (D : va_G) (a : Nat → Nat) (cA : Nat → ClassId) (f : Nat → Nat → Int32) (x y : Int32) : Met l yX10_quarrel (.code yX10_quarrel cX10_quarrel 3 (some .int) :: gw) ({ frames := 1, cells := 0, slots := 0, locals := 40 }) (va_Pc [.ref (a 0), .int x, .int y] (pr D [((a 0), .inr (10, [.ref (a 1), .ref (a 3), .ref (a 40), .int 0, .int (-1), .ref (a 4), .ref (a 5), .ref (a 6), .ref (a 7), .ref (a 8), .ref (a 9), .ref (a 10), .null, .null, .int 0, .int (-1), .ref (a 41)])), ((a 1), .inr (6, [.ref (a 2), .int 0, .int 0])), ((a 2), .inl ((cA 2), 160, .inl (f 2))), ((a 3), .inr (3, [.ref (a 1), .ref (a 42), .int 0, .int 0])), ((a 4), .inr (4, [.int 0, .int 0, .ref (a 43), .ref (a 44), .ref (a 45), .ref (a 46), .ref (a 47), .ref (a 48), .ref (a 49), .ref (a 50), .ref (a 51)])), ((a 5), .inr (4, [.int 0, .int 0, .ref (a 11), .ref (a 12), .ref (a 13), .ref (a 14), .ref (a 15), .ref (a 16), .ref (a 17), .ref (a 18), .ref (a 19)])), ((a 6), .inr (5, [.ref (a 52), .int 0, .ref (a 53), .int 0, .int 0, .int 0])), ((a 7), .inr (5, [.ref (a 54), .int 0, .ref (a 55), .int 0, .int 0, .int 0])), ((a 8), .inr (1, [.ref (a 56), .int 0, .int 0, .ref (a 57), .int 0, .ref (a 58)])), ((a 9), .inr (7, [.ref (a 59), .ref (a 60), .ref (a 61)])), ((a 11), .inl ((cA 11), 12, .inl (f 11))), ((a 12), .inl ((cA 12), 12, .inl (f 12))), ((a 13), .inl ((cA 13), 144, .inl (f 13))), ((a 14), .inl ((cA 14), 12, .inl (f 14))), ((a 15), .inl ((cA 15), 12, .inl (f 15))), ((a 16), .inl ((cA 16), 12, .inl (f 16))), ((a 17), .inl ((cA 17), 12, .inl (f 17))), ((a 18), .inl ((cA 18), 12, .inl (f 18))), ((a 19), .inl ((cA 19), 144, .inl (f 19)))] [((cA 2), .int), ((cA 11), .int), ((cA 12), .int), ((cA 13), .int), ((cA 14), .int), ((cA 15), .int), ((cA 16), .int), ((cA 17), .int), ((cA 18), .int), ((cA 19), .int)])) (va_Qi (fun r (_ : Unit) => r = (-1)) (fun _ _ => True) (fun _ => False)) 0 0 (fun _ => False) := by
  refine Met.ofW (cc := cX10_quarrel) (maxL := 3) (ret := (some .int)) (by decide) rfl ?_
  intro p e s m args below meth c s₁ B hml hv
  obtain ⟨rfl, hP, hK⟩ := hv
  have hx := B.exec
  have hb := B.bytes
  have hr := B.returns
  have hts := atoms_spec (ws := .code yX10_quarrel cX10_quarrel 3 (some .int) :: gw) B.pre
  have htg := gw_tl hts
  have hown : s.vm.findClass RX10 = some m.cls := findClass_of_methodNamed B.named
  have hlocks := B.notSynchronized
  have hS : va_S (fun _ => False) s.heap s.heap [] := va_S.rf
  have hl := lv_entry ([.ref (a 0), .int x, .int y]) (n := 3) (Nat.le_of_ble_eq_true rfl)
  rw [lg_entry_eq]
  generalize (lg_sl ([.ref (a 0), .int x, .int y]) ++ List.replicate (3 - (lg_sl ([.ref (a 0), .int x, .int y])).length) Slot.unset).toArray = ls at hl ⊢
  have hl : lv_has ls 3 [(0, .ref (a 0)), (1, .int x), (2, .int y)] := hl
  refine lv_aload_n hx hb dX10_quarrel_0 rfl (lv_at hl 0 rfl) ?_
  refine va_get (D := D) (ci := 10) (v := .ref (a 4)) (C := RX10) (T := TX10) (N := 17) hx hb htg in_X10 hown hK hP 0 rfl rfl 5 (by decide) (htg _ mw_13) (fun _ h9 => h9) rfl dX10_quarrel_1 ?_
  refine lv_iload_n hx hb dX10_quarrel_4 rfl (lv_at hl 1 rfl) ?_
  have hPc := hP.sub (ws' := [((a 4), .inr (4, [.int 0, .int 0, .ref (a 43), .ref (a 44), .ref (a 45), .ref (a 46), .ref (a 47), .ref (a 48), .ref (a 49), .ref (a 50), .ref (a 51)]))]) [4] rfl
  have hKc := hK.sub (tys' := []) [] rfl
  refine va_calli (va_runV (As := [.int x]) (rest := []) ⟨hx, hb, hml, hown, htg⟩ (c_X4_hasClerk l D (a 4) [.ref (a 43), .ref (a 44), .ref (a 45), .ref (a 46), .ref (a 47), .ref (a 48), .ref (a 49), .ref (a 50), .ref (a 51)] x) (cV 1 htg mw_19 kv_X4_hasClerk rfl rfl ⟨(Nat.le_of_ble_eq_true rfl), (Nat.le_of_ble_eq_true rfl)⟩) ⟨bl_r, va_recv hKc hPc (ci := 4) (q0 := 0) rfl rfl, us_r hPc hKc⟩ rfl rfl hl.1 rfl (lv_room (Nat.le_of_ble_eq_true rfl)) dX10_quarrel_5 ⟨(Nat.le_of_ble_eq_true rfl), (Nat.le_of_ble_eq_true rfl)⟩) hS (fun _ _ h9 => False.elim h9) (fun _ h9 => False.elim h9) (fun r_1 u t H locs ht hvm hw hB hz1 hk1 hS => ?_)
  have hP := ro_keep hP hk1
  subst hw
  refine lv_if_eq (tgt := 27) hx hb dX10_quarrel_8 (by decide) (fun _ => ?_) (fun h9 => False.elim (h9 (by decide)))
  refine lv_iconst (v := (-1)) hx hb dX10_quarrel_27 (by decide) ?_
  exact W.iret (v := (-1)) hx hb hr  (fun t ht hW => ⟨⟨(-1), (), rfl, rfl, trivial⟩, hS.F ht⟩) hS.2.2 dX10_quarrel_28

set_option maxHeartbeats 4000000 in
set_option maxRecDepth 100000 in
theorem c_X10_set (l : Launch) (D : va_G) (a : Nat → Nat) (cA : Nat → ClassId) (f : Nat → Nat → Int32) (x y z : Int32) : Met l yX10_set (.code yX10_set cX10_set 4 (some .boolean) :: gw) ({ frames := 1, cells := 0, slots := 0, locals := 40 }) (va_Pc [.ref (a 0), .int x, .int y, .int z] (pr D [((a 0), .inr (10, [.ref (a 1), .ref (a 3), .ref (a 40), .int 0, .int (-1), .ref (a 4), .ref (a 5), .ref (a 6), .ref (a 7), .ref (a 8), .ref (a 9), .ref (a 10), .null, .null, .int 0, .int (-1), .ref (a 41)])), ((a 1), .inr (6, [.ref (a 2), .int 0, .int 0])), ((a 2), .inl ((cA 2), 160, .inl (f 2))), ((a 3), .inr (3, [.ref (a 1), .ref (a 42), .int 0, .int 0])), ((a 4), .inr (4, [.int 0, .int 0, .ref (a 43), .ref (a 44), .ref (a 45), .ref (a 46), .ref (a 47), .ref (a 48), .ref (a 49), .ref (a 50), .ref (a 51)])), ((a 5), .inr (4, [.int 0, .int 0, .ref (a 11), .ref (a 12), .ref (a 13), .ref (a 14), .ref (a 15), .ref (a 16), .ref (a 17), .ref (a 18), .ref (a 19)])), ((a 6), .inr (5, [.ref (a 52), .int 0, .ref (a 53), .int 0, .int 0, .int 0])), ((a 7), .inr (5, [.ref (a 54), .int 0, .ref (a 55), .int 0, .int 0, .int 0])), ((a 8), .inr (1, [.ref (a 56), .int 0, .int 0, .ref (a 57), .int 0, .ref (a 58)])), ((a 9), .inr (7, [.ref (a 59), .ref (a 60), .ref (a 61)])), ((a 11), .inl ((cA 11), 12, .inl (f 11))), ((a 12), .inl ((cA 12), 12, .inl (f 12))), ((a 13), .inl ((cA 13), 144, .inl (f 13))), ((a 14), .inl ((cA 14), 12, .inl (f 14))), ((a 15), .inl ((cA 15), 12, .inl (f 15))), ((a 16), .inl ((cA 16), 12, .inl (f 16))), ((a 17), .inl ((cA 17), 12, .inl (f 17))), ((a 18), .inl ((cA 18), 12, .inl (f 18))), ((a 19), .inl ((cA 19), 144, .inl (f 19)))] [((cA 2), .int), ((cA 11), .int), ((cA 12), .int), ((cA 13), .int), ((cA 14), .int), ((cA 15), .int), ((cA 16), .int), ((cA 17), .int), ((cA 18), .int), ((cA 19), .int)])) (va_Qi (fun r (_ : Unit) => r = 0) (fun _ _ => True) (fun _ => False)) 0 0 (fun _ => False) := by
  refine Met.ofW (cc := cX10_set) (maxL := 4) (ret := (some .boolean)) (by decide) rfl ?_
  intro p e s m args below meth c s₁ B hml hv
  obtain ⟨rfl, hP, hK⟩ := hv
  have hx := B.exec
  have hb := B.bytes
  have hr := B.returns
  have hts := atoms_spec (ws := .code yX10_set cX10_set 4 (some .boolean) :: gw) B.pre
  have htg := gw_tl hts
  have hown : s.vm.findClass RX10 = some m.cls := findClass_of_methodNamed B.named
  have hlocks := B.notSynchronized
  have hS : va_S (fun _ => False) s.heap s.heap [] := va_S.rf
  have hl := lv_entry ([.ref (a 0), .int x, .int y, .int z]) (n := 4) (Nat.le_of_ble_eq_true rfl)
  rw [lg_entry_eq]
  generalize (lg_sl ([.ref (a 0), .int x, .int y, .int z]) ++ List.replicate (4 - (lg_sl ([.ref (a 0), .int x, .int y, .int z])).length) Slot.unset).toArray = ls at hl ⊢
  have hl : lv_has ls 4 [(0, .ref (a 0)), (1, .int x), (2, .int y), (3, .int z)] := hl
  refine lv_aload_n hx hb dX10_set_0 rfl (lv_at hl 0 rfl) ?_
  refine va_get (D := D) (ci := 10) (v := .ref (a 4)) (C := RX10) (T := TX10) (N := 17) hx hb htg in_X10 hown hK hP 0 rfl rfl 5 (by decide) (htg _ mw_13) (fun _ h9 => h9) rfl dX10_set_1 ?_
  refine lv_iload_n hx hb dX10_set_4 rfl (lv_at hl 1 rfl) ?_
  have hPc := hP.sub (ws' := [((a 4), .inr (4, [.int 0, .int 0, .ref (a 43), .ref (a 44), .ref (a 45), .ref (a 46), .ref (a 47), .ref (a 48), .ref (a 49), .ref (a 50), .ref (a 51)]))]) [4] rfl
  have hKc := hK.sub (tys' := []) [] rfl
  refine va_calli (va_runV (As := [.int x]) (rest := []) ⟨hx, hb, hml, hown, htg⟩ (c_X4_hasClerk l D (a 4) [.ref (a 43), .ref (a 44), .ref (a 45), .ref (a 46), .ref (a 47), .ref (a 48), .ref (a 49), .ref (a 50), .ref (a 51)] x) (cV 1 htg mw_19 kv_X4_hasClerk rfl rfl ⟨(Nat.le_of_ble_eq_true rfl), (Nat.le_of_ble_eq_true rfl)⟩) ⟨bl_r, va_recv hKc hPc (ci := 4) (q0 := 0) rfl rfl, us_r hPc hKc⟩ rfl rfl hl.1 rfl (lv_room (Nat.le_of_ble_eq_true rfl)) dX10_set_5 ⟨(Nat.le_of_ble_eq_true rfl), (Nat.le_of_ble_eq_true rfl)⟩) hS (fun _ _ h9 => False.elim h9) (fun _ h9 => False.elim h9) (fun r_1 u t H locs ht hvm hw hB hz1 hk1 hS => ?_)
  have hP := ro_keep hP hk1
  subst hw
  refine lv_if_eq (tgt := 30) hx hb dX10_set_8 (by decide) (fun _ => ?_) (fun h9 => False.elim (h9 (by decide)))
  refine lv_iconst (v := 0) hx hb dX10_set_30 (by decide) ?_
  exact W.zret (v := 0) hx hb hr (by first | rfl | decide | exact ar_nb _) (fun t ht hW => ⟨⟨0, (), rfl, rfl, trivial⟩, hS.F ht⟩) hS.2.2 dX10_set_31

set_option maxHeartbeats 4000000 in
set_option maxRecDepth 100000 in
theorem c_X10_clerk (l : Launch) (D : va_G) (a : Nat → Nat) (cA : Nat → ClassId) (f : Nat → Nat → Int32) (x y : Int32) : Met l yX10_clerk (.code yX10_clerk cX10_clerk 4 (some .int) :: gw) ({ frames := 1, cells := 0, slots := 0, locals := 40 }) (va_Pc [.ref (a 0), .int x, .int y] (pr D [((a 0), .inr (10, [.ref (a 1), .ref (a 3), .ref (a 40), .int 0, .int (-1), .ref (a 4), .ref (a 5), .ref (a 6), .ref (a 7), .ref (a 8), .ref (a 9), .ref (a 10), .null, .null, .int 0, .int (-1), .ref (a 41)])), ((a 1), .inr (6, [.ref (a 2), .int 0, .int 0])), ((a 2), .inl ((cA 2), 160, .inl (f 2))), ((a 3), .inr (3, [.ref (a 1), .ref (a 42), .int 0, .int 0])), ((a 4), .inr (4, [.int 0, .int 0, .ref (a 43), .ref (a 44), .ref (a 45), .ref (a 46), .ref (a 47), .ref (a 48), .ref (a 49), .ref (a 50), .ref (a 51)])), ((a 5), .inr (4, [.int 0, .int 0, .ref (a 11), .ref (a 12), .ref (a 13), .ref (a 14), .ref (a 15), .ref (a 16), .ref (a 17), .ref (a 18), .ref (a 19)])), ((a 6), .inr (5, [.ref (a 52), .int 0, .ref (a 53), .int 0, .int 0, .int 0])), ((a 7), .inr (5, [.ref (a 54), .int 0, .ref (a 55), .int 0, .int 0, .int 0])), ((a 8), .inr (1, [.ref (a 56), .int 0, .int 0, .ref (a 57), .int 0, .ref (a 58)])), ((a 9), .inr (7, [.ref (a 59), .ref (a 60), .ref (a 61)])), ((a 11), .inl ((cA 11), 12, .inl (f 11))), ((a 12), .inl ((cA 12), 12, .inl (f 12))), ((a 13), .inl ((cA 13), 144, .inl (f 13))), ((a 14), .inl ((cA 14), 12, .inl (f 14))), ((a 15), .inl ((cA 15), 12, .inl (f 15))), ((a 16), .inl ((cA 16), 12, .inl (f 16))), ((a 17), .inl ((cA 17), 12, .inl (f 17))), ((a 18), .inl ((cA 18), 12, .inl (f 18))), ((a 19), .inl ((cA 19), 144, .inl (f 19)))] [((cA 2), .int), ((cA 11), .int), ((cA 12), .int), ((cA 13), .int), ((cA 14), .int), ((cA 15), .int), ((cA 16), .int), ((cA 17), .int), ((cA 18), .int), ((cA 19), .int)])) (va_Qi (fun r (_ : Unit) => r = (-1)) (fun _ _ => True) (fun _ => False)) 0 0 (fun _ => False) := by
  refine Met.ofW (cc := cX10_clerk) (maxL := 4) (ret := (some .int)) (by decide) rfl ?_
  intro p e s m args below meth c s₁ B hml hv
  obtain ⟨rfl, hP, hK⟩ := hv
  have hx := B.exec
  have hb := B.bytes
  have hr := B.returns
  have hts := atoms_spec (ws := .code yX10_clerk cX10_clerk 4 (some .int) :: gw) B.pre
  have htg := gw_tl hts
  have hown : s.vm.findClass RX10 = some m.cls := findClass_of_methodNamed B.named
  have hlocks := B.notSynchronized
  have hS : va_S (fun _ => False) s.heap s.heap [] := va_S.rf
  have hl := lv_entry ([.ref (a 0), .int x, .int y]) (n := 4) (Nat.le_of_ble_eq_true rfl)
  rw [lg_entry_eq]
  generalize (lg_sl ([.ref (a 0), .int x, .int y]) ++ List.replicate (4 - (lg_sl ([.ref (a 0), .int x, .int y])).length) Slot.unset).toArray = ls at hl ⊢
  have hl : lv_has ls 4 [(0, .ref (a 0)), (1, .int x), (2, .int y)] := hl
  refine lv_aload_n hx hb dX10_clerk_0 rfl (lv_at hl 0 rfl) ?_
  refine va_get (D := D) (ci := 10) (v := .ref (a 4)) (C := RX10) (T := TX10) (N := 17) hx hb htg in_X10 hown hK hP 0 rfl rfl 5 (by decide) (htg _ mw_13) (fun _ h9 => h9) rfl dX10_clerk_1 ?_
  refine lv_iload_n hx hb dX10_clerk_4 rfl (lv_at hl 1 rfl) ?_
  have hPc := hP.sub (ws' := [((a 4), .inr (4, [.int 0, .int 0, .ref (a 43), .ref (a 44), .ref (a 45), .ref (a 46), .ref (a 47), .ref (a 48), .ref (a 49), .ref (a 50), .ref (a 51)]))]) [4] rfl
  have hKc := hK.sub (tys' := []) [] rfl
  refine va_calli (va_runV (As := [.int x]) (rest := []) ⟨hx, hb, hml, hown, htg⟩ (c_X4_hasClerk l D (a 4) [.ref (a 43), .ref (a 44), .ref (a 45), .ref (a 46), .ref (a 47), .ref (a 48), .ref (a 49), .ref (a 50), .ref (a 51)] x) (cV 1 htg mw_19 kv_X4_hasClerk rfl rfl ⟨(Nat.le_of_ble_eq_true rfl), (Nat.le_of_ble_eq_true rfl)⟩) ⟨bl_r, va_recv hKc hPc (ci := 4) (q0 := 0) rfl rfl, us_r hPc hKc⟩ rfl rfl hl.1 rfl (lv_room (Nat.le_of_ble_eq_true rfl)) dX10_clerk_5 ⟨(Nat.le_of_ble_eq_true rfl), (Nat.le_of_ble_eq_true rfl)⟩) hS (fun _ _ h9 => False.elim h9) (fun _ h9 => False.elim h9) (fun r_1 u t H locs ht hvm hw hB hz1 hk1 hS => ?_)
  have hP := ro_keep hP hk1
  subst hw
  refine lv_if_ne (tgt := 13) hx hb dX10_clerk_8 (by decide) (fun h9 => False.elim (h9 (by decide))) (fun _ => ?_)
  refine lv_iconst (v := (-1)) hx hb dX10_clerk_11 (by decide) ?_
  exact W.iret (v := (-1)) hx hb hr  (fun t ht hW => ⟨⟨(-1), (), rfl, rfl, trivial⟩, hS.F ht⟩) hS.2.2 dX10_clerk_12

set_option maxHeartbeats 4000000 in
set_option maxRecDepth 100000 in
theorem c_X10_law (l : Launch) (D : va_G) (a : Nat → Nat) (cA : Nat → ClassId) (f : Nat → Nat → Int32) (x : Int32) : Met l yX10_law (.code yX10_law cX10_law 2 (some .boolean) :: gw) ({ frames := 0, cells := 0, slots := 0, locals := 0 }) (va_Pc [.ref (a 0), .int x] (pr D [((a 0), .inr (10, [.ref (a 1), .ref (a 3), .ref (a 40), .int 0, .int (-1), .ref (a 4), .ref (a 5), .ref (a 6), .ref (a 7), .ref (a 8), .ref (a 9), .ref (a 10), .null, .null, .int 0, .int (-1), .ref (a 41)])), ((a 1), .inr (6, [.ref (a 2), .int 0, .int 0])), ((a 2), .inl ((cA 2), 160, .inl (f 2))), ((a 3), .inr (3, [.ref (a 1), .ref (a 42), .int 0, .int 0])), ((a 4), .inr (4, [.int 0, .int 0, .ref (a 43), .ref (a 44), .ref (a 45), .ref (a 46), .ref (a 47), .ref (a 48), .ref (a 49), .ref (a 50), .ref (a 51)])), ((a 5), .inr (4, [.int 0, .int 0, .ref (a 11), .ref (a 12), .ref (a 13), .ref (a 14), .ref (a 15), .ref (a 16), .ref (a 17), .ref (a 18), .ref (a 19)])), ((a 6), .inr (5, [.ref (a 52), .int 0, .ref (a 53), .int 0, .int 0, .int 0])), ((a 7), .inr (5, [.ref (a 54), .int 0, .ref (a 55), .int 0, .int 0, .int 0])), ((a 8), .inr (1, [.ref (a 56), .int 0, .int 0, .ref (a 57), .int 0, .ref (a 58)])), ((a 9), .inr (7, [.ref (a 59), .ref (a 60), .ref (a 61)])), ((a 11), .inl ((cA 11), 12, .inl (f 11))), ((a 12), .inl ((cA 12), 12, .inl (f 12))), ((a 13), .inl ((cA 13), 144, .inl (f 13))), ((a 14), .inl ((cA 14), 12, .inl (f 14))), ((a 15), .inl ((cA 15), 12, .inl (f 15))), ((a 16), .inl ((cA 16), 12, .inl (f 16))), ((a 17), .inl ((cA 17), 12, .inl (f 17))), ((a 18), .inl ((cA 18), 12, .inl (f 18))), ((a 19), .inl ((cA 19), 144, .inl (f 19)))] [((cA 2), .int), ((cA 11), .int), ((cA 12), .int), ((cA 13), .int), ((cA 14), .int), ((cA 15), .int), ((cA 16), .int), ((cA 17), .int), ((cA 18), .int), ((cA 19), .int)])) (va_Qi (fun r (_ : Unit) => r = 0) (fun _ _ => True) (fun _ => False)) 0 0 (fun _ => False) := by
  refine Met.ofW (cc := cX10_law) (maxL := 2) (ret := (some .boolean)) (by decide) rfl ?_
  intro p e s m args below meth c s₁ B hml hv
  obtain ⟨rfl, hP, hK⟩ := hv
  have hx := B.exec
  have hb := B.bytes
  have hr := B.returns
  have hts := atoms_spec (ws := .code yX10_law cX10_law 2 (some .boolean) :: gw) B.pre
  have htg := gw_tl hts
  have hown : s.vm.findClass RX10 = some m.cls := findClass_of_methodNamed B.named
  have hlocks := B.notSynchronized
  have hS : va_S (fun _ => False) s.heap s.heap [] := va_S.rf
  have hl := lv_entry ([.ref (a 0), .int x]) (n := 2) (Nat.le_of_ble_eq_true rfl)
  rw [lg_entry_eq]
  generalize (lg_sl ([.ref (a 0), .int x]) ++ List.replicate (2 - (lg_sl ([.ref (a 0), .int x])).length) Slot.unset).toArray = ls at hl ⊢
  have hl : lv_has ls 2 [(0, .ref (a 0)), (1, .int x)] := hl
  refine lv_aload_n hx hb dX10_law_0 rfl (lv_at hl 0 rfl) ?_
  refine va_get (D := D) (ci := 10) (v := .ref (a 4)) (C := RX10) (T := TX10) (N := 17) hx hb htg in_X10 hown hK hP 0 rfl rfl 5 (by decide) (htg _ mw_13) (fun _ h9 => h9) rfl dX10_law_1 ?_
  refine va_get (D := D) (ci := 4) (v := .int 0) (C := RX4) (T := TX4) (N := 11) hx hb htg in_X4 hown hK hP 4 rfl rfl 0 (by decide) (htg _ mw_14) (fun _ h9 => h9) rfl dX10_law_4 ?_
  refine lv_if_eq (tgt := 23) hx hb dX10_law_7 (by decide) (fun _ => ?_) (fun h9 => False.elim (h9 (by decide)))
  refine lv_iconst (v := 0) hx hb dX10_law_23 (by decide) ?_
  exact W.zret (v := 0) hx hb hr (by first | rfl | decide | exact ar_nb _) (fun t ht hW => ⟨⟨0, (), rfl, rfl, trivial⟩, hS.F ht⟩) hS.2.2 dX10_law_24

set_option maxHeartbeats 4000000 in
set_option maxRecDepth 100000 in
theorem c_X10_let (l : Launch) (D : va_G) (a : Nat → Nat) (cA : Nat → ClassId) (f : Nat → Nat → Int32) (x y : Int32) : Met l yX10_let (.code yX10_let cX10_let 4 (some .int) :: gw) ({ frames := 2, cells := 0, slots := 0, locals := 80 }) (va_Pc [.ref (a 0), .int x, .int y] (pr D [((a 0), .inr (10, [.ref (a 1), .ref (a 3), .ref (a 40), .int 0, .int (-1), .ref (a 4), .ref (a 5), .ref (a 6), .ref (a 7), .ref (a 8), .ref (a 9), .ref (a 10), .null, .null, .int 0, .int (-1), .ref (a 41)])), ((a 1), .inr (6, [.ref (a 2), .int 0, .int 0])), ((a 2), .inl ((cA 2), 160, .inl (f 2))), ((a 3), .inr (3, [.ref (a 1), .ref (a 42), .int 0, .int 0])), ((a 4), .inr (4, [.int 0, .int 0, .ref (a 43), .ref (a 44), .ref (a 45), .ref (a 46), .ref (a 47), .ref (a 48), .ref (a 49), .ref (a 50), .ref (a 51)])), ((a 5), .inr (4, [.int 0, .int 0, .ref (a 11), .ref (a 12), .ref (a 13), .ref (a 14), .ref (a 15), .ref (a 16), .ref (a 17), .ref (a 18), .ref (a 19)])), ((a 6), .inr (5, [.ref (a 52), .int 0, .ref (a 53), .int 0, .int 0, .int 0])), ((a 7), .inr (5, [.ref (a 54), .int 0, .ref (a 55), .int 0, .int 0, .int 0])), ((a 8), .inr (1, [.ref (a 56), .int 0, .int 0, .ref (a 57), .int 0, .ref (a 58)])), ((a 9), .inr (7, [.ref (a 59), .ref (a 60), .ref (a 61)])), ((a 11), .inl ((cA 11), 12, .inl (f 11))), ((a 12), .inl ((cA 12), 12, .inl (f 12))), ((a 13), .inl ((cA 13), 144, .inl (f 13))), ((a 14), .inl ((cA 14), 12, .inl (f 14))), ((a 15), .inl ((cA 15), 12, .inl (f 15))), ((a 16), .inl ((cA 16), 12, .inl (f 16))), ((a 17), .inl ((cA 17), 12, .inl (f 17))), ((a 18), .inl ((cA 18), 12, .inl (f 18))), ((a 19), .inl ((cA 19), 144, .inl (f 19)))] [((cA 2), .int), ((cA 11), .int), ((cA 12), .int), ((cA 13), .int), ((cA 14), .int), ((cA 15), .int), ((cA 16), .int), ((cA 17), .int), ((cA 18), .int), ((cA 19), .int)])) (va_Qi (fun r (_ : Unit) => r = (-1)) (fun _ _ => True) (fun _ => False)) 0 0 (fun _ => False) := by
  refine Met.ofW (cc := cX10_let) (maxL := 4) (ret := (some .int)) (by decide) rfl ?_
  intro p e s m args below meth c s₁ B hml hv
  obtain ⟨rfl, hP, hK⟩ := hv
  have hx := B.exec
  have hb := B.bytes
  have hr := B.returns
  have hts := atoms_spec (ws := .code yX10_let cX10_let 4 (some .int) :: gw) B.pre
  have htg := gw_tl hts
  have hown : s.vm.findClass RX10 = some m.cls := findClass_of_methodNamed B.named
  have hlocks := B.notSynchronized
  have hS : va_S (fun _ => False) s.heap s.heap [] := va_S.rf
  have hl := lv_entry ([.ref (a 0), .int x, .int y]) (n := 4) (Nat.le_of_ble_eq_true rfl)
  rw [lg_entry_eq]
  generalize (lg_sl ([.ref (a 0), .int x, .int y]) ++ List.replicate (4 - (lg_sl ([.ref (a 0), .int x, .int y])).length) Slot.unset).toArray = ls at hl ⊢
  have hl : lv_has ls 4 [(0, .ref (a 0)), (1, .int x), (2, .int y)] := hl
  refine lv_aload_n hx hb dX10_let_0 rfl (lv_at hl 0 rfl) ?_
  refine va_get (D := D) (ci := 10) (v := .ref (a 4)) (C := RX10) (T := TX10) (N := 17) hx hb htg in_X10 hown hK hP 0 rfl rfl 5 (by decide) (htg _ mw_13) (fun _ h9 => h9) rfl dX10_let_1 ?_
  refine lv_aload_n hx hb dX10_let_4 rfl (lv_at hl 0 rfl) ?_
  refine lv_aload_n hx hb dX10_let_5 rfl (lv_at hl 0 rfl) ?_
  refine va_get (D := D) (ci := 10) (v := .int (-1)) (C := RX10) (T := TX10) (N := 17) hx hb htg in_X10 hown hK hP 0 rfl rfl 4 (by decide) (htg _ mw_20) (fun _ h9 => h9) rfl dX10_let_6 ?_
  have hPc := hP.sub (ws' := [((a 0), .inr (10, [.ref (a 1), .ref (a 3), .ref (a 40), .int 0, .int (-1), .ref (a 4), .ref (a 5), .ref (a 6), .ref (a 7), .ref (a 8), .ref (a 9), .ref (a 10), .null, .null, .int 0, .int (-1), .ref (a 41)])), ((a 1), .inr (6, [.ref (a 2), .int 0, .int 0])), ((a 2), .inl ((cA 2), 160, .inl (f 2))), ((a 3), .inr (3, [.ref (a 1), .ref (a 42), .int 0, .int 0])), ((a 4), .inr (4, [.int 0, .int 0, .ref (a 43), .ref (a 44), .ref (a 45), .ref (a 46), .ref (a 47), .ref (a 48), .ref (a 49), .ref (a 50), .ref (a 51)])), ((a 5), .inr (4, [.int 0, .int 0, .ref (a 11), .ref (a 12), .ref (a 13), .ref (a 14), .ref (a 15), .ref (a 16), .ref (a 17), .ref (a 18), .ref (a 19)])), ((a 6), .inr (5, [.ref (a 52), .int 0, .ref (a 53), .int 0, .int 0, .int 0])), ((a 7), .inr (5, [.ref (a 54), .int 0, .ref (a 55), .int 0, .int 0, .int 0])), ((a 8), .inr (1, [.ref (a 56), .int 0, .int 0, .ref (a 57), .int 0, .ref (a 58)])), ((a 9), .inr (7, [.ref (a 59), .ref (a 60), .ref (a 61)])), ((a 11), .inl ((cA 11), 12, .inl (f 11))), ((a 12), .inl ((cA 12), 12, .inl (f 12))), ((a 13), .inl ((cA 13), 144, .inl (f 13))), ((a 14), .inl ((cA 14), 12, .inl (f 14))), ((a 15), .inl ((cA 15), 12, .inl (f 15))), ((a 16), .inl ((cA 16), 12, .inl (f 16))), ((a 17), .inl ((cA 17), 12, .inl (f 17))), ((a 18), .inl ((cA 18), 12, .inl (f 18))), ((a 19), .inl ((cA 19), 144, .inl (f 19)))]) [0, 1, 2, 3, 4, 5, 6, 7, 8, 9, 10, 11, 12, 13, 14, 15, 16, 17, 18] rfl
  have hKc := hK.sub (tys' := [((cA 2), .int), ((cA 11), .int), ((cA 12), .int), ((cA 13), .int), ((cA 14), .int), ((cA 15), .int), ((cA 16), .int), ((cA 17), .int), ((cA 18), .int), ((cA 19), .int)]) [0, 1, 2, 3, 4, 5, 6, 7, 8, 9] rfl
  refine va_callN (va_runV (As := [.int (-1)]) (rest := [.ref (a 4)]) ⟨hx, hb, hml, hown, htg⟩ (c_X10_lawOf l D a cA f ) (cV 1 htg mw_25 kv_X10_lawOf rfl rfl ⟨(Nat.le_of_ble_eq_true rfl), (Nat.le_of_ble_eq_true rfl)⟩) ⟨bl_r, va_recv hKc hPc (ci := 10) (q0 := 0) rfl rfl, us_r hPc hKc⟩ rfl rfl hl.1 rfl (lv_room (Nat.le_of_ble_eq_true rfl)) dX10_let_9 ⟨(Nat.le_of_ble_eq_true rfl), (Nat.le_of_ble_eq_true rfl)⟩) hS (fun _ _ h9 => False.elim h9) (fun _ h9 => False.elim h9) (fun H locs hk1 hS => ?_)
  have hP := ro_keep hP hk1
  refine lv_iload_n hx hb dX10_let_12 rfl (lv_at hl 1 rfl) ?_
  refine lv_iload_n hx hb dX10_let_13 rfl (lv_at hl 2 rfl) ?_
  have hPc := hP.sub (ws' := [((a 4), .inr (4, [.int 0, .int 0, .ref (a 43), .ref (a 44), .ref (a 45), .ref (a 46), .ref (a 47), .ref (a 48), .ref (a 49), .ref (a 50), .ref (a 51)]))]) [4] rfl
  have hKc := hK.sub (tys' := []) [] rfl
  refine va_calli (va_runV (As := [.null, .int x, .int y]) (rest := []) ⟨hx, hb, hml, hown, htg⟩ (c_X4_hindrance l D (a 4) [.ref (a 43), .ref (a 44), .ref (a 45), .ref (a 46), .ref (a 47), .ref (a 48), .ref (a 49), .ref (a 50), .ref (a 51)] x y) (cV 3 htg mw_29 kv_X4_hindrance rfl rfl ⟨(Nat.le_of_ble_eq_true rfl), (Nat.le_of_ble_eq_true rfl)⟩) ⟨bl_r, va_recv hKc hPc (ci := 4) (q0 := 0) rfl rfl, us_r hPc hKc⟩ rfl rfl hl.1 rfl (lv_room (Nat.le_of_ble_eq_true rfl)) dX10_let_14 ⟨(Nat.le_of_ble_eq_true rfl), (Nat.le_of_ble_eq_true rfl)⟩) hS (fun _ _ h9 => False.elim h9) (fun _ h9 => False.elim h9) (fun r_1 u t H locs ht hvm hw hB hz1 hk1 hS => ?_)
  have hP := ro_keep hP hk1
  subst hw
  refine lv_istore_n (lv' := [(3, .int 1), (0, .ref (a 0)), (1, .int x), (2, .int y)]) hx hb dX10_let_17 rfl hl (by decide) rfl (fun ls hl => ?_)
  refine lv_iload_n hx hb dX10_let_18 rfl (lv_at hl 0 rfl) ?_
  refine lv_iconst (v := 4) hx hb dX10_let_19 (by decide) ?_
  refine lv_icmp_ne (tgt := 25) hx hb dX10_let_20 (by decide) (fun _ => ?_) (fun h9 => absurd h9 (by decide))
  refine lv_iload_n hx hb dX10_let_25 rfl (lv_at hl 0 rfl) ?_
  refine lv_if_ne (tgt := 33) hx hb dX10_let_26 (by decide) (fun _ => ?_) (fun h9 => absurd h9 (by decide))
  refine lv_iconst (v := (-1)) hx hb dX10_let_33 (by decide) ?_
  exact W.iret (v := (-1)) hx hb hr  (fun t ht hW => ⟨⟨(-1), (), rfl, rfl, trivial⟩, hS.F ht⟩) hS.2.2 dX10_let_34

set_option maxHeartbeats 4000000 in
set_option maxRecDepth 100000 in
theorem c_X10_move (l : Launch) (D : va_G) (a : Nat → Nat) (cA : Nat → ClassId) (f : Nat → Nat → Int32) (x y : Int32) : Met l yX10_move (.code yX10_move cX10_move 4 (some .int) :: gw) ({ frames := 2, cells := 0, slots := 0, locals := 80 }) (va_Pc [.ref (a 0), .int x, .int y] (pr D [((a 0), .inr (10, [.ref (a 1), .ref (a 3), .ref (a 40), .int 0, .int (-1), .ref (a 4), .ref (a 5), .ref (a 6), .ref (a 7), .ref (a 8), .ref (a 9), .ref (a 10), .null, .null, .int 0, .int (-1), .ref (a 41)])), ((a 1), .inr (6, [.ref (a 2), .int 0, .int 0])), ((a 2), .inl ((cA 2), 160, .inl (f 2))), ((a 3), .inr (3, [.ref (a 1), .ref (a 42), .int 0, .int 0])), ((a 4), .inr (4, [.int 0, .int 0, .ref (a 43), .ref (a 44), .ref (a 45), .ref (a 46), .ref (a 47), .ref (a 48), .ref (a 49), .ref (a 50), .ref (a 51)])), ((a 5), .inr (4, [.int 0, .int 0, .ref (a 11), .ref (a 12), .ref (a 13), .ref (a 14), .ref (a 15), .ref (a 16), .ref (a 17), .ref (a 18), .ref (a 19)])), ((a 6), .inr (5, [.ref (a 52), .int 0, .ref (a 53), .int 0, .int 0, .int 0])), ((a 7), .inr (5, [.ref (a 54), .int 0, .ref (a 55), .int 0, .int 0, .int 0])), ((a 8), .inr (1, [.ref (a 56), .int 0, .int 0, .ref (a 57), .int 0, .ref (a 58)])), ((a 9), .inr (7, [.ref (a 59), .ref (a 60), .ref (a 61)])), ((a 11), .inl ((cA 11), 12, .inl (f 11))), ((a 12), .inl ((cA 12), 12, .inl (f 12))), ((a 13), .inl ((cA 13), 144, .inl (f 13))), ((a 14), .inl ((cA 14), 12, .inl (f 14))), ((a 15), .inl ((cA 15), 12, .inl (f 15))), ((a 16), .inl ((cA 16), 12, .inl (f 16))), ((a 17), .inl ((cA 17), 12, .inl (f 17))), ((a 18), .inl ((cA 18), 12, .inl (f 18))), ((a 19), .inl ((cA 19), 144, .inl (f 19)))] [((cA 2), .int), ((cA 11), .int), ((cA 12), .int), ((cA 13), .int), ((cA 14), .int), ((cA 15), .int), ((cA 16), .int), ((cA 17), .int), ((cA 18), .int), ((cA 19), .int)])) (va_Qi (fun r (_ : Unit) => r = (-1)) (fun _ _ => True) (fun _ => False)) 0 0 (fun _ => False) := by
  refine Met.ofW (cc := cX10_move) (maxL := 4) (ret := (some .int)) (by decide) rfl ?_
  intro p e s m args below meth c s₁ B hml hv
  obtain ⟨rfl, hP, hK⟩ := hv
  have hx := B.exec
  have hb := B.bytes
  have hr := B.returns
  have hts := atoms_spec (ws := .code yX10_move cX10_move 4 (some .int) :: gw) B.pre
  have htg := gw_tl hts
  have hown : s.vm.findClass RX10 = some m.cls := findClass_of_methodNamed B.named
  have hlocks := B.notSynchronized
  have hS : va_S (fun _ => False) s.heap s.heap [] := va_S.rf
  have hl := lv_entry ([.ref (a 0), .int x, .int y]) (n := 4) (Nat.le_of_ble_eq_true rfl)
  rw [lg_entry_eq]
  generalize (lg_sl ([.ref (a 0), .int x, .int y]) ++ List.replicate (4 - (lg_sl ([.ref (a 0), .int x, .int y])).length) Slot.unset).toArray = ls at hl ⊢
  have hl : lv_has ls 4 [(0, .ref (a 0)), (1, .int x), (2, .int y)] := hl
  refine lv_aload_n hx hb dX10_move_0 rfl (lv_at hl 0 rfl) ?_
  refine va_get (D := D) (ci := 10) (v := .ref (a 4)) (C := RX10) (T := TX10) (N := 17) hx hb htg in_X10 hown hK hP 0 rfl rfl 5 (by decide) (htg _ mw_13) (fun _ h9 => h9) rfl dX10_move_1 ?_
  refine lv_aload_n hx hb dX10_move_4 rfl (lv_at hl 0 rfl) ?_
  refine lv_aload_n hx hb dX10_move_5 rfl (lv_at hl 0 rfl) ?_
  refine va_get (D := D) (ci := 10) (v := .int (-1)) (C := RX10) (T := TX10) (N := 17) hx hb htg in_X10 hown hK hP 0 rfl rfl 4 (by decide) (htg _ mw_20) (fun _ h9 => h9) rfl dX10_move_6 ?_
  have hPc := hP.sub (ws' := [((a 0), .inr (10, [.ref (a 1), .ref (a 3), .ref (a 40), .int 0, .int (-1), .ref (a 4), .ref (a 5), .ref (a 6), .ref (a 7), .ref (a 8), .ref (a 9), .ref (a 10), .null, .null, .int 0, .int (-1), .ref (a 41)])), ((a 1), .inr (6, [.ref (a 2), .int 0, .int 0])), ((a 2), .inl ((cA 2), 160, .inl (f 2))), ((a 3), .inr (3, [.ref (a 1), .ref (a 42), .int 0, .int 0])), ((a 4), .inr (4, [.int 0, .int 0, .ref (a 43), .ref (a 44), .ref (a 45), .ref (a 46), .ref (a 47), .ref (a 48), .ref (a 49), .ref (a 50), .ref (a 51)])), ((a 5), .inr (4, [.int 0, .int 0, .ref (a 11), .ref (a 12), .ref (a 13), .ref (a 14), .ref (a 15), .ref (a 16), .ref (a 17), .ref (a 18), .ref (a 19)])), ((a 6), .inr (5, [.ref (a 52), .int 0, .ref (a 53), .int 0, .int 0, .int 0])), ((a 7), .inr (5, [.ref (a 54), .int 0, .ref (a 55), .int 0, .int 0, .int 0])), ((a 8), .inr (1, [.ref (a 56), .int 0, .int 0, .ref (a 57), .int 0, .ref (a 58)])), ((a 9), .inr (7, [.ref (a 59), .ref (a 60), .ref (a 61)])), ((a 11), .inl ((cA 11), 12, .inl (f 11))), ((a 12), .inl ((cA 12), 12, .inl (f 12))), ((a 13), .inl ((cA 13), 144, .inl (f 13))), ((a 14), .inl ((cA 14), 12, .inl (f 14))), ((a 15), .inl ((cA 15), 12, .inl (f 15))), ((a 16), .inl ((cA 16), 12, .inl (f 16))), ((a 17), .inl ((cA 17), 12, .inl (f 17))), ((a 18), .inl ((cA 18), 12, .inl (f 18))), ((a 19), .inl ((cA 19), 144, .inl (f 19)))]) [0, 1, 2, 3, 4, 5, 6, 7, 8, 9, 10, 11, 12, 13, 14, 15, 16, 17, 18] rfl
  have hKc := hK.sub (tys' := [((cA 2), .int), ((cA 11), .int), ((cA 12), .int), ((cA 13), .int), ((cA 14), .int), ((cA 15), .int), ((cA 16), .int), ((cA 17), .int), ((cA 18), .int), ((cA 19), .int)]) [0, 1, 2, 3, 4, 5, 6, 7, 8, 9] rfl
  refine va_callN (va_runV (As := [.int (-1)]) (rest := [.ref (a 4)]) ⟨hx, hb, hml, hown, htg⟩ (c_X10_lawOf l D a cA f ) (cV 1 htg mw_25 kv_X10_lawOf rfl rfl ⟨(Nat.le_of_ble_eq_true rfl), (Nat.le_of_ble_eq_true rfl)⟩) ⟨bl_r, va_recv hKc hPc (ci := 10) (q0 := 0) rfl rfl, us_r hPc hKc⟩ rfl rfl hl.1 rfl (lv_room (Nat.le_of_ble_eq_true rfl)) dX10_move_9 ⟨(Nat.le_of_ble_eq_true rfl), (Nat.le_of_ble_eq_true rfl)⟩) hS (fun _ _ h9 => False.elim h9) (fun _ h9 => False.elim h9) (fun H locs hk1 hS => ?_)
  have hP := ro_keep hP hk1
  refine lv_iload_n hx hb dX10_move_12 rfl (lv_at hl 1 rfl) ?_
  refine lv_iload_n hx hb dX10_move_13 rfl (lv_at hl 2 rfl) ?_
  have hPc := hP.sub (ws' := [((a 4), .inr (4, [.int 0, .int 0, .ref (a 43), .ref (a 44), .ref (a 45), .ref (a 46), .ref (a 47), .ref (a 48), .ref (a 49), .ref (a 50), .ref (a 51)]))]) [4] rfl
  have hKc := hK.sub (tys' := []) [] rfl
  refine va_calli (va_runV (As := [.null, .int x, .int y]) (rest := []) ⟨hx, hb, hml, hown, htg⟩ (c_X4_hindrance l D (a 4) [.ref (a 43), .ref (a 44), .ref (a 45), .ref (a 46), .ref (a 47), .ref (a 48), .ref (a 49), .ref (a 50), .ref (a 51)] x y) (cV 3 htg mw_29 kv_X4_hindrance rfl rfl ⟨(Nat.le_of_ble_eq_true rfl), (Nat.le_of_ble_eq_true rfl)⟩) ⟨bl_r, va_recv hKc hPc (ci := 4) (q0 := 0) rfl rfl, us_r hPc hKc⟩ rfl rfl hl.1 rfl (lv_room (Nat.le_of_ble_eq_true rfl)) dX10_move_14 ⟨(Nat.le_of_ble_eq_true rfl), (Nat.le_of_ble_eq_true rfl)⟩) hS (fun _ _ h9 => False.elim h9) (fun _ h9 => False.elim h9) (fun r_1 u t H locs ht hvm hw hB hz1 hk1 hS => ?_)
  have hP := ro_keep hP hk1
  subst hw
  refine lv_if_eq (tgt := 22) hx hb dX10_move_17 (by decide) (fun h9 => absurd h9 (by decide)) (fun _ => ?_)
  refine lv_iconst (v := (-1)) hx hb dX10_move_20 (by decide) ?_
  exact W.iret (v := (-1)) hx hb hr  (fun t ht hW => ⟨⟨(-1), (), rfl, rfl, trivial⟩, hS.F ht⟩) hS.2.2 dX10_move_21

set_option maxHeartbeats 4000000 in
set_option maxRecDepth 100000 in
theorem c_X10_undo (l : Launch) (D : va_G) (a : Nat → Nat) (cA : Nat → ClassId) (f : Nat → Nat → Int32)  : Met l yX10_undo (.code yX10_undo cX10_undo 1 (some .int) :: gw) ({ frames := 0, cells := 0, slots := 0, locals := 0 }) (va_Pc [.ref (a 0)] (pr D [((a 0), .inr (10, [.ref (a 1), .ref (a 3), .ref (a 40), .int 0, .int (-1), .ref (a 4), .ref (a 5), .ref (a 6), .ref (a 7), .ref (a 8), .ref (a 9), .ref (a 10), .null, .null, .int 0, .int (-1), .ref (a 41)])), ((a 1), .inr (6, [.ref (a 2), .int 0, .int 0])), ((a 2), .inl ((cA 2), 160, .inl (f 2))), ((a 3), .inr (3, [.ref (a 1), .ref (a 42), .int 0, .int 0])), ((a 4), .inr (4, [.int 0, .int 0, .ref (a 43), .ref (a 44), .ref (a 45), .ref (a 46), .ref (a 47), .ref (a 48), .ref (a 49), .ref (a 50), .ref (a 51)])), ((a 5), .inr (4, [.int 0, .int 0, .ref (a 11), .ref (a 12), .ref (a 13), .ref (a 14), .ref (a 15), .ref (a 16), .ref (a 17), .ref (a 18), .ref (a 19)])), ((a 6), .inr (5, [.ref (a 52), .int 0, .ref (a 53), .int 0, .int 0, .int 0])), ((a 7), .inr (5, [.ref (a 54), .int 0, .ref (a 55), .int 0, .int 0, .int 0])), ((a 8), .inr (1, [.ref (a 56), .int 0, .int 0, .ref (a 57), .int 0, .ref (a 58)])), ((a 9), .inr (7, [.ref (a 59), .ref (a 60), .ref (a 61)])), ((a 11), .inl ((cA 11), 12, .inl (f 11))), ((a 12), .inl ((cA 12), 12, .inl (f 12))), ((a 13), .inl ((cA 13), 144, .inl (f 13))), ((a 14), .inl ((cA 14), 12, .inl (f 14))), ((a 15), .inl ((cA 15), 12, .inl (f 15))), ((a 16), .inl ((cA 16), 12, .inl (f 16))), ((a 17), .inl ((cA 17), 12, .inl (f 17))), ((a 18), .inl ((cA 18), 12, .inl (f 18))), ((a 19), .inl ((cA 19), 144, .inl (f 19)))] [((cA 2), .int), ((cA 11), .int), ((cA 12), .int), ((cA 13), .int), ((cA 14), .int), ((cA 15), .int), ((cA 16), .int), ((cA 17), .int), ((cA 18), .int), ((cA 19), .int)])) (va_Qi (fun r (_ : Unit) => r = (-1)) (fun _ _ => True) (fun _ => False)) 0 0 (fun _ => False) := by
  refine Met.ofW (cc := cX10_undo) (maxL := 1) (ret := (some .int)) (by decide) rfl ?_
  intro p e s m args below meth c s₁ B hml hv
  obtain ⟨rfl, hP, hK⟩ := hv
  have hx := B.exec
  have hb := B.bytes
  have hr := B.returns
  have hts := atoms_spec (ws := .code yX10_undo cX10_undo 1 (some .int) :: gw) B.pre
  have htg := gw_tl hts
  have hown : s.vm.findClass RX10 = some m.cls := findClass_of_methodNamed B.named
  have hlocks := B.notSynchronized
  have hS : va_S (fun _ => False) s.heap s.heap [] := va_S.rf
  have hl := lv_entry ([.ref (a 0)]) (n := 1) (Nat.le_of_ble_eq_true rfl)
  rw [lg_entry_eq]
  generalize (lg_sl ([.ref (a 0)]) ++ List.replicate (1 - (lg_sl ([.ref (a 0)])).length) Slot.unset).toArray = ls at hl ⊢
  have hl : lv_has ls 1 [(0, .ref (a 0))] := hl
  refine lv_aload_n hx hb dX10_undo_0 rfl (lv_at hl 0 rfl) ?_
  refine va_get (D := D) (ci := 10) (v := .ref (a 8)) (C := RX10) (T := TX10) (N := 17) hx hb htg in_X10 hown hK hP 0 rfl rfl 9 (by decide) (htg _ mw_30) (fun _ h9 => h9) rfl dX10_undo_1 ?_
  refine va_get (D := D) (ci := 1) (v := .int 0) (C := RX1) (T := TX1) (N := 6) hx hb htg in_X1 hown hK hP 8 rfl rfl 1 (by decide) (htg _ mw_31) (fun _ h9 => h9) rfl dX10_undo_4 ?_
  refine lv_if_ne (tgt := 12) hx hb dX10_undo_7 (by decide) (fun h9 => False.elim (h9 (by decide))) (fun _ => ?_)
  refine lv_iconst (v := (-1)) hx hb dX10_undo_10 (by decide) ?_
  exact W.iret (v := (-1)) hx hb hr  (fun t ht hW => ⟨⟨(-1), (), rfl, rfl, trivial⟩, hS.F ht⟩) hS.2.2 dX10_undo_11

set_option maxHeartbeats 4000000 in
set_option maxRecDepth 100000 in
theorem c_X10_diary (l : Launch) (D : va_G) (a : Nat → Nat) (cA : Nat → ClassId) (f : Nat → Nat → Int32) (x : Int32) : Met l yX10_diary (.code yX10_diary cX10_diary 2 (some .int) :: gw) ({ frames := 1, cells := 0, slots := 0, locals := 40 }) (va_Pc [.ref (a 0), .int x] (pr D [((a 0), .inr (10, [.ref (a 1), .ref (a 3), .ref (a 40), .int 0, .int (-1), .ref (a 4), .ref (a 5), .ref (a 6), .ref (a 7), .ref (a 8), .ref (a 9), .ref (a 10), .null, .null, .int 0, .int (-1), .ref (a 41)])), ((a 1), .inr (6, [.ref (a 2), .int 0, .int 0])), ((a 2), .inl ((cA 2), 160, .inl (f 2))), ((a 3), .inr (3, [.ref (a 1), .ref (a 42), .int 0, .int 0])), ((a 4), .inr (4, [.int 0, .int 0, .ref (a 43), .ref (a 44), .ref (a 45), .ref (a 46), .ref (a 47), .ref (a 48), .ref (a 49), .ref (a 50), .ref (a 51)])), ((a 5), .inr (4, [.int 0, .int 0, .ref (a 11), .ref (a 12), .ref (a 13), .ref (a 14), .ref (a 15), .ref (a 16), .ref (a 17), .ref (a 18), .ref (a 19)])), ((a 6), .inr (5, [.ref (a 52), .int 0, .ref (a 53), .int 0, .int 0, .int 0])), ((a 7), .inr (5, [.ref (a 54), .int 0, .ref (a 55), .int 0, .int 0, .int 0])), ((a 8), .inr (1, [.ref (a 56), .int 0, .int 0, .ref (a 57), .int 0, .ref (a 58)])), ((a 9), .inr (7, [.ref (a 59), .ref (a 60), .ref (a 61)])), ((a 11), .inl ((cA 11), 12, .inl (f 11))), ((a 12), .inl ((cA 12), 12, .inl (f 12))), ((a 13), .inl ((cA 13), 144, .inl (f 13))), ((a 14), .inl ((cA 14), 12, .inl (f 14))), ((a 15), .inl ((cA 15), 12, .inl (f 15))), ((a 16), .inl ((cA 16), 12, .inl (f 16))), ((a 17), .inl ((cA 17), 12, .inl (f 17))), ((a 18), .inl ((cA 18), 12, .inl (f 18))), ((a 19), .inl ((cA 19), 144, .inl (f 19)))] [((cA 2), .int), ((cA 11), .int), ((cA 12), .int), ((cA 13), .int), ((cA 14), .int), ((cA 15), .int), ((cA 16), .int), ((cA 17), .int), ((cA 18), .int), ((cA 19), .int)])) (va_Qi (fun r (_ : Unit) => r = (-1)) (fun _ _ => True) (fun _ => False)) 0 0 (fun _ => False) := by
  refine Met.ofW (cc := cX10_diary) (maxL := 2) (ret := (some .int)) (by decide) rfl ?_
  intro p e s m args below meth c s₁ B hml hv
  obtain ⟨rfl, hP, hK⟩ := hv
  have hx := B.exec
  have hb := B.bytes
  have hr := B.returns
  have hts := atoms_spec (ws := .code yX10_diary cX10_diary 2 (some .int) :: gw) B.pre
  have htg := gw_tl hts
  have hown : s.vm.findClass RX10 = some m.cls := findClass_of_methodNamed B.named
  have hlocks := B.notSynchronized
  have hS : va_S (fun _ => False) s.heap s.heap [] := va_S.rf
  have hl := lv_entry ([.ref (a 0), .int x]) (n := 2) (Nat.le_of_ble_eq_true rfl)
  rw [lg_entry_eq]
  generalize (lg_sl ([.ref (a 0), .int x]) ++ List.replicate (2 - (lg_sl ([.ref (a 0), .int x])).length) Slot.unset).toArray = ls at hl ⊢
  have hl : lv_has ls 2 [(0, .ref (a 0)), (1, .int x)] := hl
  refine lv_aload_n hx hb dX10_diary_0 rfl (lv_at hl 0 rfl) ?_
  refine va_get (D := D) (ci := 10) (v := .ref (a 8)) (C := RX10) (T := TX10) (N := 17) hx hb htg in_X10 hown hK hP 0 rfl rfl 9 (by decide) (htg _ mw_30) (fun _ h9 => h9) rfl dX10_diary_1 ?_
  refine lv_iload_n hx hb dX10_diary_4 rfl (lv_at hl 1 rfl) ?_
  have hPc := hP.sub (ws' := [((a 8), .inr (1, [.ref (a 56), .int 0, .int 0, .ref (a 57), .int 0, .ref (a 58)]))]) [8] rfl
  have hKc := hK.sub (tys' := []) [] rfl
  refine va_calli (va_runV (As := [.int x]) (rest := []) ⟨hx, hb, hml, hown, htg⟩ (c_X1_moveAt l D (a 8) (a 56) [.int 0, .ref (a 57), .int 0, .ref (a 58)] x) (cV 1 htg mw_36 kv_X1_moveAt rfl rfl ⟨(Nat.le_of_ble_eq_true rfl), (Nat.le_of_ble_eq_true rfl)⟩) ⟨bl_r, va_recv hKc hPc (ci := 1) (q0 := 0) rfl rfl, us_r hPc hKc⟩ rfl rfl hl.1 rfl (lv_room (Nat.le_of_ble_eq_true rfl)) dX10_diary_5 ⟨(Nat.le_of_ble_eq_true rfl), (Nat.le_of_ble_eq_true rfl)⟩) hS (fun _ _ h9 => False.elim h9) (fun _ h9 => False.elim h9) (fun r_1 u t H locs ht hvm hw hB hz1 hk1 hS => ?_)
  have hP := ro_keep hP hk1
  subst hw
  exact W.iret (v := (-1)) hx hb hr  (fun t ht hW => ⟨⟨(-1), (), rfl, rfl, trivial⟩, hS.F ht⟩) hS.2.2 dX10_diary_8

set_option maxHeartbeats 4000000 in
set_option maxRecDepth 100000 in
theorem c_X10_judge (l : Launch) (D : va_G) (a : Nat → Nat) (cA : Nat → ClassId) (f : Nat → Nat → Int32) (x y : Int32) : Met l yX10_judge (.code yX10_judge cX10_judge 3 (some .int) :: gw) ({ frames := 0, cells := 0, slots := 0, locals := 0 }) (va_Pc [.ref (a 0), .int x, .int y] (pr D [((a 0), .inr (10, [.ref (a 1), .ref (a 3), .ref (a 40), .int 0, .int (-1), .ref (a 4), .ref (a 5), .ref (a 6), .ref (a 7), .ref (a 8), .ref (a 9), .ref (a 10), .null, .null, .int 0, .int (-1), .ref (a 41)])), ((a 1), .inr (6, [.ref (a 2), .int 0, .int 0])), ((a 2), .inl ((cA 2), 160, .inl (f 2))), ((a 3), .inr (3, [.ref (a 1), .ref (a 42), .int 0, .int 0])), ((a 4), .inr (4, [.int 0, .int 0, .ref (a 43), .ref (a 44), .ref (a 45), .ref (a 46), .ref (a 47), .ref (a 48), .ref (a 49), .ref (a 50), .ref (a 51)])), ((a 5), .inr (4, [.int 0, .int 0, .ref (a 11), .ref (a 12), .ref (a 13), .ref (a 14), .ref (a 15), .ref (a 16), .ref (a 17), .ref (a 18), .ref (a 19)])), ((a 6), .inr (5, [.ref (a 52), .int 0, .ref (a 53), .int 0, .int 0, .int 0])), ((a 7), .inr (5, [.ref (a 54), .int 0, .ref (a 55), .int 0, .int 0, .int 0])), ((a 8), .inr (1, [.ref (a 56), .int 0, .int 0, .ref (a 57), .int 0, .ref (a 58)])), ((a 9), .inr (7, [.ref (a 59), .ref (a 60), .ref (a 61)])), ((a 11), .inl ((cA 11), 12, .inl (f 11))), ((a 12), .inl ((cA 12), 12, .inl (f 12))), ((a 13), .inl ((cA 13), 144, .inl (f 13))), ((a 14), .inl ((cA 14), 12, .inl (f 14))), ((a 15), .inl ((cA 15), 12, .inl (f 15))), ((a 16), .inl ((cA 16), 12, .inl (f 16))), ((a 17), .inl ((cA 17), 12, .inl (f 17))), ((a 18), .inl ((cA 18), 12, .inl (f 18))), ((a 19), .inl ((cA 19), 144, .inl (f 19)))] [((cA 2), .int), ((cA 11), .int), ((cA 12), .int), ((cA 13), .int), ((cA 14), .int), ((cA 15), .int), ((cA 16), .int), ((cA 17), .int), ((cA 18), .int), ((cA 19), .int)])) (va_Qi (fun r (_ : Unit) => r = (-1000000)) (fun _ _ => True) (fun _ => False)) 0 0 (fun _ => False) := by
  refine Met.ofW (cc := cX10_judge) (maxL := 3) (ret := (some .int)) (by decide) rfl ?_
  intro p e s m args below meth c s₁ B hml hv
  obtain ⟨rfl, hP, hK⟩ := hv
  have hx := B.exec
  have hb := B.bytes
  have hr := B.returns
  have hts := atoms_spec (ws := .code yX10_judge cX10_judge 3 (some .int) :: gw) B.pre
  have htg := gw_tl hts
  have hown : s.vm.findClass RX10 = some m.cls := findClass_of_methodNamed B.named
  have hlocks := B.notSynchronized
  have hS : va_S (fun _ => False) s.heap s.heap [] := va_S.rf
  have hl := lv_entry ([.ref (a 0), .int x, .int y]) (n := 3) (Nat.le_of_ble_eq_true rfl)
  rw [lg_entry_eq]
  generalize (lg_sl ([.ref (a 0), .int x, .int y]) ++ List.replicate (3 - (lg_sl ([.ref (a 0), .int x, .int y])).length) Slot.unset).toArray = ls at hl ⊢
  have hl : lv_has ls 3 [(0, .ref (a 0)), (1, .int x), (2, .int y)] := hl
  refine lv_aload_n hx hb dX10_judge_0 rfl (lv_at hl 0 rfl) ?_
  refine va_get (D := D) (ci := 10) (v := .ref (a 6)) (C := RX10) (T := TX10) (N := 17) hx hb htg in_X10 hown hK hP 0 rfl rfl 7 (by decide) (htg _ mw_37) (fun _ h9 => h9) rfl dX10_judge_1 ?_
  refine va_get (D := D) (ci := 5) (v := .int 0) (C := RX5) (T := TX5) (N := 6) hx hb htg in_X5 hown hK hP 6 rfl rfl 1 (by decide) (htg _ mw_38) (fun _ h9 => h9) rfl dX10_judge_4 ?_
  refine lv_if_eq (tgt := 29) hx hb dX10_judge_7 (by decide) (fun _ => ?_) (fun h9 => False.elim (h9 (by decide)))
  refine lv_ldc (v := (-1000000)) hx hb hown (htg _ mw_39) dX10_judge_29 ?_
  exact W.iret (v := (-1000000)) hx hb hr  (fun t ht hW => ⟨⟨(-1000000), (), rfl, rfl, trivial⟩, hS.F ht⟩) hS.2.2 dX10_judge_31

set_option maxHeartbeats 4000000 in
set_option maxRecDepth 100000 in
theorem c_X10_wish (l : Launch) (D : va_G) (a : Nat → Nat) (cA : Nat → ClassId) (f : Nat → Nat → Int32) (x y : Int32) : Met l yX10_wish (.code yX10_wish cX10_wish 3 (some .boolean) :: gw) ({ frames := 1, cells := 0, slots := 0, locals := 40 }) (va_Pc [.ref (a 0), .int x, .int y] (pr D [((a 0), .inr (10, [.ref (a 1), .ref (a 3), .ref (a 40), .int 0, .int (-1), .ref (a 4), .ref (a 5), .ref (a 6), .ref (a 7), .ref (a 8), .ref (a 9), .ref (a 10), .null, .null, .int 0, .int (-1), .ref (a 41)])), ((a 1), .inr (6, [.ref (a 2), .int 0, .int 0])), ((a 2), .inl ((cA 2), 160, .inl (f 2))), ((a 3), .inr (3, [.ref (a 1), .ref (a 42), .int 0, .int 0])), ((a 4), .inr (4, [.int 0, .int 0, .ref (a 43), .ref (a 44), .ref (a 45), .ref (a 46), .ref (a 47), .ref (a 48), .ref (a 49), .ref (a 50), .ref (a 51)])), ((a 5), .inr (4, [.int 0, .int 0, .ref (a 11), .ref (a 12), .ref (a 13), .ref (a 14), .ref (a 15), .ref (a 16), .ref (a 17), .ref (a 18), .ref (a 19)])), ((a 6), .inr (5, [.ref (a 52), .int 0, .ref (a 53), .int 0, .int 0, .int 0])), ((a 7), .inr (5, [.ref (a 54), .int 0, .ref (a 55), .int 0, .int 0, .int 0])), ((a 8), .inr (1, [.ref (a 56), .int 0, .int 0, .ref (a 57), .int 0, .ref (a 58)])), ((a 9), .inr (7, [.ref (a 59), .ref (a 60), .ref (a 61)])), ((a 11), .inl ((cA 11), 12, .inl (f 11))), ((a 12), .inl ((cA 12), 12, .inl (f 12))), ((a 13), .inl ((cA 13), 144, .inl (f 13))), ((a 14), .inl ((cA 14), 12, .inl (f 14))), ((a 15), .inl ((cA 15), 12, .inl (f 15))), ((a 16), .inl ((cA 16), 12, .inl (f 16))), ((a 17), .inl ((cA 17), 12, .inl (f 17))), ((a 18), .inl ((cA 18), 12, .inl (f 18))), ((a 19), .inl ((cA 19), 144, .inl (f 19)))] [((cA 2), .int), ((cA 11), .int), ((cA 12), .int), ((cA 13), .int), ((cA 14), .int), ((cA 15), .int), ((cA 16), .int), ((cA 17), .int), ((cA 18), .int), ((cA 19), .int)])) (va_Qi (fun r (_ : Unit) => r = 0) (fun _ _ => True) (fun _ => False)) 0 0 (fun _ => False) := by
  refine Met.ofW (cc := cX10_wish) (maxL := 3) (ret := (some .boolean)) (by decide) rfl ?_
  intro p e s m args below meth c s₁ B hml hv
  obtain ⟨rfl, hP, hK⟩ := hv
  have hx := B.exec
  have hb := B.bytes
  have hr := B.returns
  have hts := atoms_spec (ws := .code yX10_wish cX10_wish 3 (some .boolean) :: gw) B.pre
  have htg := gw_tl hts
  have hown : s.vm.findClass RX10 = some m.cls := findClass_of_methodNamed B.named
  have hlocks := B.notSynchronized
  have hS : va_S (fun _ => False) s.heap s.heap [] := va_S.rf
  have hl := lv_entry ([.ref (a 0), .int x, .int y]) (n := 3) (Nat.le_of_ble_eq_true rfl)
  rw [lg_entry_eq]
  generalize (lg_sl ([.ref (a 0), .int x, .int y]) ++ List.replicate (3 - (lg_sl ([.ref (a 0), .int x, .int y])).length) Slot.unset).toArray = ls at hl ⊢
  have hl : lv_has ls 3 [(0, .ref (a 0)), (1, .int x), (2, .int y)] := hl
  refine lv_aload_n hx hb dX10_wish_0 rfl (lv_at hl 0 rfl) ?_
  refine va_get (D := D) (ci := 10) (v := .ref (a 4)) (C := RX10) (T := TX10) (N := 17) hx hb htg in_X10 hown hK hP 0 rfl rfl 5 (by decide) (htg _ mw_13) (fun _ h9 => h9) rfl dX10_wish_1 ?_
  refine lv_iload_n hx hb dX10_wish_4 rfl (lv_at hl 1 rfl) ?_
  have hPc := hP.sub (ws' := [((a 4), .inr (4, [.int 0, .int 0, .ref (a 43), .ref (a 44), .ref (a 45), .ref (a 46), .ref (a 47), .ref (a 48), .ref (a 49), .ref (a 50), .ref (a 51)]))]) [4] rfl
  have hKc := hK.sub (tys' := []) [] rfl
  refine va_calli (va_runV (As := [.int x]) (rest := []) ⟨hx, hb, hml, hown, htg⟩ (c_X4_hasDesk l D (a 4) [.ref (a 43), .ref (a 44), .ref (a 45), .ref (a 46), .ref (a 47), .ref (a 48), .ref (a 49), .ref (a 50), .ref (a 51)] x) (cV 1 htg mw_40 kv_X4_hasDesk rfl rfl ⟨(Nat.le_of_ble_eq_true rfl), (Nat.le_of_ble_eq_true rfl)⟩) ⟨bl_r, va_recv hKc hPc (ci := 4) (q0 := 0) rfl rfl, us_r hPc hKc⟩ rfl rfl hl.1 rfl (lv_room (Nat.le_of_ble_eq_true rfl)) dX10_wish_5 ⟨(Nat.le_of_ble_eq_true rfl), (Nat.le_of_ble_eq_true rfl)⟩) hS (fun _ _ h9 => False.elim h9) (fun _ h9 => False.elim h9) (fun r_1 u t H locs ht hvm hw hB hz1 hk1 hS => ?_)
  have hP := ro_keep hP hk1
  subst hw
  refine lv_if_ne (tgt := 13) hx hb dX10_wish_8 (by decide) (fun h9 => False.elim (h9 (by decide))) (fun _ => ?_)
  refine lv_iconst (v := 0) hx hb dX10_wish_11 (by decide) ?_
  exact W.zret (v := 0) hx hb hr (by first | rfl | decide | exact ar_nb _) (fun t ht hW => ⟨⟨0, (), rfl, rfl, trivial⟩, hS.F ht⟩) hS.2.2 dX10_wish_12

set_option maxHeartbeats 4000000 in
set_option maxRecDepth 100000 in
theorem c_X10_done (l : Launch) (D : va_G) (a : Nat → Nat) (cA : Nat → ClassId) (f : Nat → Nat → Int32)  : Met l yX10_done (.code yX10_done cX10_done 1 (some .int) :: gw) ({ frames := 0, cells := 0, slots := 0, locals := 0 }) (va_Pc [.ref (a 0)] (pr D [((a 0), .inr (10, [.ref (a 1), .ref (a 3), .ref (a 40), .int 0, .int (-1), .ref (a 4), .ref (a 5), .ref (a 6), .ref (a 7), .ref (a 8), .ref (a 9), .ref (a 10), .null, .null, .int 0, .int (-1), .ref (a 41)])), ((a 1), .inr (6, [.ref (a 2), .int 0, .int 0])), ((a 2), .inl ((cA 2), 160, .inl (f 2))), ((a 3), .inr (3, [.ref (a 1), .ref (a 42), .int 0, .int 0])), ((a 4), .inr (4, [.int 0, .int 0, .ref (a 43), .ref (a 44), .ref (a 45), .ref (a 46), .ref (a 47), .ref (a 48), .ref (a 49), .ref (a 50), .ref (a 51)])), ((a 5), .inr (4, [.int 0, .int 0, .ref (a 11), .ref (a 12), .ref (a 13), .ref (a 14), .ref (a 15), .ref (a 16), .ref (a 17), .ref (a 18), .ref (a 19)])), ((a 6), .inr (5, [.ref (a 52), .int 0, .ref (a 53), .int 0, .int 0, .int 0])), ((a 7), .inr (5, [.ref (a 54), .int 0, .ref (a 55), .int 0, .int 0, .int 0])), ((a 8), .inr (1, [.ref (a 56), .int 0, .int 0, .ref (a 57), .int 0, .ref (a 58)])), ((a 9), .inr (7, [.ref (a 59), .ref (a 60), .ref (a 61)])), ((a 11), .inl ((cA 11), 12, .inl (f 11))), ((a 12), .inl ((cA 12), 12, .inl (f 12))), ((a 13), .inl ((cA 13), 144, .inl (f 13))), ((a 14), .inl ((cA 14), 12, .inl (f 14))), ((a 15), .inl ((cA 15), 12, .inl (f 15))), ((a 16), .inl ((cA 16), 12, .inl (f 16))), ((a 17), .inl ((cA 17), 12, .inl (f 17))), ((a 18), .inl ((cA 18), 12, .inl (f 18))), ((a 19), .inl ((cA 19), 144, .inl (f 19)))] [((cA 2), .int), ((cA 11), .int), ((cA 12), .int), ((cA 13), .int), ((cA 14), .int), ((cA 15), .int), ((cA 16), .int), ((cA 17), .int), ((cA 18), .int), ((cA 19), .int)])) (va_Qi (fun r (_ : Unit) => r = (-1)) (fun _ _ => True) (fun _ => False)) 0 0 (fun _ => False) := by
  refine Met.ofW (cc := cX10_done) (maxL := 1) (ret := (some .int)) (by decide) rfl ?_
  intro p e s m args below meth c s₁ B hml hv
  obtain ⟨rfl, hP, hK⟩ := hv
  have hx := B.exec
  have hb := B.bytes
  have hr := B.returns
  have hts := atoms_spec (ws := .code yX10_done cX10_done 1 (some .int) :: gw) B.pre
  have htg := gw_tl hts
  have hown : s.vm.findClass RX10 = some m.cls := findClass_of_methodNamed B.named
  have hlocks := B.notSynchronized
  have hS : va_S (fun _ => False) s.heap s.heap [] := va_S.rf
  have hl := lv_entry ([.ref (a 0)]) (n := 1) (Nat.le_of_ble_eq_true rfl)
  rw [lg_entry_eq]
  generalize (lg_sl ([.ref (a 0)]) ++ List.replicate (1 - (lg_sl ([.ref (a 0)])).length) Slot.unset).toArray = ls at hl ⊢
  have hl : lv_has ls 1 [(0, .ref (a 0))] := hl
  refine lv_aload_n hx hb dX10_done_0 rfl (lv_at hl 0 rfl) ?_
  refine va_get (D := D) (ci := 10) (v := .ref (a 4)) (C := RX10) (T := TX10) (N := 17) hx hb htg in_X10 hown hK hP 0 rfl rfl 5 (by decide) (htg _ mw_13) (fun _ h9 => h9) rfl dX10_done_1 ?_
  refine va_get (D := D) (ci := 4) (v := .int 0) (C := RX4) (T := TX4) (N := 11) hx hb htg in_X4 hown hK hP 4 rfl rfl 0 (by decide) (htg _ mw_14) (fun _ h9 => h9) rfl dX10_done_4 ?_
  refine lv_if_ne (tgt := 12) hx hb dX10_done_7 (by decide) (fun h9 => False.elim (h9 (by decide))) (fun _ => ?_)
  refine lv_iconst (v := (-1)) hx hb dX10_done_10 (by decide) ?_
  exact W.iret (v := (-1)) hx hb hr  (fun t ht hW => ⟨⟨(-1), (), rfl, rfl, trivial⟩, hS.F ht⟩) hS.2.2 dX10_done_11

set_option maxHeartbeats 4000000 in
set_option maxRecDepth 100000 in
theorem c_X10_fewest (l : Launch) (D : va_G) (a : Nat → Nat) (cA : Nat → ClassId) (f : Nat → Nat → Int32) (x : Int32) : Met l yX10_fewest (.code yX10_fewest cX10_fewest 4 (some .int) :: gw) ({ frames := 1, cells := 0, slots := 0, locals := 40 }) (va_Pc [.ref (a 0), .int x] (pr D [((a 0), .inr (10, [.ref (a 1), .ref (a 3), .ref (a 40), .int 0, .int (-1), .ref (a 4), .ref (a 5), .ref (a 6), .ref (a 7), .ref (a 8), .ref (a 9), .ref (a 10), .null, .null, .int 0, .int (-1), .ref (a 41)])), ((a 1), .inr (6, [.ref (a 2), .int 0, .int 0])), ((a 2), .inl ((cA 2), 160, .inl (f 2))), ((a 3), .inr (3, [.ref (a 1), .ref (a 42), .int 0, .int 0])), ((a 4), .inr (4, [.int 0, .int 0, .ref (a 43), .ref (a 44), .ref (a 45), .ref (a 46), .ref (a 47), .ref (a 48), .ref (a 49), .ref (a 50), .ref (a 51)])), ((a 5), .inr (4, [.int 0, .int 0, .ref (a 11), .ref (a 12), .ref (a 13), .ref (a 14), .ref (a 15), .ref (a 16), .ref (a 17), .ref (a 18), .ref (a 19)])), ((a 6), .inr (5, [.ref (a 52), .int 0, .ref (a 53), .int 0, .int 0, .int 0])), ((a 7), .inr (5, [.ref (a 54), .int 0, .ref (a 55), .int 0, .int 0, .int 0])), ((a 8), .inr (1, [.ref (a 56), .int 0, .int 0, .ref (a 57), .int 0, .ref (a 58)])), ((a 9), .inr (7, [.ref (a 59), .ref (a 60), .ref (a 61)])), ((a 11), .inl ((cA 11), 12, .inl (f 11))), ((a 12), .inl ((cA 12), 12, .inl (f 12))), ((a 13), .inl ((cA 13), 144, .inl (f 13))), ((a 14), .inl ((cA 14), 12, .inl (f 14))), ((a 15), .inl ((cA 15), 12, .inl (f 15))), ((a 16), .inl ((cA 16), 12, .inl (f 16))), ((a 17), .inl ((cA 17), 12, .inl (f 17))), ((a 18), .inl ((cA 18), 12, .inl (f 18))), ((a 19), .inl ((cA 19), 144, .inl (f 19)))] [((cA 2), .int), ((cA 11), .int), ((cA 12), .int), ((cA 13), .int), ((cA 14), .int), ((cA 15), .int), ((cA 16), .int), ((cA 17), .int), ((cA 18), .int), ((cA 19), .int)])) (va_Qi (fun r (_ : Unit) => r = (-1000000)) (fun _ _ => True) (fun _ => False)) 0 0 (fun _ => False) := by
  refine Met.ofW (cc := cX10_fewest) (maxL := 4) (ret := (some .int)) (by decide) rfl ?_
  intro p e s m args below meth c s₁ B hml hv
  obtain ⟨rfl, hP, hK⟩ := hv
  have hx := B.exec
  have hb := B.bytes
  have hr := B.returns
  have hts := atoms_spec (ws := .code yX10_fewest cX10_fewest 4 (some .int) :: gw) B.pre
  have htg := gw_tl hts
  have hown : s.vm.findClass RX10 = some m.cls := findClass_of_methodNamed B.named
  have hlocks := B.notSynchronized
  have hS : va_S (fun _ => False) s.heap s.heap [] := va_S.rf
  have hl := lv_entry ([.ref (a 0), .int x]) (n := 4) (Nat.le_of_ble_eq_true rfl)
  rw [lg_entry_eq]
  generalize (lg_sl ([.ref (a 0), .int x]) ++ List.replicate (4 - (lg_sl ([.ref (a 0), .int x])).length) Slot.unset).toArray = ls at hl ⊢
  have hl : lv_has ls 4 [(0, .ref (a 0)), (1, .int x)] := hl
  refine lv_aload_n hx hb dX10_fewest_0 rfl (lv_at hl 0 rfl) ?_
  have hPc := hP.sub (ws' := [((a 0), .inr (10, [.ref (a 1), .ref (a 3), .ref (a 40), .int 0, .int (-1), .ref (a 4), .ref (a 5), .ref (a 6), .ref (a 7), .ref (a 8), .ref (a 9), .ref (a 10), .null, .null, .int 0, .int (-1), .ref (a 41)])), ((a 1), .inr (6, [.ref (a 2), .int 0, .int 0])), ((a 2), .inl ((cA 2), 160, .inl (f 2))), ((a 3), .inr (3, [.ref (a 1), .ref (a 42), .int 0, .int 0])), ((a 4), .inr (4, [.int 0, .int 0, .ref (a 43), .ref (a 44), .ref (a 45), .ref (a 46), .ref (a 47), .ref (a 48), .ref (a 49), .ref (a 50), .ref (a 51)])), ((a 5), .inr (4, [.int 0, .int 0, .ref (a 11), .ref (a 12), .ref (a 13), .ref (a 14), .ref (a 15), .ref (a 16), .ref (a 17), .ref (a 18), .ref (a 19)])), ((a 6), .inr (5, [.ref (a 52), .int 0, .ref (a 53), .int 0, .int 0, .int 0])), ((a 7), .inr (5, [.ref (a 54), .int 0, .ref (a 55), .int 0, .int 0, .int 0])), ((a 8), .inr (1, [.ref (a 56), .int 0, .int 0, .ref (a 57), .int 0, .ref (a 58)])), ((a 9), .inr (7, [.ref (a 59), .ref (a 60), .ref (a 61)])), ((a 11), .inl ((cA 11), 12, .inl (f 11))), ((a 12), .inl ((cA 12), 12, .inl (f 12))), ((a 13), .inl ((cA 13), 144, .inl (f 13))), ((a 14), .inl ((cA 14), 12, .inl (f 14))), ((a 15), .inl ((cA 15), 12, .inl (f 15))), ((a 16), .inl ((cA 16), 12, .inl (f 16))), ((a 17), .inl ((cA 17), 12, .inl (f 17))), ((a 18), .inl ((cA 18), 12, .inl (f 18))), ((a 19), .inl ((cA 19), 144, .inl (f 19)))]) [0, 1, 2, 3, 4, 5, 6, 7, 8, 9, 10, 11, 12, 13, 14, 15, 16, 17, 18] rfl
  have hKc := hK.sub (tys' := [((cA 2), .int), ((cA 11), .int), ((cA 12), .int), ((cA 13), .int), ((cA 14), .int), ((cA 15), .int), ((cA 16), .int), ((cA 17), .int), ((cA 18), .int), ((cA 19), .int)]) [0, 1, 2, 3, 4, 5, 6, 7, 8, 9] rfl
  refine va_calli (va_runV (As := []) (rest := []) ⟨hx, hb, hml, hown, htg⟩ (c_X10_isSearched l D a cA f ) (cV 0 htg mw_44 kv_X10_isSearched rfl rfl ⟨(Nat.le_of_ble_eq_true rfl), (Nat.le_of_ble_eq_true rfl)⟩) ⟨bl_r, va_recv hKc hPc (ci := 10) (q0 := 0) rfl rfl, us_r hPc hKc⟩ rfl rfl hl.1 rfl (lv_room (Nat.le_of_ble_eq_true rfl)) dX10_fewest_1 ⟨(Nat.le_of_ble_eq_true rfl), (Nat.le_of_ble_eq_true rfl)⟩) hS (fun _ _ h9 => False.elim h9) (fun _ h9 => False.elim h9) (fun r_1 u t H locs ht hvm hw hB hz1 hk1 hS => ?_)
  have hP := ro_keep hP hk1
  subst hw
  refine lv_if_ne (tgt := 10) hx hb dX10_fewest_4 (by decide) (fun h9 => False.elim (h9 (by decide))) (fun _ => ?_)
  refine lv_ldc (v := (-1000000)) hx hb hown (htg _ mw_39) dX10_fewest_7 ?_
  exact W.iret (v := (-1000000)) hx hb hr  (fun t ht hW => ⟨⟨(-1000000), (), rfl, rfl, trivial⟩, hS.F ht⟩) hS.2.2 dX10_fewest_9

set_option maxHeartbeats 4000000 in
set_option maxRecDepth 100000 in
theorem c_X10_cheapest (l : Launch) (D : va_G) (a : Nat → Nat) (cA : Nat → ClassId) (f : Nat → Nat → Int32)  : Met l yX10_cheapest (.code yX10_cheapest cX10_cheapest 1 (some .int) :: gw) ({ frames := 1, cells := 0, slots := 0, locals := 40 }) (va_Pc [.ref (a 0)] (pr D [((a 0), .inr (10, [.ref (a 1), .ref (a 3), .ref (a 40), .int 0, .int (-1), .ref (a 4), .ref (a 5), .ref (a 6), .ref (a 7), .ref (a 8), .ref (a 9), .ref (a 10), .null, .null, .int 0, .int (-1), .ref (a 41)])), ((a 1), .inr (6, [.ref (a 2), .int 0, .int 0])), ((a 2), .inl ((cA 2), 160, .inl (f 2))), ((a 3), .inr (3, [.ref (a 1), .ref (a 42), .int 0, .int 0])), ((a 4), .inr (4, [.int 0, .int 0, .ref (a 43), .ref (a 44), .ref (a 45), .ref (a 46), .ref (a 47), .ref (a 48), .ref (a 49), .ref (a 50), .ref (a 51)])), ((a 5), .inr (4, [.int 0, .int 0, .ref (a 11), .ref (a 12), .ref (a 13), .ref (a 14), .ref (a 15), .ref (a 16), .ref (a 17), .ref (a 18), .ref (a 19)])), ((a 6), .inr (5, [.ref (a 52), .int 0, .ref (a 53), .int 0, .int 0, .int 0])), ((a 7), .inr (5, [.ref (a 54), .int 0, .ref (a 55), .int 0, .int 0, .int 0])), ((a 8), .inr (1, [.ref (a 56), .int 0, .int 0, .ref (a 57), .int 0, .ref (a 58)])), ((a 9), .inr (7, [.ref (a 59), .ref (a 60), .ref (a 61)])), ((a 11), .inl ((cA 11), 12, .inl (f 11))), ((a 12), .inl ((cA 12), 12, .inl (f 12))), ((a 13), .inl ((cA 13), 144, .inl (f 13))), ((a 14), .inl ((cA 14), 12, .inl (f 14))), ((a 15), .inl ((cA 15), 12, .inl (f 15))), ((a 16), .inl ((cA 16), 12, .inl (f 16))), ((a 17), .inl ((cA 17), 12, .inl (f 17))), ((a 18), .inl ((cA 18), 12, .inl (f 18))), ((a 19), .inl ((cA 19), 144, .inl (f 19)))] [((cA 2), .int), ((cA 11), .int), ((cA 12), .int), ((cA 13), .int), ((cA 14), .int), ((cA 15), .int), ((cA 16), .int), ((cA 17), .int), ((cA 18), .int), ((cA 19), .int)])) (va_Qi (fun r (_ : Unit) => r = (-1000000)) (fun _ _ => True) (fun _ => False)) 0 0 (fun _ => False) := by
  refine Met.ofW (cc := cX10_cheapest) (maxL := 1) (ret := (some .int)) (by decide) rfl ?_
  intro p e s m args below meth c s₁ B hml hv
  obtain ⟨rfl, hP, hK⟩ := hv
  have hx := B.exec
  have hb := B.bytes
  have hr := B.returns
  have hts := atoms_spec (ws := .code yX10_cheapest cX10_cheapest 1 (some .int) :: gw) B.pre
  have htg := gw_tl hts
  have hown : s.vm.findClass RX10 = some m.cls := findClass_of_methodNamed B.named
  have hlocks := B.notSynchronized
  have hS : va_S (fun _ => False) s.heap s.heap [] := va_S.rf
  have hl := lv_entry ([.ref (a 0)]) (n := 1) (Nat.le_of_ble_eq_true rfl)
  rw [lg_entry_eq]
  generalize (lg_sl ([.ref (a 0)]) ++ List.replicate (1 - (lg_sl ([.ref (a 0)])).length) Slot.unset).toArray = ls at hl ⊢
  have hl : lv_has ls 1 [(0, .ref (a 0))] := hl
  refine lv_aload_n hx hb dX10_cheapest_0 rfl (lv_at hl 0 rfl) ?_
  have hPc := hP.sub (ws' := [((a 0), .inr (10, [.ref (a 1), .ref (a 3), .ref (a 40), .int 0, .int (-1), .ref (a 4), .ref (a 5), .ref (a 6), .ref (a 7), .ref (a 8), .ref (a 9), .ref (a 10), .null, .null, .int 0, .int (-1), .ref (a 41)])), ((a 1), .inr (6, [.ref (a 2), .int 0, .int 0])), ((a 2), .inl ((cA 2), 160, .inl (f 2))), ((a 3), .inr (3, [.ref (a 1), .ref (a 42), .int 0, .int 0])), ((a 4), .inr (4, [.int 0, .int 0, .ref (a 43), .ref (a 44), .ref (a 45), .ref (a 46), .ref (a 47), .ref (a 48), .ref (a 49), .ref (a 50), .ref (a 51)])), ((a 5), .inr (4, [.int 0, .int 0, .ref (a 11), .ref (a 12), .ref (a 13), .ref (a 14), .ref (a 15), .ref (a 16), .ref (a 17), .ref (a 18), .ref (a 19)])), ((a 6), .inr (5, [.ref (a 52), .int 0, .ref (a 53), .int 0, .int 0, .int 0])), ((a 7), .inr (5, [.ref (a 54), .int 0, .ref (a 55), .int 0, .int 0, .int 0])), ((a 8), .inr (1, [.ref (a 56), .int 0, .int 0, .ref (a 57), .int 0, .ref (a 58)])), ((a 9), .inr (7, [.ref (a 59), .ref (a 60), .ref (a 61)])), ((a 11), .inl ((cA 11), 12, .inl (f 11))), ((a 12), .inl ((cA 12), 12, .inl (f 12))), ((a 13), .inl ((cA 13), 144, .inl (f 13))), ((a 14), .inl ((cA 14), 12, .inl (f 14))), ((a 15), .inl ((cA 15), 12, .inl (f 15))), ((a 16), .inl ((cA 16), 12, .inl (f 16))), ((a 17), .inl ((cA 17), 12, .inl (f 17))), ((a 18), .inl ((cA 18), 12, .inl (f 18))), ((a 19), .inl ((cA 19), 144, .inl (f 19)))]) [0, 1, 2, 3, 4, 5, 6, 7, 8, 9, 10, 11, 12, 13, 14, 15, 16, 17, 18] rfl
  have hKc := hK.sub (tys' := [((cA 2), .int), ((cA 11), .int), ((cA 12), .int), ((cA 13), .int), ((cA 14), .int), ((cA 15), .int), ((cA 16), .int), ((cA 17), .int), ((cA 18), .int), ((cA 19), .int)]) [0, 1, 2, 3, 4, 5, 6, 7, 8, 9] rfl
  refine va_calli (va_runV (As := []) (rest := []) ⟨hx, hb, hml, hown, htg⟩ (c_X10_isSearched l D a cA f ) (cV 0 htg mw_44 kv_X10_isSearched rfl rfl ⟨(Nat.le_of_ble_eq_true rfl), (Nat.le_of_ble_eq_true rfl)⟩) ⟨bl_r, va_recv hKc hPc (ci := 10) (q0 := 0) rfl rfl, us_r hPc hKc⟩ rfl rfl hl.1 rfl (lv_room (Nat.le_of_ble_eq_true rfl)) dX10_cheapest_1 ⟨(Nat.le_of_ble_eq_true rfl), (Nat.le_of_ble_eq_true rfl)⟩) hS (fun _ _ h9 => False.elim h9) (fun _ h9 => False.elim h9) (fun r_1 u t H locs ht hvm hw hB hz1 hk1 hS => ?_)
  have hP := ro_keep hP hk1
  subst hw
  refine lv_if_eq (tgt := 23) hx hb dX10_cheapest_4 (by decide) (fun _ => ?_) (fun h9 => False.elim (h9 (by decide)))
  refine lv_ldc (v := (-1000000)) hx hb hown (htg _ mw_39) dX10_cheapest_23 ?_
  exact W.iret (v := (-1000000)) hx hb hr  (fun t ht hW => ⟨⟨(-1000000), (), rfl, rfl, trivial⟩, hS.F ht⟩) hS.2.2 dX10_cheapest_25

set_option maxHeartbeats 4000000 in
set_option maxRecDepth 100000 in
theorem c_X10_all (l : Launch) (D : va_G) (a : Nat → Nat) (cA : Nat → ClassId) (f : Nat → Nat → Int32) (x : Int32) : Met l yX10_all (.code yX10_all cX10_all 3 (some .int) :: gw) ({ frames := 1, cells := 0, slots := 0, locals := 40 }) (va_Pc [.ref (a 0), .int x] (pr D [((a 0), .inr (10, [.ref (a 1), .ref (a 3), .ref (a 40), .int 0, .int (-1), .ref (a 4), .ref (a 5), .ref (a 6), .ref (a 7), .ref (a 8), .ref (a 9), .ref (a 10), .null, .null, .int 0, .int (-1), .ref (a 41)])), ((a 1), .inr (6, [.ref (a 2), .int 0, .int 0])), ((a 2), .inl ((cA 2), 160, .inl (f 2))), ((a 3), .inr (3, [.ref (a 1), .ref (a 42), .int 0, .int 0])), ((a 4), .inr (4, [.int 0, .int 0, .ref (a 43), .ref (a 44), .ref (a 45), .ref (a 46), .ref (a 47), .ref (a 48), .ref (a 49), .ref (a 50), .ref (a 51)])), ((a 5), .inr (4, [.int 0, .int 0, .ref (a 11), .ref (a 12), .ref (a 13), .ref (a 14), .ref (a 15), .ref (a 16), .ref (a 17), .ref (a 18), .ref (a 19)])), ((a 6), .inr (5, [.ref (a 52), .int 0, .ref (a 53), .int 0, .int 0, .int 0])), ((a 7), .inr (5, [.ref (a 54), .int 0, .ref (a 55), .int 0, .int 0, .int 0])), ((a 8), .inr (1, [.ref (a 56), .int 0, .int 0, .ref (a 57), .int 0, .ref (a 58)])), ((a 9), .inr (7, [.ref (a 59), .ref (a 60), .ref (a 61)])), ((a 11), .inl ((cA 11), 12, .inl (f 11))), ((a 12), .inl ((cA 12), 12, .inl (f 12))), ((a 13), .inl ((cA 13), 144, .inl (f 13))), ((a 14), .inl ((cA 14), 12, .inl (f 14))), ((a 15), .inl ((cA 15), 12, .inl (f 15))), ((a 16), .inl ((cA 16), 12, .inl (f 16))), ((a 17), .inl ((cA 17), 12, .inl (f 17))), ((a 18), .inl ((cA 18), 12, .inl (f 18))), ((a 19), .inl ((cA 19), 144, .inl (f 19)))] [((cA 2), .int), ((cA 11), .int), ((cA 12), .int), ((cA 13), .int), ((cA 14), .int), ((cA 15), .int), ((cA 16), .int), ((cA 17), .int), ((cA 18), .int), ((cA 19), .int)])) (va_Qi (fun r (_ : Unit) => r = (-1000000)) (fun _ _ => True) (fun _ => False)) 0 0 (fun _ => False) := by
  refine Met.ofW (cc := cX10_all) (maxL := 3) (ret := (some .int)) (by decide) rfl ?_
  intro p e s m args below meth c s₁ B hml hv
  obtain ⟨rfl, hP, hK⟩ := hv
  have hx := B.exec
  have hb := B.bytes
  have hr := B.returns
  have hts := atoms_spec (ws := .code yX10_all cX10_all 3 (some .int) :: gw) B.pre
  have htg := gw_tl hts
  have hown : s.vm.findClass RX10 = some m.cls := findClass_of_methodNamed B.named
  have hlocks := B.notSynchronized
  have hS : va_S (fun _ => False) s.heap s.heap [] := va_S.rf
  have hl := lv_entry ([.ref (a 0), .int x]) (n := 3) (Nat.le_of_ble_eq_true rfl)
  rw [lg_entry_eq]
  generalize (lg_sl ([.ref (a 0), .int x]) ++ List.replicate (3 - (lg_sl ([.ref (a 0), .int x])).length) Slot.unset).toArray = ls at hl ⊢
  have hl : lv_has ls 3 [(0, .ref (a 0)), (1, .int x)] := hl
  refine lv_aload_n hx hb dX10_all_0 rfl (lv_at hl 0 rfl) ?_
  have hPc := hP.sub (ws' := [((a 0), .inr (10, [.ref (a 1), .ref (a 3), .ref (a 40), .int 0, .int (-1), .ref (a 4), .ref (a 5), .ref (a 6), .ref (a 7), .ref (a 8), .ref (a 9), .ref (a 10), .null, .null, .int 0, .int (-1), .ref (a 41)])), ((a 1), .inr (6, [.ref (a 2), .int 0, .int 0])), ((a 2), .inl ((cA 2), 160, .inl (f 2))), ((a 3), .inr (3, [.ref (a 1), .ref (a 42), .int 0, .int 0])), ((a 4), .inr (4, [.int 0, .int 0, .ref (a 43), .ref (a 44), .ref (a 45), .ref (a 46), .ref (a 47), .ref (a 48), .ref (a 49), .ref (a 50), .ref (a 51)])), ((a 5), .inr (4, [.int 0, .int 0, .ref (a 11), .ref (a 12), .ref (a 13), .ref (a 14), .ref (a 15), .ref (a 16), .ref (a 17), .ref (a 18), .ref (a 19)])), ((a 6), .inr (5, [.ref (a 52), .int 0, .ref (a 53), .int 0, .int 0, .int 0])), ((a 7), .inr (5, [.ref (a 54), .int 0, .ref (a 55), .int 0, .int 0, .int 0])), ((a 8), .inr (1, [.ref (a 56), .int 0, .int 0, .ref (a 57), .int 0, .ref (a 58)])), ((a 9), .inr (7, [.ref (a 59), .ref (a 60), .ref (a 61)])), ((a 11), .inl ((cA 11), 12, .inl (f 11))), ((a 12), .inl ((cA 12), 12, .inl (f 12))), ((a 13), .inl ((cA 13), 144, .inl (f 13))), ((a 14), .inl ((cA 14), 12, .inl (f 14))), ((a 15), .inl ((cA 15), 12, .inl (f 15))), ((a 16), .inl ((cA 16), 12, .inl (f 16))), ((a 17), .inl ((cA 17), 12, .inl (f 17))), ((a 18), .inl ((cA 18), 12, .inl (f 18))), ((a 19), .inl ((cA 19), 144, .inl (f 19)))]) [0, 1, 2, 3, 4, 5, 6, 7, 8, 9, 10, 11, 12, 13, 14, 15, 16, 17, 18] rfl
  have hKc := hK.sub (tys' := [((cA 2), .int), ((cA 11), .int), ((cA 12), .int), ((cA 13), .int), ((cA 14), .int), ((cA 15), .int), ((cA 16), .int), ((cA 17), .int), ((cA 18), .int), ((cA 19), .int)]) [0, 1, 2, 3, 4, 5, 6, 7, 8, 9] rfl
  refine va_calli (va_runV (As := []) (rest := []) ⟨hx, hb, hml, hown, htg⟩ (c_X10_isSearched l D a cA f ) (cV 0 htg mw_44 kv_X10_isSearched rfl rfl ⟨(Nat.le_of_ble_eq_true rfl), (Nat.le_of_ble_eq_true rfl)⟩) ⟨bl_r, va_recv hKc hPc (ci := 10) (q0 := 0) rfl rfl, us_r hPc hKc⟩ rfl rfl hl.1 rfl (lv_room (Nat.le_of_ble_eq_true rfl)) dX10_all_1 ⟨(Nat.le_of_ble_eq_true rfl), (Nat.le_of_ble_eq_true rfl)⟩) hS (fun _ _ h9 => False.elim h9) (fun _ h9 => False.elim h9) (fun r_1 u t H locs ht hvm hw hB hz1 hk1 hS => ?_)
  have hP := ro_keep hP hk1
  subst hw
  refine lv_if_eq (tgt := 16) hx hb dX10_all_4 (by decide) (fun _ => ?_) (fun h9 => False.elim (h9 (by decide)))
  refine lv_ldc (v := (-1000000)) hx hb hown (htg _ mw_39) dX10_all_16 ?_
  exact W.iret (v := (-1000000)) hx hb hr  (fun t ht hW => ⟨⟨(-1000000), (), rfl, rfl, trivial⟩, hS.F ht⟩) hS.2.2 dX10_all_18

set_option maxHeartbeats 4000000 in
set_option maxRecDepth 100000 in
theorem c_X10_count (l : Launch) (D : va_G) (a : Nat → Nat) (cA : Nat → ClassId) (f : Nat → Nat → Int32) (x : Int32) : Met l yX10_count (.code yX10_count cX10_count 2 (some .int) :: gw) ({ frames := 1, cells := 0, slots := 0, locals := 40 }) (va_Pc [.ref (a 0), .int x] (pr D [((a 0), .inr (10, [.ref (a 1), .ref (a 3), .ref (a 40), .int 0, .int (-1), .ref (a 4), .ref (a 5), .ref (a 6), .ref (a 7), .ref (a 8), .ref (a 9), .ref (a 10), .null, .null, .int 0, .int (-1), .ref (a 41)])), ((a 1), .inr (6, [.ref (a 2), .int 0, .int 0])), ((a 2), .inl ((cA 2), 160, .inl (f 2))), ((a 3), .inr (3, [.ref (a 1), .ref (a 42), .int 0, .int 0])), ((a 4), .inr (4, [.int 0, .int 0, .ref (a 43), .ref (a 44), .ref (a 45), .ref (a 46), .ref (a 47), .ref (a 48), .ref (a 49), .ref (a 50), .ref (a 51)])), ((a 5), .inr (4, [.int 0, .int 0, .ref (a 11), .ref (a 12), .ref (a 13), .ref (a 14), .ref (a 15), .ref (a 16), .ref (a 17), .ref (a 18), .ref (a 19)])), ((a 6), .inr (5, [.ref (a 52), .int 0, .ref (a 53), .int 0, .int 0, .int 0])), ((a 7), .inr (5, [.ref (a 54), .int 0, .ref (a 55), .int 0, .int 0, .int 0])), ((a 8), .inr (1, [.ref (a 56), .int 0, .int 0, .ref (a 57), .int 0, .ref (a 58)])), ((a 9), .inr (7, [.ref (a 59), .ref (a 60), .ref (a 61)])), ((a 11), .inl ((cA 11), 12, .inl (f 11))), ((a 12), .inl ((cA 12), 12, .inl (f 12))), ((a 13), .inl ((cA 13), 144, .inl (f 13))), ((a 14), .inl ((cA 14), 12, .inl (f 14))), ((a 15), .inl ((cA 15), 12, .inl (f 15))), ((a 16), .inl ((cA 16), 12, .inl (f 16))), ((a 17), .inl ((cA 17), 12, .inl (f 17))), ((a 18), .inl ((cA 18), 12, .inl (f 18))), ((a 19), .inl ((cA 19), 144, .inl (f 19)))] [((cA 2), .int), ((cA 11), .int), ((cA 12), .int), ((cA 13), .int), ((cA 14), .int), ((cA 15), .int), ((cA 16), .int), ((cA 17), .int), ((cA 18), .int), ((cA 19), .int)])) (va_Qi (fun r (_ : Unit) => r = (-1000000)) (fun _ _ => True) (fun _ => False)) 0 0 (fun _ => False) := by
  refine Met.ofW (cc := cX10_count) (maxL := 2) (ret := (some .int)) (by decide) rfl ?_
  intro p e s m args below meth c s₁ B hml hv
  obtain ⟨rfl, hP, hK⟩ := hv
  have hx := B.exec
  have hb := B.bytes
  have hr := B.returns
  have hts := atoms_spec (ws := .code yX10_count cX10_count 2 (some .int) :: gw) B.pre
  have htg := gw_tl hts
  have hown : s.vm.findClass RX10 = some m.cls := findClass_of_methodNamed B.named
  have hlocks := B.notSynchronized
  have hS : va_S (fun _ => False) s.heap s.heap [] := va_S.rf
  have hl := lv_entry ([.ref (a 0), .int x]) (n := 2) (Nat.le_of_ble_eq_true rfl)
  rw [lg_entry_eq]
  generalize (lg_sl ([.ref (a 0), .int x]) ++ List.replicate (2 - (lg_sl ([.ref (a 0), .int x])).length) Slot.unset).toArray = ls at hl ⊢
  have hl : lv_has ls 2 [(0, .ref (a 0)), (1, .int x)] := hl
  refine lv_aload_n hx hb dX10_count_0 rfl (lv_at hl 0 rfl) ?_
  have hPc := hP.sub (ws' := [((a 0), .inr (10, [.ref (a 1), .ref (a 3), .ref (a 40), .int 0, .int (-1), .ref (a 4), .ref (a 5), .ref (a 6), .ref (a 7), .ref (a 8), .ref (a 9), .ref (a 10), .null, .null, .int 0, .int (-1), .ref (a 41)])), ((a 1), .inr (6, [.ref (a 2), .int 0, .int 0])), ((a 2), .inl ((cA 2), 160, .inl (f 2))), ((a 3), .inr (3, [.ref (a 1), .ref (a 42), .int 0, .int 0])), ((a 4), .inr (4, [.int 0, .int 0, .ref (a 43), .ref (a 44), .ref (a 45), .ref (a 46), .ref (a 47), .ref (a 48), .ref (a 49), .ref (a 50), .ref (a 51)])), ((a 5), .inr (4, [.int 0, .int 0, .ref (a 11), .ref (a 12), .ref (a 13), .ref (a 14), .ref (a 15), .ref (a 16), .ref (a 17), .ref (a 18), .ref (a 19)])), ((a 6), .inr (5, [.ref (a 52), .int 0, .ref (a 53), .int 0, .int 0, .int 0])), ((a 7), .inr (5, [.ref (a 54), .int 0, .ref (a 55), .int 0, .int 0, .int 0])), ((a 8), .inr (1, [.ref (a 56), .int 0, .int 0, .ref (a 57), .int 0, .ref (a 58)])), ((a 9), .inr (7, [.ref (a 59), .ref (a 60), .ref (a 61)])), ((a 11), .inl ((cA 11), 12, .inl (f 11))), ((a 12), .inl ((cA 12), 12, .inl (f 12))), ((a 13), .inl ((cA 13), 144, .inl (f 13))), ((a 14), .inl ((cA 14), 12, .inl (f 14))), ((a 15), .inl ((cA 15), 12, .inl (f 15))), ((a 16), .inl ((cA 16), 12, .inl (f 16))), ((a 17), .inl ((cA 17), 12, .inl (f 17))), ((a 18), .inl ((cA 18), 12, .inl (f 18))), ((a 19), .inl ((cA 19), 144, .inl (f 19)))]) [0, 1, 2, 3, 4, 5, 6, 7, 8, 9, 10, 11, 12, 13, 14, 15, 16, 17, 18] rfl
  have hKc := hK.sub (tys' := [((cA 2), .int), ((cA 11), .int), ((cA 12), .int), ((cA 13), .int), ((cA 14), .int), ((cA 15), .int), ((cA 16), .int), ((cA 17), .int), ((cA 18), .int), ((cA 19), .int)]) [0, 1, 2, 3, 4, 5, 6, 7, 8, 9] rfl
  refine va_calli (va_runV (As := []) (rest := []) ⟨hx, hb, hml, hown, htg⟩ (c_X10_isSearched l D a cA f ) (cV 0 htg mw_44 kv_X10_isSearched rfl rfl ⟨(Nat.le_of_ble_eq_true rfl), (Nat.le_of_ble_eq_true rfl)⟩) ⟨bl_r, va_recv hKc hPc (ci := 10) (q0 := 0) rfl rfl, us_r hPc hKc⟩ rfl rfl hl.1 rfl (lv_room (Nat.le_of_ble_eq_true rfl)) dX10_count_1 ⟨(Nat.le_of_ble_eq_true rfl), (Nat.le_of_ble_eq_true rfl)⟩) hS (fun _ _ h9 => False.elim h9) (fun _ h9 => False.elim h9) (fun r_1 u t H locs ht hvm hw hB hz1 hk1 hS => ?_)
  have hP := ro_keep hP hk1
  subst hw
  refine lv_if_eq (tgt := 17) hx hb dX10_count_4 (by decide) (fun _ => ?_) (fun h9 => False.elim (h9 (by decide)))
  refine lv_ldc (v := (-1000000)) hx hb hown (htg _ mw_39) dX10_count_17 ?_
  exact W.iret (v := (-1000000)) hx hb hr  (fun t ht hW => ⟨⟨(-1000000), (), rfl, rfl, trivial⟩, hS.F ht⟩) hS.2.2 dX10_count_19

set_option maxHeartbeats 4000000 in
set_option maxRecDepth 100000 in
theorem c_X10_ill (l : Launch) (D : va_G) (a : Nat → Nat) (cA : Nat → ClassId) (f : Nat → Nat → Int32) (x : Int32) : Met l yX10_ill (.code yX10_ill cX10_ill 2 (some .int) :: gw) ({ frames := 1, cells := 0, slots := 0, locals := 40 }) (va_Pc [.ref (a 0), .int x] (pr D [((a 0), .inr (10, [.ref (a 1), .ref (a 3), .ref (a 40), .int 0, .int (-1), .ref (a 4), .ref (a 5), .ref (a 6), .ref (a 7), .ref (a 8), .ref (a 9), .ref (a 10), .null, .null, .int 0, .int (-1), .ref (a 41)])), ((a 1), .inr (6, [.ref (a 2), .int 0, .int 0])), ((a 2), .inl ((cA 2), 160, .inl (f 2))), ((a 3), .inr (3, [.ref (a 1), .ref (a 42), .int 0, .int 0])), ((a 4), .inr (4, [.int 0, .int 0, .ref (a 43), .ref (a 44), .ref (a 45), .ref (a 46), .ref (a 47), .ref (a 48), .ref (a 49), .ref (a 50), .ref (a 51)])), ((a 5), .inr (4, [.int 0, .int 0, .ref (a 11), .ref (a 12), .ref (a 13), .ref (a 14), .ref (a 15), .ref (a 16), .ref (a 17), .ref (a 18), .ref (a 19)])), ((a 6), .inr (5, [.ref (a 52), .int 0, .ref (a 53), .int 0, .int 0, .int 0])), ((a 7), .inr (5, [.ref (a 54), .int 0, .ref (a 55), .int 0, .int 0, .int 0])), ((a 8), .inr (1, [.ref (a 56), .int 0, .int 0, .ref (a 57), .int 0, .ref (a 58)])), ((a 9), .inr (7, [.ref (a 59), .ref (a 60), .ref (a 61)])), ((a 11), .inl ((cA 11), 12, .inl (f 11))), ((a 12), .inl ((cA 12), 12, .inl (f 12))), ((a 13), .inl ((cA 13), 144, .inl (f 13))), ((a 14), .inl ((cA 14), 12, .inl (f 14))), ((a 15), .inl ((cA 15), 12, .inl (f 15))), ((a 16), .inl ((cA 16), 12, .inl (f 16))), ((a 17), .inl ((cA 17), 12, .inl (f 17))), ((a 18), .inl ((cA 18), 12, .inl (f 18))), ((a 19), .inl ((cA 19), 144, .inl (f 19)))] [((cA 2), .int), ((cA 11), .int), ((cA 12), .int), ((cA 13), .int), ((cA 14), .int), ((cA 15), .int), ((cA 16), .int), ((cA 17), .int), ((cA 18), .int), ((cA 19), .int)])) (va_Qi (fun r (_ : Unit) => r = (-1000000)) (fun _ _ => True) (fun _ => False)) 0 0 (fun _ => False) := by
  refine Met.ofW (cc := cX10_ill) (maxL := 2) (ret := (some .int)) (by decide) rfl ?_
  intro p e s m args below meth c s₁ B hml hv
  obtain ⟨rfl, hP, hK⟩ := hv
  have hx := B.exec
  have hb := B.bytes
  have hr := B.returns
  have hts := atoms_spec (ws := .code yX10_ill cX10_ill 2 (some .int) :: gw) B.pre
  have htg := gw_tl hts
  have hown : s.vm.findClass RX10 = some m.cls := findClass_of_methodNamed B.named
  have hlocks := B.notSynchronized
  have hS : va_S (fun _ => False) s.heap s.heap [] := va_S.rf
  have hl := lv_entry ([.ref (a 0), .int x]) (n := 2) (Nat.le_of_ble_eq_true rfl)
  rw [lg_entry_eq]
  generalize (lg_sl ([.ref (a 0), .int x]) ++ List.replicate (2 - (lg_sl ([.ref (a 0), .int x])).length) Slot.unset).toArray = ls at hl ⊢
  have hl : lv_has ls 2 [(0, .ref (a 0)), (1, .int x)] := hl
  refine lv_aload_n hx hb dX10_ill_0 rfl (lv_at hl 0 rfl) ?_
  have hPc := hP.sub (ws' := [((a 0), .inr (10, [.ref (a 1), .ref (a 3), .ref (a 40), .int 0, .int (-1), .ref (a 4), .ref (a 5), .ref (a 6), .ref (a 7), .ref (a 8), .ref (a 9), .ref (a 10), .null, .null, .int 0, .int (-1), .ref (a 41)])), ((a 1), .inr (6, [.ref (a 2), .int 0, .int 0])), ((a 2), .inl ((cA 2), 160, .inl (f 2))), ((a 3), .inr (3, [.ref (a 1), .ref (a 42), .int 0, .int 0])), ((a 4), .inr (4, [.int 0, .int 0, .ref (a 43), .ref (a 44), .ref (a 45), .ref (a 46), .ref (a 47), .ref (a 48), .ref (a 49), .ref (a 50), .ref (a 51)])), ((a 5), .inr (4, [.int 0, .int 0, .ref (a 11), .ref (a 12), .ref (a 13), .ref (a 14), .ref (a 15), .ref (a 16), .ref (a 17), .ref (a 18), .ref (a 19)])), ((a 6), .inr (5, [.ref (a 52), .int 0, .ref (a 53), .int 0, .int 0, .int 0])), ((a 7), .inr (5, [.ref (a 54), .int 0, .ref (a 55), .int 0, .int 0, .int 0])), ((a 8), .inr (1, [.ref (a 56), .int 0, .int 0, .ref (a 57), .int 0, .ref (a 58)])), ((a 9), .inr (7, [.ref (a 59), .ref (a 60), .ref (a 61)])), ((a 11), .inl ((cA 11), 12, .inl (f 11))), ((a 12), .inl ((cA 12), 12, .inl (f 12))), ((a 13), .inl ((cA 13), 144, .inl (f 13))), ((a 14), .inl ((cA 14), 12, .inl (f 14))), ((a 15), .inl ((cA 15), 12, .inl (f 15))), ((a 16), .inl ((cA 16), 12, .inl (f 16))), ((a 17), .inl ((cA 17), 12, .inl (f 17))), ((a 18), .inl ((cA 18), 12, .inl (f 18))), ((a 19), .inl ((cA 19), 144, .inl (f 19)))]) [0, 1, 2, 3, 4, 5, 6, 7, 8, 9, 10, 11, 12, 13, 14, 15, 16, 17, 18] rfl
  have hKc := hK.sub (tys' := [((cA 2), .int), ((cA 11), .int), ((cA 12), .int), ((cA 13), .int), ((cA 14), .int), ((cA 15), .int), ((cA 16), .int), ((cA 17), .int), ((cA 18), .int), ((cA 19), .int)]) [0, 1, 2, 3, 4, 5, 6, 7, 8, 9] rfl
  refine va_calli (va_runV (As := []) (rest := []) ⟨hx, hb, hml, hown, htg⟩ (c_X10_isSearched l D a cA f ) (cV 0 htg mw_44 kv_X10_isSearched rfl rfl ⟨(Nat.le_of_ble_eq_true rfl), (Nat.le_of_ble_eq_true rfl)⟩) ⟨bl_r, va_recv hKc hPc (ci := 10) (q0 := 0) rfl rfl, us_r hPc hKc⟩ rfl rfl hl.1 rfl (lv_room (Nat.le_of_ble_eq_true rfl)) dX10_ill_1 ⟨(Nat.le_of_ble_eq_true rfl), (Nat.le_of_ble_eq_true rfl)⟩) hS (fun _ _ h9 => False.elim h9) (fun _ h9 => False.elim h9) (fun r_1 u t H locs ht hvm hw hB hz1 hk1 hS => ?_)
  have hP := ro_keep hP hk1
  subst hw
  refine lv_if_eq (tgt := 18) hx hb dX10_ill_4 (by decide) (fun _ => ?_) (fun h9 => False.elim (h9 (by decide)))
  refine lv_ldc (v := (-1000000)) hx hb hown (htg _ mw_39) dX10_ill_18 ?_
  exact W.iret (v := (-1000000)) hx hb hr  (fun t ht hW => ⟨⟨(-1000000), (), rfl, rfl, trivial⟩, hS.F ht⟩) hS.2.2 dX10_ill_20

set_option maxHeartbeats 4000000 in
set_option maxRecDepth 100000 in
theorem c_X10_holds (l : Launch) (D : va_G) (a : Nat → Nat) (cA : Nat → ClassId) (f : Nat → Nat → Int32)  : Met l yX10_holds (.code yX10_holds cX10_holds 5 (some .int) :: gw) ({ frames := 1, cells := 0, slots := 0, locals := 40 }) (va_Pc [.ref (a 0)] (pr D [((a 0), .inr (10, [.ref (a 1), .ref (a 3), .ref (a 40), .int 0, .int (-1), .ref (a 4), .ref (a 5), .ref (a 6), .ref (a 7), .ref (a 8), .ref (a 9), .ref (a 10), .null, .null, .int 0, .int (-1), .ref (a 41)])), ((a 1), .inr (6, [.ref (a 2), .int 0, .int 0])), ((a 2), .inl ((cA 2), 160, .inl (f 2))), ((a 3), .inr (3, [.ref (a 1), .ref (a 42), .int 0, .int 0])), ((a 4), .inr (4, [.int 0, .int 0, .ref (a 43), .ref (a 44), .ref (a 45), .ref (a 46), .ref (a 47), .ref (a 48), .ref (a 49), .ref (a 50), .ref (a 51)])), ((a 5), .inr (4, [.int 0, .int 0, .ref (a 11), .ref (a 12), .ref (a 13), .ref (a 14), .ref (a 15), .ref (a 16), .ref (a 17), .ref (a 18), .ref (a 19)])), ((a 6), .inr (5, [.ref (a 52), .int 0, .ref (a 53), .int 0, .int 0, .int 0])), ((a 7), .inr (5, [.ref (a 54), .int 0, .ref (a 55), .int 0, .int 0, .int 0])), ((a 8), .inr (1, [.ref (a 56), .int 0, .int 0, .ref (a 57), .int 0, .ref (a 58)])), ((a 9), .inr (7, [.ref (a 59), .ref (a 60), .ref (a 61)])), ((a 11), .inl ((cA 11), 12, .inl (f 11))), ((a 12), .inl ((cA 12), 12, .inl (f 12))), ((a 13), .inl ((cA 13), 144, .inl (f 13))), ((a 14), .inl ((cA 14), 12, .inl (f 14))), ((a 15), .inl ((cA 15), 12, .inl (f 15))), ((a 16), .inl ((cA 16), 12, .inl (f 16))), ((a 17), .inl ((cA 17), 12, .inl (f 17))), ((a 18), .inl ((cA 18), 12, .inl (f 18))), ((a 19), .inl ((cA 19), 144, .inl (f 19)))] [((cA 2), .int), ((cA 11), .int), ((cA 12), .int), ((cA 13), .int), ((cA 14), .int), ((cA 15), .int), ((cA 16), .int), ((cA 17), .int), ((cA 18), .int), ((cA 19), .int)])) (va_Qi (fun r (_ : Unit) => r = (-1000000)) (fun _ _ => True) (fun _ => False)) 0 0 (fun _ => False) := by
  refine Met.ofW (cc := cX10_holds) (maxL := 5) (ret := (some .int)) (by decide) rfl ?_
  intro p e s m args below meth c s₁ B hml hv
  obtain ⟨rfl, hP, hK⟩ := hv
  have hx := B.exec
  have hb := B.bytes
  have hr := B.returns
  have hts := atoms_spec (ws := .code yX10_holds cX10_holds 5 (some .int) :: gw) B.pre
  have htg := gw_tl hts
  have hown : s.vm.findClass RX10 = some m.cls := findClass_of_methodNamed B.named
  have hlocks := B.notSynchronized
  have hS : va_S (fun _ => False) s.heap s.heap [] := va_S.rf
  have hl := lv_entry ([.ref (a 0)]) (n := 5) (Nat.le_of_ble_eq_true rfl)
  rw [lg_entry_eq]
  generalize (lg_sl ([.ref (a 0)]) ++ List.replicate (5 - (lg_sl ([.ref (a 0)])).length) Slot.unset).toArray = ls at hl ⊢
  have hl : lv_has ls 5 [(0, .ref (a 0))] := hl
  refine lv_aload_n hx hb dX10_holds_0 rfl (lv_at hl 0 rfl) ?_
  have hPc := hP.sub (ws' := [((a 0), .inr (10, [.ref (a 1), .ref (a 3), .ref (a 40), .int 0, .int (-1), .ref (a 4), .ref (a 5), .ref (a 6), .ref (a 7), .ref (a 8), .ref (a 9), .ref (a 10), .null, .null, .int 0, .int (-1), .ref (a 41)])), ((a 1), .inr (6, [.ref (a 2), .int 0, .int 0])), ((a 2), .inl ((cA 2), 160, .inl (f 2))), ((a 3), .inr (3, [.ref (a 1), .ref (a 42), .int 0, .int 0])), ((a 4), .inr (4, [.int 0, .int 0, .ref (a 43), .ref (a 44), .ref (a 45), .ref (a 46), .ref (a 47), .ref (a 48), .ref (a 49), .ref (a 50), .ref (a 51)])), ((a 5), .inr (4, [.int 0, .int 0, .ref (a 11), .ref (a 12), .ref (a 13), .ref (a 14), .ref (a 15), .ref (a 16), .ref (a 17), .ref (a 18), .ref (a 19)])), ((a 6), .inr (5, [.ref (a 52), .int 0, .ref (a 53), .int 0, .int 0, .int 0])), ((a 7), .inr (5, [.ref (a 54), .int 0, .ref (a 55), .int 0, .int 0, .int 0])), ((a 8), .inr (1, [.ref (a 56), .int 0, .int 0, .ref (a 57), .int 0, .ref (a 58)])), ((a 9), .inr (7, [.ref (a 59), .ref (a 60), .ref (a 61)])), ((a 11), .inl ((cA 11), 12, .inl (f 11))), ((a 12), .inl ((cA 12), 12, .inl (f 12))), ((a 13), .inl ((cA 13), 144, .inl (f 13))), ((a 14), .inl ((cA 14), 12, .inl (f 14))), ((a 15), .inl ((cA 15), 12, .inl (f 15))), ((a 16), .inl ((cA 16), 12, .inl (f 16))), ((a 17), .inl ((cA 17), 12, .inl (f 17))), ((a 18), .inl ((cA 18), 12, .inl (f 18))), ((a 19), .inl ((cA 19), 144, .inl (f 19)))]) [0, 1, 2, 3, 4, 5, 6, 7, 8, 9, 10, 11, 12, 13, 14, 15, 16, 17, 18] rfl
  have hKc := hK.sub (tys' := [((cA 2), .int), ((cA 11), .int), ((cA 12), .int), ((cA 13), .int), ((cA 14), .int), ((cA 15), .int), ((cA 16), .int), ((cA 17), .int), ((cA 18), .int), ((cA 19), .int)]) [0, 1, 2, 3, 4, 5, 6, 7, 8, 9] rfl
  refine va_calli (va_runV (As := []) (rest := []) ⟨hx, hb, hml, hown, htg⟩ (c_X10_isSearched l D a cA f ) (cV 0 htg mw_44 kv_X10_isSearched rfl rfl ⟨(Nat.le_of_ble_eq_true rfl), (Nat.le_of_ble_eq_true rfl)⟩) ⟨bl_r, va_recv hKc hPc (ci := 10) (q0 := 0) rfl rfl, us_r hPc hKc⟩ rfl rfl hl.1 rfl (lv_room (Nat.le_of_ble_eq_true rfl)) dX10_holds_1 ⟨(Nat.le_of_ble_eq_true rfl), (Nat.le_of_ble_eq_true rfl)⟩) hS (fun _ _ h9 => False.elim h9) (fun _ h9 => False.elim h9) (fun r_1 u t H locs ht hvm hw hB hz1 hk1 hS => ?_)
  have hP := ro_keep hP hk1
  subst hw
  refine lv_if_ne (tgt := 10) hx hb dX10_holds_4 (by decide) (fun h9 => False.elim (h9 (by decide))) (fun _ => ?_)
  refine lv_ldc (v := (-1000000)) hx hb hown (htg _ mw_39) dX10_holds_7 ?_
  exact W.iret (v := (-1000000)) hx hb hr  (fun t ht hW => ⟨⟨(-1000000), (), rfl, rfl, trivial⟩, hS.F ht⟩) hS.2.2 dX10_holds_9

set_option maxHeartbeats 4000000 in
set_option maxRecDepth 100000 in
theorem c_X10_sort (l : Launch) (D : va_G) (a : Nat → Nat) (cA : Nat → ClassId) (f : Nat → Nat → Int32)  : Met l yX10_sort (.code yX10_sort cX10_sort 1 (some .int) :: gw) ({ frames := 1, cells := 0, slots := 0, locals := 40 }) (va_Pc [.ref (a 0)] (pr D [((a 0), .inr (10, [.ref (a 1), .ref (a 3), .ref (a 40), .int 0, .int (-1), .ref (a 4), .ref (a 5), .ref (a 6), .ref (a 7), .ref (a 8), .ref (a 9), .ref (a 10), .null, .null, .int 0, .int (-1), .ref (a 41)])), ((a 1), .inr (6, [.ref (a 2), .int 0, .int 0])), ((a 2), .inl ((cA 2), 160, .inl (f 2))), ((a 3), .inr (3, [.ref (a 1), .ref (a 42), .int 0, .int 0])), ((a 4), .inr (4, [.int 0, .int 0, .ref (a 43), .ref (a 44), .ref (a 45), .ref (a 46), .ref (a 47), .ref (a 48), .ref (a 49), .ref (a 50), .ref (a 51)])), ((a 5), .inr (4, [.int 0, .int 0, .ref (a 11), .ref (a 12), .ref (a 13), .ref (a 14), .ref (a 15), .ref (a 16), .ref (a 17), .ref (a 18), .ref (a 19)])), ((a 6), .inr (5, [.ref (a 52), .int 0, .ref (a 53), .int 0, .int 0, .int 0])), ((a 7), .inr (5, [.ref (a 54), .int 0, .ref (a 55), .int 0, .int 0, .int 0])), ((a 8), .inr (1, [.ref (a 56), .int 0, .int 0, .ref (a 57), .int 0, .ref (a 58)])), ((a 9), .inr (7, [.ref (a 59), .ref (a 60), .ref (a 61)])), ((a 11), .inl ((cA 11), 12, .inl (f 11))), ((a 12), .inl ((cA 12), 12, .inl (f 12))), ((a 13), .inl ((cA 13), 144, .inl (f 13))), ((a 14), .inl ((cA 14), 12, .inl (f 14))), ((a 15), .inl ((cA 15), 12, .inl (f 15))), ((a 16), .inl ((cA 16), 12, .inl (f 16))), ((a 17), .inl ((cA 17), 12, .inl (f 17))), ((a 18), .inl ((cA 18), 12, .inl (f 18))), ((a 19), .inl ((cA 19), 144, .inl (f 19)))] [((cA 2), .int), ((cA 11), .int), ((cA 12), .int), ((cA 13), .int), ((cA 14), .int), ((cA 15), .int), ((cA 16), .int), ((cA 17), .int), ((cA 18), .int), ((cA 19), .int)])) (va_Qi (fun r (_ : Unit) => r = (-1)) (fun _ _ => True) (fun _ => False)) 0 0 (fun _ => False) := by
  refine Met.ofW (cc := cX10_sort) (maxL := 1) (ret := (some .int)) (by decide) rfl ?_
  intro p e s m args below meth c s₁ B hml hv
  obtain ⟨rfl, hP, hK⟩ := hv
  have hx := B.exec
  have hb := B.bytes
  have hr := B.returns
  have hts := atoms_spec (ws := .code yX10_sort cX10_sort 1 (some .int) :: gw) B.pre
  have htg := gw_tl hts
  have hown : s.vm.findClass RX10 = some m.cls := findClass_of_methodNamed B.named
  have hlocks := B.notSynchronized
  have hS : va_S (fun _ => False) s.heap s.heap [] := va_S.rf
  have hl := lv_entry ([.ref (a 0)]) (n := 1) (Nat.le_of_ble_eq_true rfl)
  rw [lg_entry_eq]
  generalize (lg_sl ([.ref (a 0)]) ++ List.replicate (1 - (lg_sl ([.ref (a 0)])).length) Slot.unset).toArray = ls at hl ⊢
  have hl : lv_has ls 1 [(0, .ref (a 0))] := hl
  refine lv_aload_n hx hb dX10_sort_0 rfl (lv_at hl 0 rfl) ?_
  refine va_get (D := D) (ci := 10) (v := .ref (a 9)) (C := RX10) (T := TX10) (N := 17) hx hb htg in_X10 hown hK hP 0 rfl rfl 10 (by decide) (htg _ mw_45) (fun _ h9 => h9) rfl dX10_sort_1 ?_
  refine lv_aload_n hx hb dX10_sort_4 rfl (lv_at hl 0 rfl) ?_
  refine va_get (D := D) (ci := 10) (v := .ref (a 4)) (C := RX10) (T := TX10) (N := 17) hx hb htg in_X10 hown hK hP 0 rfl rfl 5 (by decide) (htg _ mw_13) (fun _ h9 => h9) rfl dX10_sort_5 ?_
  have hPc := hP.sub (ws' := [((a 9), .inr (7, [.ref (a 59), .ref (a 60), .ref (a 61)])), ((a 4), .inr (4, [.int 0, .int 0, .ref (a 43), .ref (a 44), .ref (a 45), .ref (a 46), .ref (a 47), .ref (a 48), .ref (a 49), .ref (a 50), .ref (a 51)]))]) [9, 4] rfl
  have hKc := hK.sub (tys' := []) [] rfl
  refine va_calli (va_runV (As := [.ref (a 4)]) (rest := []) ⟨hx, hb, hml, hown, htg⟩ (c_X7_kindOf l D (a 9) [.ref (a 59), .ref (a 60), .ref (a 61)] (a 4) [.ref (a 43), .ref (a 44), .ref (a 45), .ref (a 46), .ref (a 47), .ref (a 48), .ref (a 49), .ref (a 50), .ref (a 51)]) (cV 1 htg mw_50 kv_X7_kindOf rfl rfl ⟨(Nat.le_of_ble_eq_true rfl), (Nat.le_of_ble_eq_true rfl)⟩) ⟨bl_r, va_recv hKc hPc (ci := 7) (q0 := 0) rfl rfl, us_r hPc hKc⟩ rfl rfl hl.1 rfl (lv_room (Nat.le_of_ble_eq_true rfl)) dX10_sort_8 ⟨(Nat.le_of_ble_eq_true rfl), (Nat.le_of_ble_eq_true rfl)⟩) hS (fun _ _ h9 => False.elim h9) (fun _ h9 => False.elim h9) (fun r_1 u t H locs ht hvm hw hB hz1 hk1 hS => ?_)
  have hP := ro_keep hP hk1
  subst hw
  exact W.iret (v := (-1)) hx hb hr  (fun t ht hW => ⟨⟨(-1), (), rfl, rfl, trivial⟩, hS.F ht⟩) hS.2.2 dX10_sort_11

set_option maxHeartbeats 4000000 in
set_option maxRecDepth 100000 in
theorem c_X10_can (l : Launch) (D : va_G) (a : Nat → Nat) (cA : Nat → ClassId) (f : Nat → Nat → Int32)  : Met l yX10_can (.code yX10_can cX10_can 3 (some .int) :: gw) ({ frames := 1, cells := 0, slots := 0, locals := 40 }) (va_Pc [.ref (a 0)] (pr D [((a 0), .inr (10, [.ref (a 1), .ref (a 3), .ref (a 40), .int 0, .int (-1), .ref (a 4), .ref (a 5), .ref (a 6), .ref (a 7), .ref (a 8), .ref (a 9), .ref (a 10), .null, .null, .int 0, .int (-1), .ref (a 41)])), ((a 1), .inr (6, [.ref (a 2), .int 0, .int 0])), ((a 2), .inl ((cA 2), 160, .inl (f 2))), ((a 3), .inr (3, [.ref (a 1), .ref (a 42), .int 0, .int 0])), ((a 4), .inr (4, [.int 0, .int 0, .ref (a 43), .ref (a 44), .ref (a 45), .ref (a 46), .ref (a 47), .ref (a 48), .ref (a 49), .ref (a 50), .ref (a 51)])), ((a 5), .inr (4, [.int 0, .int 0, .ref (a 11), .ref (a 12), .ref (a 13), .ref (a 14), .ref (a 15), .ref (a 16), .ref (a 17), .ref (a 18), .ref (a 19)])), ((a 6), .inr (5, [.ref (a 52), .int 0, .ref (a 53), .int 0, .int 0, .int 0])), ((a 7), .inr (5, [.ref (a 54), .int 0, .ref (a 55), .int 0, .int 0, .int 0])), ((a 8), .inr (1, [.ref (a 56), .int 0, .int 0, .ref (a 57), .int 0, .ref (a 58)])), ((a 9), .inr (7, [.ref (a 59), .ref (a 60), .ref (a 61)])), ((a 11), .inl ((cA 11), 12, .inl (f 11))), ((a 12), .inl ((cA 12), 12, .inl (f 12))), ((a 13), .inl ((cA 13), 144, .inl (f 13))), ((a 14), .inl ((cA 14), 12, .inl (f 14))), ((a 15), .inl ((cA 15), 12, .inl (f 15))), ((a 16), .inl ((cA 16), 12, .inl (f 16))), ((a 17), .inl ((cA 17), 12, .inl (f 17))), ((a 18), .inl ((cA 18), 12, .inl (f 18))), ((a 19), .inl ((cA 19), 144, .inl (f 19)))] [((cA 2), .int), ((cA 11), .int), ((cA 12), .int), ((cA 13), .int), ((cA 14), .int), ((cA 15), .int), ((cA 16), .int), ((cA 17), .int), ((cA 18), .int), ((cA 19), .int)])) (va_Qi (fun r (_ : Unit) => r = (-1)) (fun _ _ => True) (fun _ => False)) 0 0 (fun _ => False) := by
  refine Met.ofW (cc := cX10_can) (maxL := 3) (ret := (some .int)) (by decide) rfl ?_
  intro p e s m args below meth c s₁ B hml hv
  obtain ⟨rfl, hP, hK⟩ := hv
  have hx := B.exec
  have hb := B.bytes
  have hr := B.returns
  have hts := atoms_spec (ws := .code yX10_can cX10_can 3 (some .int) :: gw) B.pre
  have htg := gw_tl hts
  have hown : s.vm.findClass RX10 = some m.cls := findClass_of_methodNamed B.named
  have hlocks := B.notSynchronized
  have hS : va_S (fun _ => False) s.heap s.heap [] := va_S.rf
  have hl := lv_entry ([.ref (a 0)]) (n := 3) (Nat.le_of_ble_eq_true rfl)
  rw [lg_entry_eq]
  generalize (lg_sl ([.ref (a 0)]) ++ List.replicate (3 - (lg_sl ([.ref (a 0)])).length) Slot.unset).toArray = ls at hl ⊢
  have hl : lv_has ls 3 [(0, .ref (a 0))] := hl
  refine lv_aload_n hx hb dX10_can_0 rfl (lv_at hl 0 rfl) ?_
  refine va_get (D := D) (ci := 10) (v := .ref (a 9)) (C := RX10) (T := TX10) (N := 17) hx hb htg in_X10 hown hK hP 0 rfl rfl 10 (by decide) (htg _ mw_45) (fun _ h9 => h9) rfl dX10_can_1 ?_
  refine lv_aload_n hx hb dX10_can_4 rfl (lv_at hl 0 rfl) ?_
  refine va_get (D := D) (ci := 10) (v := .ref (a 4)) (C := RX10) (T := TX10) (N := 17) hx hb htg in_X10 hown hK hP 0 rfl rfl 5 (by decide) (htg _ mw_13) (fun _ h9 => h9) rfl dX10_can_5 ?_
  have hPc := hP.sub (ws' := [((a 9), .inr (7, [.ref (a 59), .ref (a 60), .ref (a 61)])), ((a 4), .inr (4, [.int 0, .int 0, .ref (a 43), .ref (a 44), .ref (a 45), .ref (a 46), .ref (a 47), .ref (a 48), .ref (a 49), .ref (a 50), .ref (a 51)]))]) [9, 4] rfl
  have hKc := hK.sub (tys' := []) [] rfl
  refine va_calli (va_runV (As := [.ref (a 4)]) (rest := []) ⟨hx, hb, hml, hown, htg⟩ (c_X7_kindOf l D (a 9) [.ref (a 59), .ref (a 60), .ref (a 61)] (a 4) [.ref (a 43), .ref (a 44), .ref (a 45), .ref (a 46), .ref (a 47), .ref (a 48), .ref (a 49), .ref (a 50), .ref (a 51)]) (cV 1 htg mw_50 kv_X7_kindOf rfl rfl ⟨(Nat.le_of_ble_eq_true rfl), (Nat.le_of_ble_eq_true rfl)⟩) ⟨bl_r, va_recv hKc hPc (ci := 7) (q0 := 0) rfl rfl, us_r hPc hKc⟩ rfl rfl hl.1 rfl (lv_room (Nat.le_of_ble_eq_true rfl)) dX10_can_8 ⟨(Nat.le_of_ble_eq_true rfl), (Nat.le_of_ble_eq_true rfl)⟩) hS (fun _ _ h9 => False.elim h9) (fun _ h9 => False.elim h9) (fun r_1 u t H locs ht hvm hw hB hz1 hk1 hS => ?_)
  have hP := ro_keep hP hk1
  subst hw
  refine lv_istore_n (lv' := [(1, .int (-1)), (0, .ref (a 0))]) hx hb dX10_can_11 rfl hl (by decide) rfl (fun ls hl => ?_)
  refine lv_iload_n hx hb dX10_can_12 rfl (lv_at hl 0 rfl) ?_
  refine lv_iconst (v := (-1)) hx hb dX10_can_13 (by decide) ?_
  refine lv_icmp_eq (tgt := 27) hx hb dX10_can_14 (by decide) (fun _ => ?_) (fun h9 => False.elim (h9 (by decide)))
  refine lv_iconst (v := (-1)) hx hb dX10_can_27 (by decide) ?_
  exact W.iret (v := (-1)) hx hb hr  (fun t ht hW => ⟨⟨(-1), (), rfl, rfl, trivial⟩, hS.F ht⟩) hS.2.2 dX10_can_28

set_option maxHeartbeats 4000000 in
set_option maxRecDepth 100000 in
theorem c_X10_worth (l : Launch) (D : va_G) (a : Nat → Nat) (cA : Nat → ClassId) (f : Nat → Nat → Int32) (x y z : Int32) : Met l yX10_worth (.code yX10_worth cX10_worth 4 (some .boolean) :: gw) ({ frames := 1, cells := 0, slots := 0, locals := 40 }) (va_Pc [.ref (a 0), .int x, .int y, .int z] (pr D [((a 0), .inr (10, [.ref (a 1), .ref (a 3), .ref (a 40), .int 0, .int (-1), .ref (a 4), .ref (a 5), .ref (a 6), .ref (a 7), .ref (a 8), .ref (a 9), .ref (a 10), .null, .null, .int 0, .int (-1), .ref (a 41)])), ((a 1), .inr (6, [.ref (a 2), .int 0, .int 0])), ((a 2), .inl ((cA 2), 160, .inl (f 2))), ((a 3), .inr (3, [.ref (a 1), .ref (a 42), .int 0, .int 0])), ((a 4), .inr (4, [.int 0, .int 0, .ref (a 43), .ref (a 44), .ref (a 45), .ref (a 46), .ref (a 47), .ref (a 48), .ref (a 49), .ref (a 50), .ref (a 51)])), ((a 5), .inr (4, [.int 0, .int 0, .ref (a 11), .ref (a 12), .ref (a 13), .ref (a 14), .ref (a 15), .ref (a 16), .ref (a 17), .ref (a 18), .ref (a 19)])), ((a 6), .inr (5, [.ref (a 52), .int 0, .ref (a 53), .int 0, .int 0, .int 0])), ((a 7), .inr (5, [.ref (a 54), .int 0, .ref (a 55), .int 0, .int 0, .int 0])), ((a 8), .inr (1, [.ref (a 56), .int 0, .int 0, .ref (a 57), .int 0, .ref (a 58)])), ((a 9), .inr (7, [.ref (a 59), .ref (a 60), .ref (a 61)])), ((a 11), .inl ((cA 11), 12, .inl (f 11))), ((a 12), .inl ((cA 12), 12, .inl (f 12))), ((a 13), .inl ((cA 13), 144, .inl (f 13))), ((a 14), .inl ((cA 14), 12, .inl (f 14))), ((a 15), .inl ((cA 15), 12, .inl (f 15))), ((a 16), .inl ((cA 16), 12, .inl (f 16))), ((a 17), .inl ((cA 17), 12, .inl (f 17))), ((a 18), .inl ((cA 18), 12, .inl (f 18))), ((a 19), .inl ((cA 19), 144, .inl (f 19)))] [((cA 2), .int), ((cA 11), .int), ((cA 12), .int), ((cA 13), .int), ((cA 14), .int), ((cA 15), .int), ((cA 16), .int), ((cA 17), .int), ((cA 18), .int), ((cA 19), .int)])) (va_Qi (fun r (_ : Unit) => r = 0) (fun _ _ => True) (fun _ => False)) 0 0 (fun _ => False) := by
  refine Met.ofW (cc := cX10_worth) (maxL := 4) (ret := (some .boolean)) (by decide) rfl ?_
  intro p e s m args below meth c s₁ B hml hv
  obtain ⟨rfl, hP, hK⟩ := hv
  have hx := B.exec
  have hb := B.bytes
  have hr := B.returns
  have hts := atoms_spec (ws := .code yX10_worth cX10_worth 4 (some .boolean) :: gw) B.pre
  have htg := gw_tl hts
  have hown : s.vm.findClass RX10 = some m.cls := findClass_of_methodNamed B.named
  have hlocks := B.notSynchronized
  have hS : va_S (fun _ => False) s.heap s.heap [] := va_S.rf
  have hl := lv_entry ([.ref (a 0), .int x, .int y, .int z]) (n := 4) (Nat.le_of_ble_eq_true rfl)
  rw [lg_entry_eq]
  generalize (lg_sl ([.ref (a 0), .int x, .int y, .int z]) ++ List.replicate (4 - (lg_sl ([.ref (a 0), .int x, .int y, .int z])).length) Slot.unset).toArray = ls at hl ⊢
  have hl : lv_has ls 4 [(0, .ref (a 0)), (1, .int x), (2, .int y), (3, .int z)] := hl
  refine lv_aload_n hx hb dX10_worth_0 rfl (lv_at hl 0 rfl) ?_
  refine va_get (D := D) (ci := 10) (v := .ref (a 4)) (C := RX10) (T := TX10) (N := 17) hx hb htg in_X10 hown hK hP 0 rfl rfl 5 (by decide) (htg _ mw_13) (fun _ h9 => h9) rfl dX10_worth_1 ?_
  refine lv_iload_n hx hb dX10_worth_4 rfl (lv_at hl 1 rfl) ?_
  have hPc := hP.sub (ws' := [((a 4), .inr (4, [.int 0, .int 0, .ref (a 43), .ref (a 44), .ref (a 45), .ref (a 46), .ref (a 47), .ref (a 48), .ref (a 49), .ref (a 50), .ref (a 51)]))]) [4] rfl
  have hKc := hK.sub (tys' := []) [] rfl
  refine va_calli (va_runV (As := [.int x]) (rest := []) ⟨hx, hb, hml, hown, htg⟩ (c_X4_hasClerk l D (a 4) [.ref (a 43), .ref (a 44), .ref (a 45), .ref (a 46), .ref (a 47), .ref (a 48), .ref (a 49), .ref (a 50), .ref (a 51)] x) (cV 1 htg mw_19 kv_X4_hasClerk rfl rfl ⟨(Nat.le_of_ble_eq_true rfl), (Nat.le_of_ble_eq_true rfl)⟩) ⟨bl_r, va_recv hKc hPc (ci := 4) (q0 := 0) rfl rfl, us_r hPc hKc⟩ rfl rfl hl.1 rfl (lv_room (Nat.le_of_ble_eq_true rfl)) dX10_worth_5 ⟨(Nat.le_of_ble_eq_true rfl), (Nat.le_of_ble_eq_true rfl)⟩) hS (fun _ _ h9 => False.elim h9) (fun _ h9 => False.elim h9) (fun r_1 u t H locs ht hvm hw hB hz1 hk1 hS => ?_)
  have hP := ro_keep hP hk1
  subst hw
  refine lv_if_eq (tgt := 32) hx hb dX10_worth_8 (by decide) (fun _ => ?_) (fun h9 => False.elim (h9 (by decide)))
  refine lv_iconst (v := 0) hx hb dX10_worth_32 (by decide) ?_
  exact W.zret (v := 0) hx hb hr (by first | rfl | decide | exact ar_nb _) (fun t ht hW => ⟨⟨0, (), rfl, rfl, trivial⟩, hS.F ht⟩) hS.2.2 dX10_worth_33

set_option maxHeartbeats 4000000 in
set_option maxRecDepth 100000 in
theorem c_X10_seated (l : Launch) (D : va_G) (a : Nat → Nat) (cA : Nat → ClassId) (f : Nat → Nat → Int32) (x : Int32) : Met l yX10_seated (.code yX10_seated cX10_seated 4 (some .int) :: gw) ({ frames := 1, cells := 0, slots := 0, locals := 40 }) (va_Pc [.ref (a 0), .int x] (pr D [((a 0), .inr (10, [.ref (a 1), .ref (a 3), .ref (a 40), .int 0, .int (-1), .ref (a 4), .ref (a 5), .ref (a 6), .ref (a 7), .ref (a 8), .ref (a 9), .ref (a 10), .null, .null, .int 0, .int (-1), .ref (a 41)])), ((a 1), .inr (6, [.ref (a 2), .int 0, .int 0])), ((a 2), .inl ((cA 2), 160, .inl (f 2))), ((a 3), .inr (3, [.ref (a 1), .ref (a 42), .int 0, .int 0])), ((a 4), .inr (4, [.int 0, .int 0, .ref (a 43), .ref (a 44), .ref (a 45), .ref (a 46), .ref (a 47), .ref (a 48), .ref (a 49), .ref (a 50), .ref (a 51)])), ((a 5), .inr (4, [.int 0, .int 0, .ref (a 11), .ref (a 12), .ref (a 13), .ref (a 14), .ref (a 15), .ref (a 16), .ref (a 17), .ref (a 18), .ref (a 19)])), ((a 6), .inr (5, [.ref (a 52), .int 0, .ref (a 53), .int 0, .int 0, .int 0])), ((a 7), .inr (5, [.ref (a 54), .int 0, .ref (a 55), .int 0, .int 0, .int 0])), ((a 8), .inr (1, [.ref (a 56), .int 0, .int 0, .ref (a 57), .int 0, .ref (a 58)])), ((a 9), .inr (7, [.ref (a 59), .ref (a 60), .ref (a 61)])), ((a 11), .inl ((cA 11), 12, .inl (f 11))), ((a 12), .inl ((cA 12), 12, .inl (f 12))), ((a 13), .inl ((cA 13), 144, .inl (f 13))), ((a 14), .inl ((cA 14), 12, .inl (f 14))), ((a 15), .inl ((cA 15), 12, .inl (f 15))), ((a 16), .inl ((cA 16), 12, .inl (f 16))), ((a 17), .inl ((cA 17), 12, .inl (f 17))), ((a 18), .inl ((cA 18), 12, .inl (f 18))), ((a 19), .inl ((cA 19), 144, .inl (f 19)))] [((cA 2), .int), ((cA 11), .int), ((cA 12), .int), ((cA 13), .int), ((cA 14), .int), ((cA 15), .int), ((cA 16), .int), ((cA 17), .int), ((cA 18), .int), ((cA 19), .int)])) (va_Qi (fun r (_ : Unit) => r = (-1)) (fun _ _ => True) (fun _ => False)) 0 0 (fun _ => False) := by
  refine Met.ofW (cc := cX10_seated) (maxL := 4) (ret := (some .int)) (by decide) rfl ?_
  intro p e s m args below meth c s₁ B hml hv
  obtain ⟨rfl, hP, hK⟩ := hv
  have hx := B.exec
  have hb := B.bytes
  have hr := B.returns
  have hts := atoms_spec (ws := .code yX10_seated cX10_seated 4 (some .int) :: gw) B.pre
  have htg := gw_tl hts
  have hown : s.vm.findClass RX10 = some m.cls := findClass_of_methodNamed B.named
  have hlocks := B.notSynchronized
  have hS : va_S (fun _ => False) s.heap s.heap [] := va_S.rf
  have hl := lv_entry ([.ref (a 0), .int x]) (n := 4) (Nat.le_of_ble_eq_true rfl)
  rw [lg_entry_eq]
  generalize (lg_sl ([.ref (a 0), .int x]) ++ List.replicate (4 - (lg_sl ([.ref (a 0), .int x])).length) Slot.unset).toArray = ls at hl ⊢
  have hl : lv_has ls 4 [(0, .ref (a 0)), (1, .int x)] := hl
  refine lv_iload_n hx hb dX10_seated_0 rfl (lv_at hl 1 rfl) ?_
  refine lv_iconst (v := (-1)) hx hb dX10_seated_1 (by decide) ?_
  refine lv_icmp_ne (tgt := 59) hx hb dX10_seated_2 (by decide) (fun h_1 => ?_) (fun h_1 => ?_)
  · refine lv_aload_n hx hb dX10_seated_59 rfl (lv_at hl 0 rfl) ?_
    refine va_get (D := D) (ci := 10) (v := .ref (a 4)) (C := RX10) (T := TX10) (N := 17) hx hb htg in_X10 hown hK hP 0 rfl rfl 5 (by decide) (htg _ mw_13) (fun _ h9 => h9) rfl dX10_seated_60 ?_
    refine lv_iload_n hx hb dX10_seated_63 rfl (lv_at hl 1 rfl) ?_
    have hPc := hP.sub (ws' := [((a 4), .inr (4, [.int 0, .int 0, .ref (a 43), .ref (a 44), .ref (a 45), .ref (a 46), .ref (a 47), .ref (a 48), .ref (a 49), .ref (a 50), .ref (a 51)]))]) [4] rfl
    have hKc := hK.sub (tys' := []) [] rfl
    refine va_calli (va_runV (As := [.int x]) (rest := []) ⟨hx, hb, hml, hown, htg⟩ (c_X4_hasClerk l D (a 4) [.ref (a 43), .ref (a 44), .ref (a 45), .ref (a 46), .ref (a 47), .ref (a 48), .ref (a 49), .ref (a 50), .ref (a 51)] x) (cV 1 htg mw_19 kv_X4_hasClerk rfl rfl ⟨(Nat.le_of_ble_eq_true rfl), (Nat.le_of_ble_eq_true rfl)⟩) ⟨bl_r, va_recv hKc hPc (ci := 4) (q0 := 0) rfl rfl, us_r hPc hKc⟩ rfl rfl hl.1 rfl (lv_room (Nat.le_of_ble_eq_true rfl)) dX10_seated_64 ⟨(Nat.le_of_ble_eq_true rfl), (Nat.le_of_ble_eq_true rfl)⟩) hS (fun _ _ h9 => False.elim h9) (fun _ h9 => False.elim h9) (fun r_2 u t H locs ht hvm hw hB hz1 hk1 hS => ?_)
    have hP := ro_keep hP hk1
    subst hw
    refine lv_if_eq (tgt := 81) hx hb dX10_seated_67 (by decide) (fun _ => ?_) (fun h9 => False.elim (h9 (by decide)))
    refine lv_iconst (v := (-1)) hx hb dX10_seated_81 (by decide) ?_
    exact W.iret (v := (-1)) hx hb hr  (fun t ht hW => ⟨⟨(-1), (), rfl, rfl, trivial⟩, hS.F ht⟩) hS.2.2 dX10_seated_82
  · refine lv_aload_n hx hb dX10_seated_5 rfl (lv_at hl 0 rfl) ?_
    refine va_get (D := D) (ci := 10) (v := .ref (a 4)) (C := RX10) (T := TX10) (N := 17) hx hb htg in_X10 hown hK hP 0 rfl rfl 5 (by decide) (htg _ mw_13) (fun _ h9 => h9) rfl dX10_seated_6 ?_
    refine va_get (D := D) (ci := 4) (v := .int 0) (C := RX4) (T := TX4) (N := 11) hx hb htg in_X4 hown hK hP 4 rfl rfl 0 (by decide) (htg _ mw_14) (fun _ h9 => h9) rfl dX10_seated_9 ?_
    refine lv_if_le (tgt := 59) hx hb dX10_seated_12 (by decide) (fun _ => ?_) (fun h9 => False.elim (h9 (by decide)))
    refine lv_aload_n hx hb dX10_seated_59 rfl (lv_at hl 0 rfl) ?_
    refine va_get (D := D) (ci := 10) (v := .ref (a 4)) (C := RX10) (T := TX10) (N := 17) hx hb htg in_X10 hown hK hP 0 rfl rfl 5 (by decide) (htg _ mw_13) (fun _ h9 => h9) rfl dX10_seated_60 ?_
    refine lv_iload_n hx hb dX10_seated_63 rfl (lv_at hl 1 rfl) ?_
    have hPc := hP.sub (ws' := [((a 4), .inr (4, [.int 0, .int 0, .ref (a 43), .ref (a 44), .ref (a 45), .ref (a 46), .ref (a 47), .ref (a 48), .ref (a 49), .ref (a 50), .ref (a 51)]))]) [4] rfl
    have hKc := hK.sub (tys' := []) [] rfl
    refine va_calli (va_runV (As := [.int x]) (rest := []) ⟨hx, hb, hml, hown, htg⟩ (c_X4_hasClerk l D (a 4) [.ref (a 43), .ref (a 44), .ref (a 45), .ref (a 46), .ref (a 47), .ref (a 48), .ref (a 49), .ref (a 50), .ref (a 51)] x) (cV 1 htg mw_19 kv_X4_hasClerk rfl rfl ⟨(Nat.le_of_ble_eq_true rfl), (Nat.le_of_ble_eq_true rfl)⟩) ⟨bl_r, va_recv hKc hPc (ci := 4) (q0 := 0) rfl rfl, us_r hPc hKc⟩ rfl rfl hl.1 rfl (lv_room (Nat.le_of_ble_eq_true rfl)) dX10_seated_64 ⟨(Nat.le_of_ble_eq_true rfl), (Nat.le_of_ble_eq_true rfl)⟩) hS (fun _ _ h9 => False.elim h9) (fun _ h9 => False.elim h9) (fun r_3 u t H locs ht hvm hw hB hz1 hk1 hS => ?_)
    have hP := ro_keep hP hk1
    subst hw
    refine lv_if_eq (tgt := 81) hx hb dX10_seated_67 (by decide) (fun _ => ?_) (fun h9 => False.elim (h9 (by decide)))
    refine lv_iconst (v := (-1)) hx hb dX10_seated_81 (by decide) ?_
    exact W.iret (v := (-1)) hx hb hr  (fun t ht hW => ⟨⟨(-1), (), rfl, rfl, trivial⟩, hS.F ht⟩) hS.2.2 dX10_seated_82

set_option maxHeartbeats 4000000 in
set_option maxRecDepth 100000 in
theorem c_X10_best (l : Launch) (D : va_G) (a : Nat → Nat) (cA : Nat → ClassId) (f : Nat → Nat → Int32) (x : Int32) : Met l yX10_best (.code yX10_best cX10_best 2 (some .int) :: gw) ({ frames := 1, cells := 0, slots := 0, locals := 40 }) (va_Pc [.ref (a 0), .int x] (pr D [((a 0), .inr (10, [.ref (a 1), .ref (a 3), .ref (a 40), .int 0, .int (-1), .ref (a 4), .ref (a 5), .ref (a 6), .ref (a 7), .ref (a 8), .ref (a 9), .ref (a 10), .null, .null, .int 0, .int (-1), .ref (a 41)])), ((a 1), .inr (6, [.ref (a 2), .int 0, .int 0])), ((a 2), .inl ((cA 2), 160, .inl (f 2))), ((a 3), .inr (3, [.ref (a 1), .ref (a 42), .int 0, .int 0])), ((a 4), .inr (4, [.int 0, .int 0, .ref (a 43), .ref (a 44), .ref (a 45), .ref (a 46), .ref (a 47), .ref (a 48), .ref (a 49), .ref (a 50), .ref (a 51)])), ((a 5), .inr (4, [.int 0, .int 0, .ref (a 11), .ref (a 12), .ref (a 13), .ref (a 14), .ref (a 15), .ref (a 16), .ref (a 17), .ref (a 18), .ref (a 19)])), ((a 6), .inr (5, [.ref (a 52), .int 0, .ref (a 53), .int 0, .int 0, .int 0])), ((a 7), .inr (5, [.ref (a 54), .int 0, .ref (a 55), .int 0, .int 0, .int 0])), ((a 8), .inr (1, [.ref (a 56), .int 0, .int 0, .ref (a 57), .int 0, .ref (a 58)])), ((a 9), .inr (7, [.ref (a 59), .ref (a 60), .ref (a 61)])), ((a 11), .inl ((cA 11), 12, .inl (f 11))), ((a 12), .inl ((cA 12), 12, .inl (f 12))), ((a 13), .inl ((cA 13), 144, .inl (f 13))), ((a 14), .inl ((cA 14), 12, .inl (f 14))), ((a 15), .inl ((cA 15), 12, .inl (f 15))), ((a 16), .inl ((cA 16), 12, .inl (f 16))), ((a 17), .inl ((cA 17), 12, .inl (f 17))), ((a 18), .inl ((cA 18), 12, .inl (f 18))), ((a 19), .inl ((cA 19), 144, .inl (f 19)))] [((cA 2), .int), ((cA 11), .int), ((cA 12), .int), ((cA 13), .int), ((cA 14), .int), ((cA 15), .int), ((cA 16), .int), ((cA 17), .int), ((cA 18), .int), ((cA 19), .int)])) (va_Qi (fun r (_ : Unit) => r = (-1)) (fun _ _ => True) (fun _ => False)) 0 0 (fun _ => False) := by
  refine Met.ofW (cc := cX10_best) (maxL := 2) (ret := (some .int)) (by decide) rfl ?_
  intro p e s m args below meth c s₁ B hml hv
  obtain ⟨rfl, hP, hK⟩ := hv
  have hx := B.exec
  have hb := B.bytes
  have hr := B.returns
  have hts := atoms_spec (ws := .code yX10_best cX10_best 2 (some .int) :: gw) B.pre
  have htg := gw_tl hts
  have hown : s.vm.findClass RX10 = some m.cls := findClass_of_methodNamed B.named
  have hlocks := B.notSynchronized
  have hS : va_S (fun _ => False) s.heap s.heap [] := va_S.rf
  have hl := lv_entry ([.ref (a 0), .int x]) (n := 2) (Nat.le_of_ble_eq_true rfl)
  rw [lg_entry_eq]
  generalize (lg_sl ([.ref (a 0), .int x]) ++ List.replicate (2 - (lg_sl ([.ref (a 0), .int x])).length) Slot.unset).toArray = ls at hl ⊢
  have hl : lv_has ls 2 [(0, .ref (a 0)), (1, .int x)] := hl
  refine lv_iload_n hx hb dX10_best_0 rfl (lv_at hl 1 rfl) ?_
  refine lv_iconst (v := (-1)) hx hb dX10_best_1 (by decide) ?_
  refine lv_icmp_ne (tgt := 27) hx hb dX10_best_2 (by decide) (fun h_1 => ?_) (fun h_1 => ?_)
  · refine lv_aload_n hx hb dX10_best_27 rfl (lv_at hl 0 rfl) ?_
    refine va_get (D := D) (ci := 10) (v := .ref (a 4)) (C := RX10) (T := TX10) (N := 17) hx hb htg in_X10 hown hK hP 0 rfl rfl 5 (by decide) (htg _ mw_13) (fun _ h9 => h9) rfl dX10_best_28 ?_
    refine lv_iload_n hx hb dX10_best_31 rfl (lv_at hl 1 rfl) ?_
    have hPc := hP.sub (ws' := [((a 4), .inr (4, [.int 0, .int 0, .ref (a 43), .ref (a 44), .ref (a 45), .ref (a 46), .ref (a 47), .ref (a 48), .ref (a 49), .ref (a 50), .ref (a 51)]))]) [4] rfl
    have hKc := hK.sub (tys' := []) [] rfl
    refine va_calli (va_runV (As := [.int x]) (rest := []) ⟨hx, hb, hml, hown, htg⟩ (c_X4_hasClerk l D (a 4) [.ref (a 43), .ref (a 44), .ref (a 45), .ref (a 46), .ref (a 47), .ref (a 48), .ref (a 49), .ref (a 50), .ref (a 51)] x) (cV 1 htg mw_19 kv_X4_hasClerk rfl rfl ⟨(Nat.le_of_ble_eq_true rfl), (Nat.le_of_ble_eq_true rfl)⟩) ⟨bl_r, va_recv hKc hPc (ci := 4) (q0 := 0) rfl rfl, us_r hPc hKc⟩ rfl rfl hl.1 rfl (lv_room (Nat.le_of_ble_eq_true rfl)) dX10_best_32 ⟨(Nat.le_of_ble_eq_true rfl), (Nat.le_of_ble_eq_true rfl)⟩) hS (fun _ _ h9 => False.elim h9) (fun _ h9 => False.elim h9) (fun r_2 u t H locs ht hvm hw hB hz1 hk1 hS => ?_)
    have hP := ro_keep hP hk1
    subst hw
    refine lv_if_eq (tgt := 53) hx hb dX10_best_35 (by decide) (fun _ => ?_) (fun h9 => False.elim (h9 (by decide)))
    refine lv_iconst (v := (-1)) hx hb dX10_best_53 (by decide) ?_
    exact W.iret (v := (-1)) hx hb hr  (fun t ht hW => ⟨⟨(-1), (), rfl, rfl, trivial⟩, hS.F ht⟩) hS.2.2 dX10_best_54
  · refine lv_aload_n hx hb dX10_best_5 rfl (lv_at hl 0 rfl) ?_
    refine va_get (D := D) (ci := 10) (v := .ref (a 4)) (C := RX10) (T := TX10) (N := 17) hx hb htg in_X10 hown hK hP 0 rfl rfl 5 (by decide) (htg _ mw_13) (fun _ h9 => h9) rfl dX10_best_6 ?_
    refine va_get (D := D) (ci := 4) (v := .int 0) (C := RX4) (T := TX4) (N := 11) hx hb htg in_X4 hown hK hP 4 rfl rfl 0 (by decide) (htg _ mw_14) (fun _ h9 => h9) rfl dX10_best_9 ?_
    refine lv_if_le (tgt := 27) hx hb dX10_best_12 (by decide) (fun _ => ?_) (fun h9 => False.elim (h9 (by decide)))
    refine lv_aload_n hx hb dX10_best_27 rfl (lv_at hl 0 rfl) ?_
    refine va_get (D := D) (ci := 10) (v := .ref (a 4)) (C := RX10) (T := TX10) (N := 17) hx hb htg in_X10 hown hK hP 0 rfl rfl 5 (by decide) (htg _ mw_13) (fun _ h9 => h9) rfl dX10_best_28 ?_
    refine lv_iload_n hx hb dX10_best_31 rfl (lv_at hl 1 rfl) ?_
    have hPc := hP.sub (ws' := [((a 4), .inr (4, [.int 0, .int 0, .ref (a 43), .ref (a 44), .ref (a 45), .ref (a 46), .ref (a 47), .ref (a 48), .ref (a 49), .ref (a 50), .ref (a 51)]))]) [4] rfl
    have hKc := hK.sub (tys' := []) [] rfl
    refine va_calli (va_runV (As := [.int x]) (rest := []) ⟨hx, hb, hml, hown, htg⟩ (c_X4_hasClerk l D (a 4) [.ref (a 43), .ref (a 44), .ref (a 45), .ref (a 46), .ref (a 47), .ref (a 48), .ref (a 49), .ref (a 50), .ref (a 51)] x) (cV 1 htg mw_19 kv_X4_hasClerk rfl rfl ⟨(Nat.le_of_ble_eq_true rfl), (Nat.le_of_ble_eq_true rfl)⟩) ⟨bl_r, va_recv hKc hPc (ci := 4) (q0 := 0) rfl rfl, us_r hPc hKc⟩ rfl rfl hl.1 rfl (lv_room (Nat.le_of_ble_eq_true rfl)) dX10_best_32 ⟨(Nat.le_of_ble_eq_true rfl), (Nat.le_of_ble_eq_true rfl)⟩) hS (fun _ _ h9 => False.elim h9) (fun _ h9 => False.elim h9) (fun r_3 u t H locs ht hvm hw hB hz1 hk1 hS => ?_)
    have hP := ro_keep hP hk1
    subst hw
    refine lv_if_eq (tgt := 53) hx hb dX10_best_35 (by decide) (fun _ => ?_) (fun h9 => False.elim (h9 (by decide)))
    refine lv_iconst (v := (-1)) hx hb dX10_best_53 (by decide) ?_
    exact W.iret (v := (-1)) hx hb hr  (fun t ht hW => ⟨⟨(-1), (), rfl, rfl, trivial⟩, hS.F ht⟩) hS.2.2 dX10_best_54

set_option maxHeartbeats 4000000 in
set_option maxRecDepth 100000 in
theorem c_X10_gains (l : Launch) (D : va_G) (a : Nat → Nat) (cA : Nat → ClassId) (f : Nat → Nat → Int32) (x y : Int32) : Met l yX10_gains (.code yX10_gains cX10_gains 3 (some .int) :: gw) ({ frames := 1, cells := 0, slots := 0, locals := 40 }) (va_Pc [.ref (a 0), .int x, .int y] (pr D [((a 0), .inr (10, [.ref (a 1), .ref (a 3), .ref (a 40), .int 0, .int (-1), .ref (a 4), .ref (a 5), .ref (a 6), .ref (a 7), .ref (a 8), .ref (a 9), .ref (a 10), .null, .null, .int 0, .int (-1), .ref (a 41)])), ((a 1), .inr (6, [.ref (a 2), .int 0, .int 0])), ((a 2), .inl ((cA 2), 160, .inl (f 2))), ((a 3), .inr (3, [.ref (a 1), .ref (a 42), .int 0, .int 0])), ((a 4), .inr (4, [.int 0, .int 0, .ref (a 43), .ref (a 44), .ref (a 45), .ref (a 46), .ref (a 47), .ref (a 48), .ref (a 49), .ref (a 50), .ref (a 51)])), ((a 5), .inr (4, [.int 0, .int 0, .ref (a 11), .ref (a 12), .ref (a 13), .ref (a 14), .ref (a 15), .ref (a 16), .ref (a 17), .ref (a 18), .ref (a 19)])), ((a 6), .inr (5, [.ref (a 52), .int 0, .ref (a 53), .int 0, .int 0, .int 0])), ((a 7), .inr (5, [.ref (a 54), .int 0, .ref (a 55), .int 0, .int 0, .int 0])), ((a 8), .inr (1, [.ref (a 56), .int 0, .int 0, .ref (a 57), .int 0, .ref (a 58)])), ((a 9), .inr (7, [.ref (a 59), .ref (a 60), .ref (a 61)])), ((a 11), .inl ((cA 11), 12, .inl (f 11))), ((a 12), .inl ((cA 12), 12, .inl (f 12))), ((a 13), .inl ((cA 13), 144, .inl (f 13))), ((a 14), .inl ((cA 14), 12, .inl (f 14))), ((a 15), .inl ((cA 15), 12, .inl (f 15))), ((a 16), .inl ((cA 16), 12, .inl (f 16))), ((a 17), .inl ((cA 17), 12, .inl (f 17))), ((a 18), .inl ((cA 18), 12, .inl (f 18))), ((a 19), .inl ((cA 19), 144, .inl (f 19)))] [((cA 2), .int), ((cA 11), .int), ((cA 12), .int), ((cA 13), .int), ((cA 14), .int), ((cA 15), .int), ((cA 16), .int), ((cA 17), .int), ((cA 18), .int), ((cA 19), .int)])) (va_Qi (fun r (_ : Unit) => r = (-1)) (fun _ _ => True) (fun _ => False)) 0 0 (fun _ => False) := by
  refine Met.ofW (cc := cX10_gains) (maxL := 3) (ret := (some .int)) (by decide) rfl ?_
  intro p e s m args below meth c s₁ B hml hv
  obtain ⟨rfl, hP, hK⟩ := hv
  have hx := B.exec
  have hb := B.bytes
  have hr := B.returns
  have hts := atoms_spec (ws := .code yX10_gains cX10_gains 3 (some .int) :: gw) B.pre
  have htg := gw_tl hts
  have hown : s.vm.findClass RX10 = some m.cls := findClass_of_methodNamed B.named
  have hlocks := B.notSynchronized
  have hS : va_S (fun _ => False) s.heap s.heap [] := va_S.rf
  have hl := lv_entry ([.ref (a 0), .int x, .int y]) (n := 3) (Nat.le_of_ble_eq_true rfl)
  rw [lg_entry_eq]
  generalize (lg_sl ([.ref (a 0), .int x, .int y]) ++ List.replicate (3 - (lg_sl ([.ref (a 0), .int x, .int y])).length) Slot.unset).toArray = ls at hl ⊢
  have hl : lv_has ls 3 [(0, .ref (a 0)), (1, .int x), (2, .int y)] := hl
  refine lv_aload_n hx hb dX10_gains_0 rfl (lv_at hl 0 rfl) ?_
  refine va_get (D := D) (ci := 10) (v := .ref (a 4)) (C := RX10) (T := TX10) (N := 17) hx hb htg in_X10 hown hK hP 0 rfl rfl 5 (by decide) (htg _ mw_13) (fun _ h9 => h9) rfl dX10_gains_1 ?_
  refine lv_iload_n hx hb dX10_gains_4 rfl (lv_at hl 1 rfl) ?_
  have hPc := hP.sub (ws' := [((a 4), .inr (4, [.int 0, .int 0, .ref (a 43), .ref (a 44), .ref (a 45), .ref (a 46), .ref (a 47), .ref (a 48), .ref (a 49), .ref (a 50), .ref (a 51)]))]) [4] rfl
  have hKc := hK.sub (tys' := []) [] rfl
  refine va_calli (va_runV (As := [.int x]) (rest := []) ⟨hx, hb, hml, hown, htg⟩ (c_X4_hasClerk l D (a 4) [.ref (a 43), .ref (a 44), .ref (a 45), .ref (a 46), .ref (a 47), .ref (a 48), .ref (a 49), .ref (a 50), .ref (a 51)] x) (cV 1 htg mw_19 kv_X4_hasClerk rfl rfl ⟨(Nat.le_of_ble_eq_true rfl), (Nat.le_of_ble_eq_true rfl)⟩) ⟨bl_r, va_recv hKc hPc (ci := 4) (q0 := 0) rfl rfl, us_r hPc hKc⟩ rfl rfl hl.1 rfl (lv_room (Nat.le_of_ble_eq_true rfl)) dX10_gains_5 ⟨(Nat.le_of_ble_eq_true rfl), (Nat.le_of_ble_eq_true rfl)⟩) hS (fun _ _ h9 => False.elim h9) (fun _ h9 => False.elim h9) (fun r_1 u t H locs ht hvm hw hB hz1 hk1 hS => ?_)
  have hP := ro_keep hP hk1
  subst hw
  refine lv_if_eq (tgt := 20) hx hb dX10_gains_8 (by decide) (fun _ => ?_) (fun h9 => False.elim (h9 (by decide)))
  refine lv_iconst (v := (-1)) hx hb dX10_gains_20 (by decide) ?_
  exact W.iret (v := (-1)) hx hb hr  (fun t ht hW => ⟨⟨(-1), (), rfl, rfl, trivial⟩, hS.F ht⟩) hS.2.2 dX10_gains_21

set_option maxHeartbeats 4000000 in
set_option maxRecDepth 100000 in
theorem c_X10_exchange (l : Launch) (D : va_G) (a : Nat → Nat) (cA : Nat → ClassId) (f : Nat → Nat → Int32) (x : Int32) : Met l yX10_exchange (.code yX10_exchange cX10_exchange 2 (some .int) :: gw) ({ frames := 1, cells := 0, slots := 0, locals := 40 }) (va_Pc [.ref (a 0), .int x] (pr D [((a 0), .inr (10, [.ref (a 1), .ref (a 3), .ref (a 40), .int 0, .int (-1), .ref (a 4), .ref (a 5), .ref (a 6), .ref (a 7), .ref (a 8), .ref (a 9), .ref (a 10), .null, .null, .int 0, .int (-1), .ref (a 41)])), ((a 1), .inr (6, [.ref (a 2), .int 0, .int 0])), ((a 2), .inl ((cA 2), 160, .inl (f 2))), ((a 3), .inr (3, [.ref (a 1), .ref (a 42), .int 0, .int 0])), ((a 4), .inr (4, [.int 0, .int 0, .ref (a 43), .ref (a 44), .ref (a 45), .ref (a 46), .ref (a 47), .ref (a 48), .ref (a 49), .ref (a 50), .ref (a 51)])), ((a 5), .inr (4, [.int 0, .int 0, .ref (a 11), .ref (a 12), .ref (a 13), .ref (a 14), .ref (a 15), .ref (a 16), .ref (a 17), .ref (a 18), .ref (a 19)])), ((a 6), .inr (5, [.ref (a 52), .int 0, .ref (a 53), .int 0, .int 0, .int 0])), ((a 7), .inr (5, [.ref (a 54), .int 0, .ref (a 55), .int 0, .int 0, .int 0])), ((a 8), .inr (1, [.ref (a 56), .int 0, .int 0, .ref (a 57), .int 0, .ref (a 58)])), ((a 9), .inr (7, [.ref (a 59), .ref (a 60), .ref (a 61)])), ((a 11), .inl ((cA 11), 12, .inl (f 11))), ((a 12), .inl ((cA 12), 12, .inl (f 12))), ((a 13), .inl ((cA 13), 144, .inl (f 13))), ((a 14), .inl ((cA 14), 12, .inl (f 14))), ((a 15), .inl ((cA 15), 12, .inl (f 15))), ((a 16), .inl ((cA 16), 12, .inl (f 16))), ((a 17), .inl ((cA 17), 12, .inl (f 17))), ((a 18), .inl ((cA 18), 12, .inl (f 18))), ((a 19), .inl ((cA 19), 144, .inl (f 19)))] [((cA 2), .int), ((cA 11), .int), ((cA 12), .int), ((cA 13), .int), ((cA 14), .int), ((cA 15), .int), ((cA 16), .int), ((cA 17), .int), ((cA 18), .int), ((cA 19), .int)])) (va_Qi (fun r (_ : Unit) => r = (-1)) (fun _ _ => True) (fun _ => False)) 0 0 (fun _ => False) := by
  refine Met.ofW (cc := cX10_exchange) (maxL := 2) (ret := (some .int)) (by decide) rfl ?_
  intro p e s m args below meth c s₁ B hml hv
  obtain ⟨rfl, hP, hK⟩ := hv
  have hx := B.exec
  have hb := B.bytes
  have hr := B.returns
  have hts := atoms_spec (ws := .code yX10_exchange cX10_exchange 2 (some .int) :: gw) B.pre
  have htg := gw_tl hts
  have hown : s.vm.findClass RX10 = some m.cls := findClass_of_methodNamed B.named
  have hlocks := B.notSynchronized
  have hS : va_S (fun _ => False) s.heap s.heap [] := va_S.rf
  have hl := lv_entry ([.ref (a 0), .int x]) (n := 2) (Nat.le_of_ble_eq_true rfl)
  rw [lg_entry_eq]
  generalize (lg_sl ([.ref (a 0), .int x]) ++ List.replicate (2 - (lg_sl ([.ref (a 0), .int x])).length) Slot.unset).toArray = ls at hl ⊢
  have hl : lv_has ls 2 [(0, .ref (a 0)), (1, .int x)] := hl
  refine lv_aload_n hx hb dX10_exchange_0 rfl (lv_at hl 0 rfl) ?_
  refine va_get (D := D) (ci := 10) (v := .ref (a 4)) (C := RX10) (T := TX10) (N := 17) hx hb htg in_X10 hown hK hP 0 rfl rfl 5 (by decide) (htg _ mw_13) (fun _ h9 => h9) rfl dX10_exchange_1 ?_
  refine lv_iload_n hx hb dX10_exchange_4 rfl (lv_at hl 1 rfl) ?_
  have hPc := hP.sub (ws' := [((a 4), .inr (4, [.int 0, .int 0, .ref (a 43), .ref (a 44), .ref (a 45), .ref (a 46), .ref (a 47), .ref (a 48), .ref (a 49), .ref (a 50), .ref (a 51)]))]) [4] rfl
  have hKc := hK.sub (tys' := []) [] rfl
  refine va_calli (va_runV (As := [.int x]) (rest := []) ⟨hx, hb, hml, hown, htg⟩ (c_X4_hasClerk l D (a 4) [.ref (a 43), .ref (a 44), .ref (a 45), .ref (a 46), .ref (a 47), .ref (a 48), .ref (a 49), .ref (a 50), .ref (a 51)] x) (cV 1 htg mw_19 kv_X4_hasClerk rfl rfl ⟨(Nat.le_of_ble_eq_true rfl), (Nat.le_of_ble_eq_true rfl)⟩) ⟨bl_r, va_recv hKc hPc (ci := 4) (q0 := 0) rfl rfl, us_r hPc hKc⟩ rfl rfl hl.1 rfl (lv_room (Nat.le_of_ble_eq_true rfl)) dX10_exchange_5 ⟨(Nat.le_of_ble_eq_true rfl), (Nat.le_of_ble_eq_true rfl)⟩) hS (fun _ _ h9 => False.elim h9) (fun _ h9 => False.elim h9) (fun r_1 u t H locs ht hvm hw hB hz1 hk1 hS => ?_)
  have hP := ro_keep hP hk1
  subst hw
  refine lv_if_ne (tgt := 13) hx hb dX10_exchange_8 (by decide) (fun h9 => False.elim (h9 (by decide))) (fun _ => ?_)
  refine lv_iconst (v := (-1)) hx hb dX10_exchange_11 (by decide) ?_
  exact W.iret (v := (-1)) hx hb hr  (fun t ht hW => ⟨⟨(-1), (), rfl, rfl, trivial⟩, hS.F ht⟩) hS.2.2 dX10_exchange_12

set_option maxHeartbeats 4000000 in
set_option maxRecDepth 100000 in
theorem c_X10_agree (l : Launch) (D : va_G) (a : Nat → Nat) (cA : Nat → ClassId) (f : Nat → Nat → Int32) (x : Int32) : Met l yX10_agree (.code yX10_agree cX10_agree 5 (some .int) :: gw) ({ frames := 0, cells := 0, slots := 0, locals := 0 }) (va_Pc [.ref (a 0), .int x] (pr D [((a 0), .inr (10, [.ref (a 1), .ref (a 3), .ref (a 40), .int 0, .int (-1), .ref (a 4), .ref (a 5), .ref (a 6), .ref (a 7), .ref (a 8), .ref (a 9), .ref (a 10), .null, .null, .int 0, .int (-1), .ref (a 41)])), ((a 1), .inr (6, [.ref (a 2), .int 0, .int 0])), ((a 2), .inl ((cA 2), 160, .inl (f 2))), ((a 3), .inr (3, [.ref (a 1), .ref (a 42), .int 0, .int 0])), ((a 4), .inr (4, [.int 0, .int 0, .ref (a 43), .ref (a 44), .ref (a 45), .ref (a 46), .ref (a 47), .ref (a 48), .ref (a 49), .ref (a 50), .ref (a 51)])), ((a 5), .inr (4, [.int 0, .int 0, .ref (a 11), .ref (a 12), .ref (a 13), .ref (a 14), .ref (a 15), .ref (a 16), .ref (a 17), .ref (a 18), .ref (a 19)])), ((a 6), .inr (5, [.ref (a 52), .int 0, .ref (a 53), .int 0, .int 0, .int 0])), ((a 7), .inr (5, [.ref (a 54), .int 0, .ref (a 55), .int 0, .int 0, .int 0])), ((a 8), .inr (1, [.ref (a 56), .int 0, .int 0, .ref (a 57), .int 0, .ref (a 58)])), ((a 9), .inr (7, [.ref (a 59), .ref (a 60), .ref (a 61)])), ((a 11), .inl ((cA 11), 12, .inl (f 11))), ((a 12), .inl ((cA 12), 12, .inl (f 12))), ((a 13), .inl ((cA 13), 144, .inl (f 13))), ((a 14), .inl ((cA 14), 12, .inl (f 14))), ((a 15), .inl ((cA 15), 12, .inl (f 15))), ((a 16), .inl ((cA 16), 12, .inl (f 16))), ((a 17), .inl ((cA 17), 12, .inl (f 17))), ((a 18), .inl ((cA 18), 12, .inl (f 18))), ((a 19), .inl ((cA 19), 144, .inl (f 19)))] [((cA 2), .int), ((cA 11), .int), ((cA 12), .int), ((cA 13), .int), ((cA 14), .int), ((cA 15), .int), ((cA 16), .int), ((cA 17), .int), ((cA 18), .int), ((cA 19), .int)])) (va_Qi (fun r (_ : Unit) => r = (-1)) (fun _ _ => True) (fun _ => False)) 0 0 (fun _ => False) := by
  refine Met.ofW (cc := cX10_agree) (maxL := 5) (ret := (some .int)) (by decide) rfl ?_
  intro p e s m args below meth c s₁ B hml hv
  obtain ⟨rfl, hP, hK⟩ := hv
  have hx := B.exec
  have hb := B.bytes
  have hr := B.returns
  have hts := atoms_spec (ws := .code yX10_agree cX10_agree 5 (some .int) :: gw) B.pre
  have htg := gw_tl hts
  have hown : s.vm.findClass RX10 = some m.cls := findClass_of_methodNamed B.named
  have hlocks := B.notSynchronized
  have hS : va_S (fun _ => False) s.heap s.heap [] := va_S.rf
  have hl := lv_entry ([.ref (a 0), .int x]) (n := 5) (Nat.le_of_ble_eq_true rfl)
  rw [lg_entry_eq]
  generalize (lg_sl ([.ref (a 0), .int x]) ++ List.replicate (5 - (lg_sl ([.ref (a 0), .int x])).length) Slot.unset).toArray = ls at hl ⊢
  have hl : lv_has ls 5 [(0, .ref (a 0)), (1, .int x)] := hl
  refine lv_aload_n hx hb dX10_agree_0 rfl (lv_at hl 0 rfl) ?_
  refine va_get (D := D) (ci := 10) (v := .ref (a 4)) (C := RX10) (T := TX10) (N := 17) hx hb htg in_X10 hown hK hP 0 rfl rfl 5 (by decide) (htg _ mw_13) (fun _ h9 => h9) rfl dX10_agree_1 ?_
  refine va_get (D := D) (ci := 4) (v := .int 0) (C := RX4) (T := TX4) (N := 11) hx hb htg in_X4 hown hK hP 4 rfl rfl 0 (by decide) (htg _ mw_14) (fun _ h9 => h9) rfl dX10_agree_4 ?_
  refine lv_if_eq (tgt := 15) hx hb dX10_agree_7 (by decide) (fun _ => ?_) (fun h9 => False.elim (h9 (by decide)))
  refine lv_iconst (v := (-1)) hx hb dX10_agree_15 (by decide) ?_
  exact W.iret (v := (-1)) hx hb hr  (fun t ht hW => ⟨⟨(-1), (), rfl, rfl, trivial⟩, hS.F ht⟩) hS.2.2 dX10_agree_16

set_option maxHeartbeats 4000000 in
set_option maxRecDepth 100000 in
theorem c_X10_vote (l : Launch) (D : va_G) (a : Nat → Nat) (cA : Nat → ClassId) (f : Nat → Nat → Int32) (x y : Int32) : Met l yX10_vote (.code yX10_vote cX10_vote 3 (some .int) :: gw) ({ frames := 1, cells := 0, slots := 0, locals := 40 }) (va_Pc [.ref (a 0), .int x, .int y] (pr D [((a 0), .inr (10, [.ref (a 1), .ref (a 3), .ref (a 40), .int 0, .int (-1), .ref (a 4), .ref (a 5), .ref (a 6), .ref (a 7), .ref (a 8), .ref (a 9), .ref (a 10), .null, .null, .int 0, .int (-1), .ref (a 41)])), ((a 1), .inr (6, [.ref (a 2), .int 0, .int 0])), ((a 2), .inl ((cA 2), 160, .inl (f 2))), ((a 3), .inr (3, [.ref (a 1), .ref (a 42), .int 0, .int 0])), ((a 4), .inr (4, [.int 0, .int 0, .ref (a 43), .ref (a 44), .ref (a 45), .ref (a 46), .ref (a 47), .ref (a 48), .ref (a 49), .ref (a 50), .ref (a 51)])), ((a 5), .inr (4, [.int 0, .int 0, .ref (a 11), .ref (a 12), .ref (a 13), .ref (a 14), .ref (a 15), .ref (a 16), .ref (a 17), .ref (a 18), .ref (a 19)])), ((a 6), .inr (5, [.ref (a 52), .int 0, .ref (a 53), .int 0, .int 0, .int 0])), ((a 7), .inr (5, [.ref (a 54), .int 0, .ref (a 55), .int 0, .int 0, .int 0])), ((a 8), .inr (1, [.ref (a 56), .int 0, .int 0, .ref (a 57), .int 0, .ref (a 58)])), ((a 9), .inr (7, [.ref (a 59), .ref (a 60), .ref (a 61)])), ((a 11), .inl ((cA 11), 12, .inl (f 11))), ((a 12), .inl ((cA 12), 12, .inl (f 12))), ((a 13), .inl ((cA 13), 144, .inl (f 13))), ((a 14), .inl ((cA 14), 12, .inl (f 14))), ((a 15), .inl ((cA 15), 12, .inl (f 15))), ((a 16), .inl ((cA 16), 12, .inl (f 16))), ((a 17), .inl ((cA 17), 12, .inl (f 17))), ((a 18), .inl ((cA 18), 12, .inl (f 18))), ((a 19), .inl ((cA 19), 144, .inl (f 19)))] [((cA 2), .int), ((cA 11), .int), ((cA 12), .int), ((cA 13), .int), ((cA 14), .int), ((cA 15), .int), ((cA 16), .int), ((cA 17), .int), ((cA 18), .int), ((cA 19), .int)])) (va_Qi (fun r (_ : Unit) => r = (-1000000)) (fun _ _ => True) (fun _ => False)) 0 0 (fun _ => False) := by
  refine Met.ofW (cc := cX10_vote) (maxL := 3) (ret := (some .int)) (by decide) rfl ?_
  intro p e s m args below meth c s₁ B hml hv
  obtain ⟨rfl, hP, hK⟩ := hv
  have hx := B.exec
  have hb := B.bytes
  have hr := B.returns
  have hts := atoms_spec (ws := .code yX10_vote cX10_vote 3 (some .int) :: gw) B.pre
  have htg := gw_tl hts
  have hown : s.vm.findClass RX10 = some m.cls := findClass_of_methodNamed B.named
  have hlocks := B.notSynchronized
  have hS : va_S (fun _ => False) s.heap s.heap [] := va_S.rf
  have hl := lv_entry ([.ref (a 0), .int x, .int y]) (n := 3) (Nat.le_of_ble_eq_true rfl)
  rw [lg_entry_eq]
  generalize (lg_sl ([.ref (a 0), .int x, .int y]) ++ List.replicate (3 - (lg_sl ([.ref (a 0), .int x, .int y])).length) Slot.unset).toArray = ls at hl ⊢
  have hl : lv_has ls 3 [(0, .ref (a 0)), (1, .int x), (2, .int y)] := hl
  refine lv_aload_n hx hb dX10_vote_0 rfl (lv_at hl 0 rfl) ?_
  refine va_get (D := D) (ci := 10) (v := .ref (a 4)) (C := RX10) (T := TX10) (N := 17) hx hb htg in_X10 hown hK hP 0 rfl rfl 5 (by decide) (htg _ mw_13) (fun _ h9 => h9) rfl dX10_vote_1 ?_
  refine lv_iload_n hx hb dX10_vote_4 rfl (lv_at hl 1 rfl) ?_
  have hPc := hP.sub (ws' := [((a 4), .inr (4, [.int 0, .int 0, .ref (a 43), .ref (a 44), .ref (a 45), .ref (a 46), .ref (a 47), .ref (a 48), .ref (a 49), .ref (a 50), .ref (a 51)]))]) [4] rfl
  have hKc := hK.sub (tys' := []) [] rfl
  refine va_calli (va_runV (As := [.int x]) (rest := []) ⟨hx, hb, hml, hown, htg⟩ (c_X4_hasDesk l D (a 4) [.ref (a 43), .ref (a 44), .ref (a 45), .ref (a 46), .ref (a 47), .ref (a 48), .ref (a 49), .ref (a 50), .ref (a 51)] x) (cV 1 htg mw_40 kv_X4_hasDesk rfl rfl ⟨(Nat.le_of_ble_eq_true rfl), (Nat.le_of_ble_eq_true rfl)⟩) ⟨bl_r, va_recv hKc hPc (ci := 4) (q0 := 0) rfl rfl, us_r hPc hKc⟩ rfl rfl hl.1 rfl (lv_room (Nat.le_of_ble_eq_true rfl)) dX10_vote_5 ⟨(Nat.le_of_ble_eq_true rfl), (Nat.le_of_ble_eq_true rfl)⟩) hS (fun _ _ h9 => False.elim h9) (fun _ h9 => False.elim h9) (fun r_1 u t H locs ht hvm hw hB hz1 hk1 hS => ?_)
  have hP := ro_keep hP hk1
  subst hw
  refine lv_if_eq (tgt := 27) hx hb dX10_vote_8 (by decide) (fun _ => ?_) (fun h9 => False.elim (h9 (by decide)))
  refine lv_ldc (v := (-1000000)) hx hb hown (htg _ mw_39) dX10_vote_27 ?_
  exact W.iret (v := (-1000000)) hx hb hr  (fun t ht hW => ⟨⟨(-1000000), (), rfl, rfl, trivial⟩, hS.F ht⟩) hS.2.2 dX10_vote_29

set_option maxHeartbeats 4000000 in
set_option maxRecDepth 100000 in
theorem c_X10_image (l : Launch) (D : va_G) (a : Nat → Nat) (cA : Nat → ClassId) (f : Nat → Nat → Int32)  : Met l yX10_image (.code yX10_image cX10_image 1 (some .int) :: gw) ({ frames := 0, cells := 0, slots := 0, locals := 0 }) (va_Pc [.ref (a 0)] (pr D [((a 0), .inr (10, [.ref (a 1), .ref (a 3), .ref (a 40), .int 0, .int (-1), .ref (a 4), .ref (a 5), .ref (a 6), .ref (a 7), .ref (a 8), .ref (a 9), .ref (a 10), .null, .null, .int 0, .int (-1), .ref (a 41)])), ((a 1), .inr (6, [.ref (a 2), .int 0, .int 0])), ((a 2), .inl ((cA 2), 160, .inl (f 2))), ((a 3), .inr (3, [.ref (a 1), .ref (a 42), .int 0, .int 0])), ((a 4), .inr (4, [.int 0, .int 0, .ref (a 43), .ref (a 44), .ref (a 45), .ref (a 46), .ref (a 47), .ref (a 48), .ref (a 49), .ref (a 50), .ref (a 51)])), ((a 5), .inr (4, [.int 0, .int 0, .ref (a 11), .ref (a 12), .ref (a 13), .ref (a 14), .ref (a 15), .ref (a 16), .ref (a 17), .ref (a 18), .ref (a 19)])), ((a 6), .inr (5, [.ref (a 52), .int 0, .ref (a 53), .int 0, .int 0, .int 0])), ((a 7), .inr (5, [.ref (a 54), .int 0, .ref (a 55), .int 0, .int 0, .int 0])), ((a 8), .inr (1, [.ref (a 56), .int 0, .int 0, .ref (a 57), .int 0, .ref (a 58)])), ((a 9), .inr (7, [.ref (a 59), .ref (a 60), .ref (a 61)])), ((a 11), .inl ((cA 11), 12, .inl (f 11))), ((a 12), .inl ((cA 12), 12, .inl (f 12))), ((a 13), .inl ((cA 13), 144, .inl (f 13))), ((a 14), .inl ((cA 14), 12, .inl (f 14))), ((a 15), .inl ((cA 15), 12, .inl (f 15))), ((a 16), .inl ((cA 16), 12, .inl (f 16))), ((a 17), .inl ((cA 17), 12, .inl (f 17))), ((a 18), .inl ((cA 18), 12, .inl (f 18))), ((a 19), .inl ((cA 19), 144, .inl (f 19)))] [((cA 2), .int), ((cA 11), .int), ((cA 12), .int), ((cA 13), .int), ((cA 14), .int), ((cA 15), .int), ((cA 16), .int), ((cA 17), .int), ((cA 18), .int), ((cA 19), .int)])) (va_Qi (fun r (_ : Unit) => r = (-1)) (fun _ _ => True) (fun _ => False)) 0 0 (fun _ => False) := by
  refine Met.ofW (cc := cX10_image) (maxL := 1) (ret := (some .int)) (by decide) rfl ?_
  intro p e s m args below meth c s₁ B hml hv
  obtain ⟨rfl, hP, hK⟩ := hv
  have hx := B.exec
  have hb := B.bytes
  have hr := B.returns
  have hts := atoms_spec (ws := .code yX10_image cX10_image 1 (some .int) :: gw) B.pre
  have htg := gw_tl hts
  have hown : s.vm.findClass RX10 = some m.cls := findClass_of_methodNamed B.named
  have hlocks := B.notSynchronized
  have hS : va_S (fun _ => False) s.heap s.heap [] := va_S.rf
  have hl := lv_entry ([.ref (a 0)]) (n := 1) (Nat.le_of_ble_eq_true rfl)
  rw [lg_entry_eq]
  generalize (lg_sl ([.ref (a 0)]) ++ List.replicate (1 - (lg_sl ([.ref (a 0)])).length) Slot.unset).toArray = ls at hl ⊢
  have hl : lv_has ls 1 [(0, .ref (a 0))] := hl
  refine lv_aload_n hx hb dX10_image_0 rfl (lv_at hl 0 rfl) ?_
  refine va_get (D := D) (ci := 10) (v := .ref (a 4)) (C := RX10) (T := TX10) (N := 17) hx hb htg in_X10 hown hK hP 0 rfl rfl 5 (by decide) (htg _ mw_13) (fun _ h9 => h9) rfl dX10_image_1 ?_
  refine va_get (D := D) (ci := 4) (v := .int 0) (C := RX4) (T := TX4) (N := 11) hx hb htg in_X4 hown hK hP 4 rfl rfl 0 (by decide) (htg _ mw_14) (fun _ h9 => h9) rfl dX10_image_4 ?_
  refine lv_if_ne (tgt := 12) hx hb dX10_image_7 (by decide) (fun h9 => False.elim (h9 (by decide))) (fun _ => ?_)
  refine lv_iconst (v := (-1)) hx hb dX10_image_10 (by decide) ?_
  exact W.iret (v := (-1)) hx hb hr  (fun t ht hW => ⟨⟨(-1), (), rfl, rfl, trivial⟩, hS.F ht⟩) hS.2.2 dX10_image_11

set_option maxHeartbeats 4000000 in
set_option maxRecDepth 100000 in
theorem c_X10_back (l : Launch) (D : va_G) (a : Nat → Nat) (cA : Nat → ClassId) (f : Nat → Nat → Int32)  : Met l yX10_back (.code yX10_back cX10_back 1 (some .int) :: gw) ({ frames := 0, cells := 0, slots := 0, locals := 0 }) (va_Pc [.ref (a 0)] (pr D [((a 0), .inr (10, [.ref (a 1), .ref (a 3), .ref (a 40), .int 0, .int (-1), .ref (a 4), .ref (a 5), .ref (a 6), .ref (a 7), .ref (a 8), .ref (a 9), .ref (a 10), .null, .null, .int 0, .int (-1), .ref (a 41)])), ((a 1), .inr (6, [.ref (a 2), .int 0, .int 0])), ((a 2), .inl ((cA 2), 160, .inl (f 2))), ((a 3), .inr (3, [.ref (a 1), .ref (a 42), .int 0, .int 0])), ((a 4), .inr (4, [.int 0, .int 0, .ref (a 43), .ref (a 44), .ref (a 45), .ref (a 46), .ref (a 47), .ref (a 48), .ref (a 49), .ref (a 50), .ref (a 51)])), ((a 5), .inr (4, [.int 0, .int 0, .ref (a 11), .ref (a 12), .ref (a 13), .ref (a 14), .ref (a 15), .ref (a 16), .ref (a 17), .ref (a 18), .ref (a 19)])), ((a 6), .inr (5, [.ref (a 52), .int 0, .ref (a 53), .int 0, .int 0, .int 0])), ((a 7), .inr (5, [.ref (a 54), .int 0, .ref (a 55), .int 0, .int 0, .int 0])), ((a 8), .inr (1, [.ref (a 56), .int 0, .int 0, .ref (a 57), .int 0, .ref (a 58)])), ((a 9), .inr (7, [.ref (a 59), .ref (a 60), .ref (a 61)])), ((a 11), .inl ((cA 11), 12, .inl (f 11))), ((a 12), .inl ((cA 12), 12, .inl (f 12))), ((a 13), .inl ((cA 13), 144, .inl (f 13))), ((a 14), .inl ((cA 14), 12, .inl (f 14))), ((a 15), .inl ((cA 15), 12, .inl (f 15))), ((a 16), .inl ((cA 16), 12, .inl (f 16))), ((a 17), .inl ((cA 17), 12, .inl (f 17))), ((a 18), .inl ((cA 18), 12, .inl (f 18))), ((a 19), .inl ((cA 19), 144, .inl (f 19)))] [((cA 2), .int), ((cA 11), .int), ((cA 12), .int), ((cA 13), .int), ((cA 14), .int), ((cA 15), .int), ((cA 16), .int), ((cA 17), .int), ((cA 18), .int), ((cA 19), .int)])) (va_Qi (fun r (_ : Unit) => r = (-1)) (fun _ _ => True) (fun _ => False)) 0 0 (fun _ => False) := by
  refine Met.ofW (cc := cX10_back) (maxL := 1) (ret := (some .int)) (by decide) rfl ?_
  intro p e s m args below meth c s₁ B hml hv
  obtain ⟨rfl, hP, hK⟩ := hv
  have hx := B.exec
  have hb := B.bytes
  have hr := B.returns
  have hts := atoms_spec (ws := .code yX10_back cX10_back 1 (some .int) :: gw) B.pre
  have htg := gw_tl hts
  have hown : s.vm.findClass RX10 = some m.cls := findClass_of_methodNamed B.named
  have hlocks := B.notSynchronized
  have hS : va_S (fun _ => False) s.heap s.heap [] := va_S.rf
  have hl := lv_entry ([.ref (a 0)]) (n := 1) (Nat.le_of_ble_eq_true rfl)
  rw [lg_entry_eq]
  generalize (lg_sl ([.ref (a 0)]) ++ List.replicate (1 - (lg_sl ([.ref (a 0)])).length) Slot.unset).toArray = ls at hl ⊢
  have hl : lv_has ls 1 [(0, .ref (a 0))] := hl
  refine lv_aload_n hx hb dX10_back_0 rfl (lv_at hl 0 rfl) ?_
  refine va_get (D := D) (ci := 10) (v := .ref (a 8)) (C := RX10) (T := TX10) (N := 17) hx hb htg in_X10 hown hK hP 0 rfl rfl 9 (by decide) (htg _ mw_30) (fun _ h9 => h9) rfl dX10_back_1 ?_
  refine va_get (D := D) (ci := 1) (v := .int 0) (C := RX1) (T := TX1) (N := 6) hx hb htg in_X1 hown hK hP 8 rfl rfl 2 (by decide) (htg _ mw_51) (fun _ h9 => h9) rfl dX10_back_4 ?_
  refine lv_if_ne (tgt := 12) hx hb dX10_back_7 (by decide) (fun h9 => False.elim (h9 (by decide))) (fun _ => ?_)
  refine lv_iconst (v := (-1)) hx hb dX10_back_10 (by decide) ?_
  exact W.iret (v := (-1)) hx hb hr  (fun t ht hW => ⟨⟨(-1), (), rfl, rfl, trivial⟩, hS.F ht⟩) hS.2.2 dX10_back_11

set_option maxHeartbeats 4000000 in
set_option maxRecDepth 100000 in
theorem c_X10_told (l : Launch) (D : va_G) (a : Nat → Nat) (cA : Nat → ClassId) (f : Nat → Nat → Int32) (x : Int32) : Met l yX10_told (.code yX10_told cX10_told 2 (some .int) :: gw) ({ frames := 0, cells := 0, slots := 0, locals := 0 }) (va_Pc [.ref (a 0), .int x] (pr D [((a 0), .inr (10, [.ref (a 1), .ref (a 3), .ref (a 40), .int 0, .int (-1), .ref (a 4), .ref (a 5), .ref (a 6), .ref (a 7), .ref (a 8), .ref (a 9), .ref (a 10), .null, .null, .int 0, .int (-1), .ref (a 41)])), ((a 1), .inr (6, [.ref (a 2), .int 0, .int 0])), ((a 2), .inl ((cA 2), 160, .inl (f 2))), ((a 3), .inr (3, [.ref (a 1), .ref (a 42), .int 0, .int 0])), ((a 4), .inr (4, [.int 0, .int 0, .ref (a 43), .ref (a 44), .ref (a 45), .ref (a 46), .ref (a 47), .ref (a 48), .ref (a 49), .ref (a 50), .ref (a 51)])), ((a 5), .inr (4, [.int 0, .int 0, .ref (a 11), .ref (a 12), .ref (a 13), .ref (a 14), .ref (a 15), .ref (a 16), .ref (a 17), .ref (a 18), .ref (a 19)])), ((a 6), .inr (5, [.ref (a 52), .int 0, .ref (a 53), .int 0, .int 0, .int 0])), ((a 7), .inr (5, [.ref (a 54), .int 0, .ref (a 55), .int 0, .int 0, .int 0])), ((a 8), .inr (1, [.ref (a 56), .int 0, .int 0, .ref (a 57), .int 0, .ref (a 58)])), ((a 9), .inr (7, [.ref (a 59), .ref (a 60), .ref (a 61)])), ((a 11), .inl ((cA 11), 12, .inl (f 11))), ((a 12), .inl ((cA 12), 12, .inl (f 12))), ((a 13), .inl ((cA 13), 144, .inl (f 13))), ((a 14), .inl ((cA 14), 12, .inl (f 14))), ((a 15), .inl ((cA 15), 12, .inl (f 15))), ((a 16), .inl ((cA 16), 12, .inl (f 16))), ((a 17), .inl ((cA 17), 12, .inl (f 17))), ((a 18), .inl ((cA 18), 12, .inl (f 18))), ((a 19), .inl ((cA 19), 144, .inl (f 19)))] [((cA 2), .int), ((cA 11), .int), ((cA 12), .int), ((cA 13), .int), ((cA 14), .int), ((cA 15), .int), ((cA 16), .int), ((cA 17), .int), ((cA 18), .int), ((cA 19), .int)])) (va_Qi (fun r (_ : Unit) => r = sp_told x) (fun _ _ => True) (fun _ => False)) 0 0 (fun _ => False) := by
  refine Met.ofW (cc := cX10_told) (maxL := 2) (ret := (some .int)) (by decide) rfl ?_
  intro p e s m args below meth c s₁ B hml hv
  obtain ⟨rfl, hP, hK⟩ := hv
  have hx := B.exec
  have hb := B.bytes
  have hr := B.returns
  have hts := atoms_spec (ws := .code yX10_told cX10_told 2 (some .int) :: gw) B.pre
  have htg := gw_tl hts
  have hown : s.vm.findClass RX10 = some m.cls := findClass_of_methodNamed B.named
  have hlocks := B.notSynchronized
  have hS : va_S (fun _ => False) s.heap s.heap [] := va_S.rf
  have hl := lv_entry ([.ref (a 0), .int x]) (n := 2) (Nat.le_of_ble_eq_true rfl)
  rw [lg_entry_eq]
  generalize (lg_sl ([.ref (a 0), .int x]) ++ List.replicate (2 - (lg_sl ([.ref (a 0), .int x])).length) Slot.unset).toArray = ls at hl ⊢
  have hl : lv_has ls 2 [(0, .ref (a 0)), (1, .int x)] := hl
  refine lv_iload_n hx hb dX10_told_0 rfl (lv_at hl 1 rfl) ?_
  by_cases h_1 : x = 0
  · subst h_1
    have hl : lv_has ls 2 [(0, .ref (a 0)), (1, .int 0)] := hl
    refine lv_tableIn (off := 43) (tgt := 44) hx hb dX10_told_1 (by decide) (by decide) rfl (by decide) ?_
    refine lv_aload_n hx hb dX10_told_44 rfl (lv_at hl 0 rfl) ?_
    refine va_get (D := D) (ci := 10) (v := .ref (a 4)) (C := RX10) (T := TX10) (N := 17) hx hb htg in_X10 hown hK hP 0 rfl rfl 5 (by decide) (htg _ mw_13) (fun _ h9 => h9) rfl dX10_told_45 ?_
    refine va_get (D := D) (ci := 4) (v := .int 0) (C := RX4) (T := TX4) (N := 11) hx hb htg in_X4 hown hK hP 4 rfl rfl 0 (by decide) (htg _ mw_14) (fun _ h9 => h9) rfl dX10_told_48 ?_
    exact W.iret (v := 0) hx hb hr  (fun t ht hW => ⟨⟨0, (), rfl, (by decide), trivial⟩, hS.F ht⟩) hS.2.2 dX10_told_51
  by_cases h_2 : x = 1
  · subst h_2
    have hl : lv_has ls 2 [(0, .ref (a 0)), (1, .int 1)] := hl
    refine lv_tableIn (off := 51) (tgt := 52) hx hb dX10_told_1 (by decide) (by decide) rfl (by decide) ?_
    refine lv_aload_n hx hb dX10_told_52 rfl (lv_at hl 0 rfl) ?_
    refine va_get (D := D) (ci := 10) (v := .ref (a 4)) (C := RX10) (T := TX10) (N := 17) hx hb htg in_X10 hown hK hP 0 rfl rfl 5 (by decide) (htg _ mw_13) (fun _ h9 => h9) rfl dX10_told_53 ?_
    refine va_get (D := D) (ci := 4) (v := .int 0) (C := RX4) (T := TX4) (N := 11) hx hb htg in_X4 hown hK hP 4 rfl rfl 1 (by decide) (htg _ mw_52) (fun _ h9 => h9) rfl dX10_told_56 ?_
    exact W.iret (v := 0) hx hb hr  (fun t ht hW => ⟨⟨0, (), rfl, (by decide), trivial⟩, hS.F ht⟩) hS.2.2 dX10_told_59
  by_cases h_3 : x = 2
  · subst h_3
    have hl : lv_has ls 2 [(0, .ref (a 0)), (1, .int 2)] := hl
    refine lv_tableIn (off := 59) (tgt := 60) hx hb dX10_told_1 (by decide) (by decide) rfl (by decide) ?_
    refine lv_aload_n hx hb dX10_told_60 rfl (lv_at hl 0 rfl) ?_
    refine va_get (D := D) (ci := 10) (v := .int 0) (C := RX10) (T := TX10) (N := 17) hx hb htg in_X10 hown hK hP 0 rfl rfl 3 (by decide) (htg _ mw_53) (fun _ h9 => h9) rfl dX10_told_61 ?_
    exact W.iret (v := 0) hx hb hr  (fun t ht hW => ⟨⟨0, (), rfl, (by decide), trivial⟩, hS.F ht⟩) hS.2.2 dX10_told_64
  by_cases h_4 : x = 3
  · subst h_4
    have hl : lv_has ls 2 [(0, .ref (a 0)), (1, .int 3)] := hl
    refine lv_tableIn (off := 64) (tgt := 65) hx hb dX10_told_1 (by decide) (by decide) rfl (by decide) ?_
    refine lv_aload_n hx hb dX10_told_65 rfl (lv_at hl 0 rfl) ?_
    refine va_get (D := D) (ci := 10) (v := .ref (a 1)) (C := RX10) (T := TX10) (N := 17) hx hb htg in_X10 hown hK hP 0 rfl rfl 0 (by decide) (htg _ mw_54) (fun _ h9 => h9) rfl dX10_told_66 ?_
    refine va_get (D := D) (ci := 6) (v := .int 0) (C := RX6) (T := TX6) (N := 3) hx hb htg in_X6 hown hK hP 1 rfl rfl 1 (by decide) (htg _ mw_55) (fun _ h9 => h9) rfl dX10_told_69 ?_
    exact W.iret (v := 0) hx hb hr  (fun t ht hW => ⟨⟨0, (), rfl, (by decide), trivial⟩, hS.F ht⟩) hS.2.2 dX10_told_72
  by_cases h_5 : x = 4
  · subst h_5
    have hl : lv_has ls 2 [(0, .ref (a 0)), (1, .int 4)] := hl
    refine lv_tableIn (off := 72) (tgt := 73) hx hb dX10_told_1 (by decide) (by decide) rfl (by decide) ?_
    refine lv_aload_n hx hb dX10_told_73 rfl (lv_at hl 0 rfl) ?_
    refine va_get (D := D) (ci := 10) (v := .ref (a 6)) (C := RX10) (T := TX10) (N := 17) hx hb htg in_X10 hown hK hP 0 rfl rfl 7 (by decide) (htg _ mw_37) (fun _ h9 => h9) rfl dX10_told_74 ?_
    refine va_get (D := D) (ci := 5) (v := .int 0) (C := RX5) (T := TX5) (N := 6) hx hb htg in_X5 hown hK hP 6 rfl rfl 1 (by decide) (htg _ mw_38) (fun _ h9 => h9) rfl dX10_told_77 ?_
    refine lv_if_le (tgt := 93) hx hb dX10_told_80 (by decide) (fun _ => ?_) (fun h9 => False.elim (h9 (by decide)))
    refine lv_iconst (v := (-1)) hx hb dX10_told_93 (by decide) ?_
    exact W.iret (v := (-1)) hx hb hr  (fun t ht hW => ⟨⟨(-1), (), rfl, (by decide), trivial⟩, hS.F ht⟩) hS.2.2 dX10_told_94
  by_cases h_6 : x = 5
  · subst h_6
    have hl : lv_has ls 2 [(0, .ref (a 0)), (1, .int 5)] := hl
    refine lv_tableIn (off := 94) (tgt := 95) hx hb dX10_told_1 (by decide) (by decide) rfl (by decide) ?_
    refine lv_aload_n hx hb dX10_told_95 rfl (lv_at hl 0 rfl) ?_
    refine va_get (D := D) (ci := 10) (v := .ref (a 8)) (C := RX10) (T := TX10) (N := 17) hx hb htg in_X10 hown hK hP 0 rfl rfl 9 (by decide) (htg _ mw_30) (fun _ h9 => h9) rfl dX10_told_96 ?_
    refine va_get (D := D) (ci := 1) (v := .int 0) (C := RX1) (T := TX1) (N := 6) hx hb htg in_X1 hown hK hP 8 rfl rfl 1 (by decide) (htg _ mw_31) (fun _ h9 => h9) rfl dX10_told_99 ?_
    exact W.iret (v := 0) hx hb hr  (fun t ht hW => ⟨⟨0, (), rfl, (by decide), trivial⟩, hS.F ht⟩) hS.2.2 dX10_told_102
  by_cases h_7 : x = 6
  · subst h_7
    have hl : lv_has ls 2 [(0, .ref (a 0)), (1, .int 6)] := hl
    refine lv_tableIn (off := 102) (tgt := 103) hx hb dX10_told_1 (by decide) (by decide) rfl (by decide) ?_
    refine lv_aload_n hx hb dX10_told_103 rfl (lv_at hl 0 rfl) ?_
    refine va_get (D := D) (ci := 10) (v := .int (-1)) (C := RX10) (T := TX10) (N := 17) hx hb htg in_X10 hown hK hP 0 rfl rfl 4 (by decide) (htg _ mw_20) (fun _ h9 => h9) rfl dX10_told_104 ?_
    exact W.iret (v := (-1)) hx hb hr  (fun t ht hW => ⟨⟨(-1), (), rfl, (by decide), trivial⟩, hS.F ht⟩) hS.2.2 dX10_told_107
  refine lv_tableOut (tgt := 108) hx hb dX10_told_1 (by have := lv_neT (a := 0) h_1 (by decide); have := lv_neT (a := 1) h_2 (by decide); have := lv_neT (a := 2) h_3 (by decide); have := lv_neT (a := 3) h_4 (by decide); have := lv_neT (a := 4) h_5 (by decide); have := lv_neT (a := 5) h_6 (by decide); have := lv_neT (a := 6) h_7 (by decide); omega) (by decide) ?_
  refine lv_ldc (v := (-1000000)) hx hb hown (htg _ mw_39) dX10_told_108 ?_
  exact W.iret (v := (-1000000)) hx hb hr  (fun t ht hW => ⟨⟨(-1000000), (), rfl, (by rw [sp_told, if_neg h_1, if_neg h_2, if_neg h_3, if_neg h_4, if_neg h_5, if_neg h_6, if_neg h_7]), trivial⟩, hS.F ht⟩) hS.2.2 dX10_told_110
end
section
set_option maxHeartbeats 4000000 in
set_option maxRecDepth 100000 in
theorem c_X11_in (l : Launch) (D : va_G) (x y z : Int32) : Met l yX11_in (.code yX11_in cX11_in 3 (some .boolean) :: gw) ({ frames := 0, cells := 0, slots := 0, locals := 0 }) (va_Pc [.int x, .int y, .int z] (pr D [] [])) (va_Qi (fun r (_ : Unit) => r = md_in x y z) (fun _ _ => True) (fun _ => False)) 0 0 (fun _ => False) := by
  refine Met.ofW (cc := cX11_in) (maxL := 3) (ret := (some .boolean)) (by decide) rfl ?_
  intro p e s m args below meth c s₁ B hml hv
  obtain ⟨rfl, hP, hK⟩ := hv
  have hx := B.exec
  have hb := B.bytes
  have hr := B.returns
  have hts := atoms_spec (ws := .code yX11_in cX11_in 3 (some .boolean) :: gw) B.pre
  have htg := gw_tl hts
  have hown : s.vm.findClass RX11 = some m.cls := findClass_of_methodNamed B.named
  have hlocks := B.notSynchronized
  have hS : va_S (fun _ => False) s.heap s.heap [] := va_S.rf
  have hl := lv_entry ([.int x, .int y, .int z]) (n := 3) (Nat.le_of_ble_eq_true rfl)
  rw [lg_entry_eq]
  generalize (lg_sl ([.int x, .int y, .int z]) ++ List.replicate (3 - (lg_sl ([.int x, .int y, .int z])).length) Slot.unset).toArray = ls at hl ⊢
  have hl : lv_has ls 3 [(0, .int x), (1, .int y), (2, .int z)] := hl
  refine lv_iload_n hx hb dX11_in_0 rfl (lv_at hl 0 rfl) ?_
  refine lv_iload_n hx hb dX11_in_1 rfl (lv_at hl 1 rfl) ?_
  refine lv_icmp_lt (tgt := 14) hx hb dX11_in_2 (by decide) (fun h_1 => ?_) (fun h_1 => ?_)
  · refine lv_iconst (v := 0) hx hb dX11_in_14 (by decide) ?_
    exact W.zret (v := 0) hx hb hr (by first | rfl | decide | exact ar_nb _) (fun t ht hW => ⟨⟨0, (), rfl, (by rw [md_in, if_pos h_1]), trivial⟩, hS.F ht⟩) hS.2.2 dX11_in_15
  · refine lv_iload_n hx hb dX11_in_5 rfl (lv_at hl 0 rfl) ?_
    refine lv_iload_n hx hb dX11_in_6 rfl (lv_at hl 2 rfl) ?_
    refine lv_icmp_gt (tgt := 14) hx hb dX11_in_7 (by decide) (fun h_2 => ?_) (fun h_2 => ?_)
    · refine lv_iconst (v := 0) hx hb dX11_in_14 (by decide) ?_
      exact W.zret (v := 0) hx hb hr (by first | rfl | decide | exact ar_nb _) (fun t ht hW => ⟨⟨0, (), rfl, (by rw [md_in, if_neg h_1, if_pos h_2]), trivial⟩, hS.F ht⟩) hS.2.2 dX11_in_15
    · refine lv_iconst (v := 1) hx hb dX11_in_10 (by decide) ?_
      refine lv_goto (tgt := 15) hx hb dX11_in_11 (by decide) ?_
      exact W.zret (v := 1) hx hb hr (by first | rfl | decide | exact ar_nb _) (fun t ht hW => ⟨⟨1, (), rfl, (by rw [md_in, if_neg h_1, if_neg h_2]), trivial⟩, hS.F ht⟩) hS.2.2 dX11_in_15

set_option maxHeartbeats 4000000 in
set_option maxRecDepth 100000 in
theorem c_X11_isDesk (l : Launch) (D : va_G) (b : Nat → Nat) (th sz at_ wr dp tx rd rc rm : Int32) (x : Int32) : Met l yX11_isDesk (.code yX11_isDesk cX11_isDesk 2 (some .boolean) :: gw) ({ frames := 1, cells := 0, slots := 0, locals := 40 }) (va_Pc [.ref (b 0), .int x] (pr D [((b 0), .inr (11, [.int th, .ref (b 1), .int sz, .int at_, .int wr, .int dp, .ref (b 6), .ref (b 7), .ref (b 8), .ref (b 9), .ref (b 10), .ref (b 11), .ref (b 12), .int 0, .int tx, .ref (b 15), .ref (b 16), .ref (b 17), .ref (b 18), .ref (b 19), .int rd, .int rc, .ref (b 22), .ref (b 23), .ref (b 24), .int 0, .int 0, .ref (b 27), .int rm, .ref (b 29), .int (-1), .ref (b 31), .ref (b 32), .int (-1), .ref (b 34), .ref (b 35), .int 0, .int 0, .ref (b 38), .ref (b 39), .ref (b 40), .ref (b 41), .ref (b 42), .ref (b 43), .ref (b 44), .ref (b 45), .ref (b 46), .ref (b 47), .int 0, .int 0, .ref (b 50), .ref (b 51), .ref (b 52), .ref (b 53), .ref (b 54), .int (-1), .int 0, .ref (b 57), .ref (b 58), .ref (b 59), .ref (b 60), .ref (b 61), .ref (b 62), .int 0, .int 0, .int 0]))] [])) (va_Qi (fun r (_ : Unit) => r = 0) (fun _ _ => True) (fun _ => False)) 0 0 (fun _ => False) := by
  refine Met.ofW (cc := cX11_isDesk) (maxL := 2) (ret := (some .boolean)) (by decide) rfl ?_
  intro p e s m args below meth c s₁ B hml hv
  obtain ⟨rfl, hP, hK⟩ := hv
  have hx := B.exec
  have hb := B.bytes
  have hr := B.returns
  have hts := atoms_spec (ws := .code yX11_isDesk cX11_isDesk 2 (some .boolean) :: gw) B.pre
  have htg := gw_tl hts
  have hown : s.vm.findClass RX11 = some m.cls := findClass_of_methodNamed B.named
  have hlocks := B.notSynchronized
  have hS : va_S (fun _ => False) s.heap s.heap [] := va_S.rf
  have hl := lv_entry ([.ref (b 0), .int x]) (n := 2) (Nat.le_of_ble_eq_true rfl)
  rw [lg_entry_eq]
  generalize (lg_sl ([.ref (b 0), .int x]) ++ List.replicate (2 - (lg_sl ([.ref (b 0), .int x])).length) Slot.unset).toArray = ls at hl ⊢
  have hl : lv_has ls 2 [(0, .ref (b 0)), (1, .int x)] := hl
  refine lv_iload_n hx hb dX11_isDesk_0 rfl (lv_at hl 1 rfl) ?_
  refine lv_iconst (v := 0) hx hb dX11_isDesk_1 (by decide) ?_
  refine lv_aload_n hx hb dX11_isDesk_2 rfl (lv_at hl 0 rfl) ?_
  refine va_get (D := D) (ci := 11) (v := .int 0) (C := RX11) (T := TX11) (N := 66) hx hb htg in_X11 hown hK hP 0 rfl rfl 25 (by decide) (htg _ mw_56) (fun _ h9 => h9) rfl dX11_isDesk_3 ?_
  refine lv_iconst (v := 1) hx hb dX11_isDesk_6 (by decide) ?_
  refine lv_isub hx hb dX11_isDesk_7 ?_
  refine lv_val (y := (-1)) (by decide) ?_
  have hPc := hP.sub (ws' := []) [] rfl
  have hKc := hK.sub (tys' := []) [] rfl
  refine va_calli (va_runS (As := [.int x, .int 0, .int (-1)]) (rest := []) ⟨hx, hb, hml, hown, htg⟩ (c_X11_in l D x 0 (-1)) (cS 3 htg mw_60 kv_X11_in rfl rfl ⟨(Nat.le_of_ble_eq_true rfl), (Nat.le_of_ble_eq_true rfl)⟩) ⟨bl_r, us_r hPc hKc⟩ rfl rfl hl.1 rfl (lv_room (Nat.le_of_ble_eq_true rfl)) dX11_isDesk_8 ⟨(Nat.le_of_ble_eq_true rfl), (Nat.le_of_ble_eq_true rfl)⟩) hS (fun _ _ h9 => False.elim h9) (fun _ h9 => False.elim h9) (fun r_1 u t H locs ht hvm hw hB hz1 hk1 hS => ?_)
  have hP := ro_keep hP hk1
  subst hw
  refine lv_val (y := 0) (md_in_e _) ?_
  exact W.zret (v := 0) hx hb hr (by first | rfl | decide | exact ar_nb _) (fun t ht hW => ⟨⟨0, (), rfl, rfl, trivial⟩, hS.F ht⟩) hS.2.2 dX11_isDesk_11

set_option maxHeartbeats 4000000 in
set_option maxRecDepth 100000 in
theorem c_X11_isClerk (l : Launch) (D : va_G) (b : Nat → Nat) (th sz at_ wr dp tx rd rc rm : Int32) (x : Int32) : Met l yX11_isClerk (.code yX11_isClerk cX11_isClerk 2 (some .boolean) :: gw) ({ frames := 1, cells := 0, slots := 0, locals := 40 }) (va_Pc [.ref (b 0), .int x] (pr D [((b 0), .inr (11, [.int th, .ref (b 1), .int sz, .int at_, .int wr, .int dp, .ref (b 6), .ref (b 7), .ref (b 8), .ref (b 9), .ref (b 10), .ref (b 11), .ref (b 12), .int 0, .int tx, .ref (b 15), .ref (b 16), .ref (b 17), .ref (b 18), .ref (b 19), .int rd, .int rc, .ref (b 22), .ref (b 23), .ref (b 24), .int 0, .int 0, .ref (b 27), .int rm, .ref (b 29), .int (-1), .ref (b 31), .ref (b 32), .int (-1), .ref (b 34), .ref (b 35), .int 0, .int 0, .ref (b 38), .ref (b 39), .ref (b 40), .ref (b 41), .ref (b 42), .ref (b 43), .ref (b 44), .ref (b 45), .ref (b 46), .ref (b 47), .int 0, .int 0, .ref (b 50), .ref (b 51), .ref (b 52), .ref (b 53), .ref (b 54), .int (-1), .int 0, .ref (b 57), .ref (b 58), .ref (b 59), .ref (b 60), .ref (b 61), .ref (b 62), .int 0, .int 0, .int 0]))] [])) (va_Qi (fun r (_ : Unit) => r = 0) (fun _ _ => True) (fun _ => False)) 0 0 (fun _ => False) := by
  refine Met.ofW (cc := cX11_isClerk) (maxL := 2) (ret := (some .boolean)) (by decide) rfl ?_
  intro p e s m args below meth c s₁ B hml hv
  obtain ⟨rfl, hP, hK⟩ := hv
  have hx := B.exec
  have hb := B.bytes
  have hr := B.returns
  have hts := atoms_spec (ws := .code yX11_isClerk cX11_isClerk 2 (some .boolean) :: gw) B.pre
  have htg := gw_tl hts
  have hown : s.vm.findClass RX11 = some m.cls := findClass_of_methodNamed B.named
  have hlocks := B.notSynchronized
  have hS : va_S (fun _ => False) s.heap s.heap [] := va_S.rf
  have hl := lv_entry ([.ref (b 0), .int x]) (n := 2) (Nat.le_of_ble_eq_true rfl)
  rw [lg_entry_eq]
  generalize (lg_sl ([.ref (b 0), .int x]) ++ List.replicate (2 - (lg_sl ([.ref (b 0), .int x])).length) Slot.unset).toArray = ls at hl ⊢
  have hl : lv_has ls 2 [(0, .ref (b 0)), (1, .int x)] := hl
  refine lv_iload_n hx hb dX11_isClerk_0 rfl (lv_at hl 1 rfl) ?_
  refine lv_iconst (v := 0) hx hb dX11_isClerk_1 (by decide) ?_
  refine lv_bipush (v := 11) hx hb dX11_isClerk_2 (by decide) ?_
  have hPc := hP.sub (ws' := []) [] rfl
  have hKc := hK.sub (tys' := []) [] rfl
  refine va_calli (va_runS (As := [.int x, .int 0, .int 11]) (rest := []) ⟨hx, hb, hml, hown, htg⟩ (c_X11_in l D x 0 11) (cS 3 htg mw_60 kv_X11_in rfl rfl ⟨(Nat.le_of_ble_eq_true rfl), (Nat.le_of_ble_eq_true rfl)⟩) ⟨bl_r, us_r hPc hKc⟩ rfl rfl hl.1 rfl (lv_room (Nat.le_of_ble_eq_true rfl)) dX11_isClerk_4 ⟨(Nat.le_of_ble_eq_true rfl), (Nat.le_of_ble_eq_true rfl)⟩) hS (fun _ _ h9 => False.elim h9) (fun _ h9 => False.elim h9) (fun r_1 u t H locs ht hvm hw hB hz1 hk1 hS => ?_)
  have hP := ro_keep hP hk1
  subst hw
  refine lv_if_eq (tgt := 32) hx hb dX11_isClerk_7 (by decide) (fun h_2 => ?_) (fun h_2 => ?_)
  · refine lv_iconst (v := 0) hx hb dX11_isClerk_32 (by decide) ?_
    exact W.zret (v := 0) hx hb hr (by first | rfl | decide | exact ar_nb _) (fun t ht hW => ⟨⟨0, (), rfl, rfl, trivial⟩, hS.F ht⟩) hS.2.2 dX11_isClerk_33
  · refine lv_aload_n hx hb dX11_isClerk_10 rfl (lv_at hl 0 rfl) ?_
    refine va_get (D := D) (ci := 11) (v := .int 0) (C := RX11) (T := TX11) (N := 66) hx hb htg in_X11 hown hK hP 0 rfl rfl 25 (by decide) (htg _ mw_56) (fun _ h9 => h9) rfl dX11_isClerk_11 ?_
    refine lv_if_le (tgt := 32) hx hb dX11_isClerk_14 (by decide) (fun _ => ?_) (fun h9 => False.elim (h9 (by decide)))
    refine lv_iconst (v := 0) hx hb dX11_isClerk_32 (by decide) ?_
    exact W.zret (v := 0) hx hb hr (by first | rfl | decide | exact ar_nb _) (fun t ht hW => ⟨⟨0, (), rfl, rfl, trivial⟩, hS.F ht⟩) hS.2.2 dX11_isClerk_33

set_option maxHeartbeats 4000000 in
set_option maxRecDepth 100000 in
theorem c_X11_isSmall (l : Launch) (D : va_G) (b : Nat → Nat) (th sz at_ wr dp tx rd rc rm : Int32)  : Met l yX11_isSmall (.code yX11_isSmall cX11_isSmall 1 (some .boolean) :: gw) ({ frames := 1, cells := 0, slots := 0, locals := 40 }) (va_Pc [.ref (b 0)] (pr D [((b 0), .inr (11, [.int th, .ref (b 1), .int sz, .int at_, .int wr, .int dp, .ref (b 6), .ref (b 7), .ref (b 8), .ref (b 9), .ref (b 10), .ref (b 11), .ref (b 12), .int 0, .int tx, .ref (b 15), .ref (b 16), .ref (b 17), .ref (b 18), .ref (b 19), .int rd, .int rc, .ref (b 22), .ref (b 23), .ref (b 24), .int 0, .int 0, .ref (b 27), .int rm, .ref (b 29), .int (-1), .ref (b 31), .ref (b 32), .int (-1), .ref (b 34), .ref (b 35), .int 0, .int 0, .ref (b 38), .ref (b 39), .ref (b 40), .ref (b 41), .ref (b 42), .ref (b 43), .ref (b 44), .ref (b 45), .ref (b 46), .ref (b 47), .int 0, .int 0, .ref (b 50), .ref (b 51), .ref (b 52), .ref (b 53), .ref (b 54), .int (-1), .int 0, .ref (b 57), .ref (b 58), .ref (b 59), .ref (b 60), .ref (b 61), .ref (b 62), .int 0, .int 0, .int 0]))] [])) (va_Qi (fun r (_ : Unit) => r = 0) (fun _ _ => True) (fun _ => False)) 0 0 (fun _ => False) := by
  refine Met.ofW (cc := cX11_isSmall) (maxL := 1) (ret := (some .boolean)) (by decide) rfl ?_
  intro p e s m args below meth c s₁ B hml hv
  obtain ⟨rfl, hP, hK⟩ := hv
  have hx := B.exec
  have hb := B.bytes
  have hr := B.returns
  have hts := atoms_spec (ws := .code yX11_isSmall cX11_isSmall 1 (some .boolean) :: gw) B.pre
  have htg := gw_tl hts
  have hown : s.vm.findClass RX11 = some m.cls := findClass_of_methodNamed B.named
  have hlocks := B.notSynchronized
  have hS : va_S (fun _ => False) s.heap s.heap [] := va_S.rf
  have hl := lv_entry ([.ref (b 0)]) (n := 1) (Nat.le_of_ble_eq_true rfl)
  rw [lg_entry_eq]
  generalize (lg_sl ([.ref (b 0)]) ++ List.replicate (1 - (lg_sl ([.ref (b 0)])).length) Slot.unset).toArray = ls at hl ⊢
  have hl : lv_has ls 1 [(0, .ref (b 0))] := hl
  refine lv_aload_n hx hb dX11_isSmall_0 rfl (lv_at hl 0 rfl) ?_
  refine va_get (D := D) (ci := 11) (v := .int 0) (C := RX11) (T := TX11) (N := 66) hx hb htg in_X11 hown hK hP 0 rfl rfl 25 (by decide) (htg _ mw_56) (fun _ h9 => h9) rfl dX11_isSmall_1 ?_
  refine lv_iconst (v := 1) hx hb dX11_isSmall_4 (by decide) ?_
  refine lv_bipush (v := 8) hx hb dX11_isSmall_5 (by decide) ?_
  have hPc := hP.sub (ws' := []) [] rfl
  have hKc := hK.sub (tys' := []) [] rfl
  refine va_calli (va_runS (As := [.int 0, .int 1, .int 8]) (rest := []) ⟨hx, hb, hml, hown, htg⟩ (c_X11_in l D 0 1 8) (cS 3 htg mw_60 kv_X11_in rfl rfl ⟨(Nat.le_of_ble_eq_true rfl), (Nat.le_of_ble_eq_true rfl)⟩) ⟨bl_r, us_r hPc hKc⟩ rfl rfl hl.1 rfl (lv_room (Nat.le_of_ble_eq_true rfl)) dX11_isSmall_7 ⟨(Nat.le_of_ble_eq_true rfl), (Nat.le_of_ble_eq_true rfl)⟩) hS (fun _ _ h9 => False.elim h9) (fun _ h9 => False.elim h9) (fun r_1 u t H locs ht hvm hw hB hz1 hk1 hS => ?_)
  have hP := ro_keep hP hk1
  subst hw
  refine lv_val (y := 0) (by decide) ?_
  exact W.zret (v := 0) hx hb hr (by first | rfl | decide | exact ar_nb _) (fun t ht hW => ⟨⟨0, (), rfl, rfl, trivial⟩, hS.F ht⟩) hS.2.2 dX11_isSmall_10

set_option maxHeartbeats 4000000 in
set_option maxRecDepth 100000 in
theorem c_X11_bars (l : Launch) (D : va_G) (b : Nat → Nat) (th sz at_ wr dp tx rd rc rm : Int32) (x y : Int32) (ra : Nat) : Met l yX11_bars (.code yX11_bars cX11_bars 5 (some .int) :: gw) ({ frames := 2, cells := 0, slots := 0, locals := 80 }) (va_Pc [.ref (b 0), .ref ra, .int x, .int y] (pr D [((b 0), .inr (11, [.int th, .ref (b 1), .int sz, .int at_, .int wr, .int dp, .ref (b 6), .ref (b 7), .ref (b 8), .ref (b 9), .ref (b 10), .ref (b 11), .ref (b 12), .int 0, .int tx, .ref (b 15), .ref (b 16), .ref (b 17), .ref (b 18), .ref (b 19), .int rd, .int rc, .ref (b 22), .ref (b 23), .ref (b 24), .int 0, .int 0, .ref (b 27), .int rm, .ref (b 29), .int (-1), .ref (b 31), .ref (b 32), .int (-1), .ref (b 34), .ref (b 35), .int 0, .int 0, .ref (b 38), .ref (b 39), .ref (b 40), .ref (b 41), .ref (b 42), .ref (b 43), .ref (b 44), .ref (b 45), .ref (b 46), .ref (b 47), .int 0, .int 0, .ref (b 50), .ref (b 51), .ref (b 52), .ref (b 53), .ref (b 54), .int (-1), .int 0, .ref (b 57), .ref (b 58), .ref (b 59), .ref (b 60), .ref (b 61), .ref (b 62), .int 0, .int 0, .int 0]))] [])) (va_Qi (fun r (_ : Unit) => r = 1) (fun _ _ => True) (fun _ => False)) 0 0 (fun _ => False) := by
  refine Met.ofW (cc := cX11_bars) (maxL := 5) (ret := (some .int)) (by decide) rfl ?_
  intro p e s m args below meth c s₁ B hml hv
  obtain ⟨rfl, hP, hK⟩ := hv
  have hx := B.exec
  have hb := B.bytes
  have hr := B.returns
  have hts := atoms_spec (ws := .code yX11_bars cX11_bars 5 (some .int) :: gw) B.pre
  have htg := gw_tl hts
  have hown : s.vm.findClass RX11 = some m.cls := findClass_of_methodNamed B.named
  have hlocks := B.notSynchronized
  have hS : va_S (fun _ => False) s.heap s.heap [] := va_S.rf
  have hl := lv_entry ([.ref (b 0), .ref ra, .int x, .int y]) (n := 5) (Nat.le_of_ble_eq_true rfl)
  rw [lg_entry_eq]
  generalize (lg_sl ([.ref (b 0), .ref ra, .int x, .int y]) ++ List.replicate (5 - (lg_sl ([.ref (b 0), .ref ra, .int x, .int y])).length) Slot.unset).toArray = ls at hl ⊢
  have hl : lv_has ls 5 [(0, .ref (b 0)), (1, .ref ra), (2, .int x), (3, .int y)] := hl
  refine lv_aload_n hx hb dX11_bars_0 rfl (lv_at hl 0 rfl) ?_
  refine lv_iload_n hx hb dX11_bars_1 rfl (lv_at hl 2 rfl) ?_
  have hPc := hP.sub (ws' := [((b 0), .inr (11, [.int th, .ref (b 1), .int sz, .int at_, .int wr, .int dp, .ref (b 6), .ref (b 7), .ref (b 8), .ref (b 9), .ref (b 10), .ref (b 11), .ref (b 12), .int 0, .int tx, .ref (b 15), .ref (b 16), .ref (b 17), .ref (b 18), .ref (b 19), .int rd, .int rc, .ref (b 22), .ref (b 23), .ref (b 24), .int 0, .int 0, .ref (b 27), .int rm, .ref (b 29), .int (-1), .ref (b 31), .ref (b 32), .int (-1), .ref (b 34), .ref (b 35), .int 0, .int 0, .ref (b 38), .ref (b 39), .ref (b 40), .ref (b 41), .ref (b 42), .ref (b 43), .ref (b 44), .ref (b 45), .ref (b 46), .ref (b 47), .int 0, .int 0, .ref (b 50), .ref (b 51), .ref (b 52), .ref (b 53), .ref (b 54), .int (-1), .int 0, .ref (b 57), .ref (b 58), .ref (b 59), .ref (b 60), .ref (b 61), .ref (b 62), .int 0, .int 0, .int 0]))]) [0] rfl
  have hKc := hK.sub (tys' := []) [] rfl
  refine va_calli (va_runV (As := [.int x]) (rest := []) ⟨hx, hb, hml, hown, htg⟩ (c_X11_isClerk l D b th sz at_ wr dp tx rd rc rm x) (cV 1 htg mw_64 kv_X11_isClerk rfl rfl ⟨(Nat.le_of_ble_eq_true rfl), (Nat.le_of_ble_eq_true rfl)⟩) ⟨bl_r, va_recv hKc hPc (ci := 11) (q0 := 0) rfl rfl, us_r hPc hKc⟩ rfl rfl hl.1 rfl (lv_room (Nat.le_of_ble_eq_true rfl)) dX11_bars_2 ⟨(Nat.le_of_ble_eq_true rfl), (Nat.le_of_ble_eq_true rfl)⟩) hS (fun _ _ h9 => False.elim h9) (fun _ h9 => False.elim h9) (fun r_1 u t H locs ht hvm hw hB hz1 hk1 hS => ?_)
  have hP := ro_keep hP hk1
  subst hw
  refine lv_if_eq (tgt := 16) hx hb dX11_bars_5 (by decide) (fun _ => ?_) (fun h9 => False.elim (h9 (by decide)))
  refine lv_iconst (v := 1) hx hb dX11_bars_16 (by decide) ?_
  exact W.iret (v := 1) hx hb hr  (fun t ht hW => ⟨⟨1, (), rfl, rfl, trivial⟩, hS.F ht⟩) hS.2.2 dX11_bars_17

set_option maxHeartbeats 4000000 in
set_option maxRecDepth 100000 in
theorem c_X11_door (l : Launch) (D : va_G) (b : Nat → Nat) (th sz at_ wr dp tx rd rc rm : Int32) (x y : Int32) : Met l yX11_door (.code yX11_door cX11_door 3 (some .int) :: gw) ({ frames := 2, cells := 0, slots := 0, locals := 80 }) (va_Pc [.ref (b 0), .int x, .int y] (pr D [((b 0), .inr (11, [.int th, .ref (b 1), .int sz, .int at_, .int wr, .int dp, .ref (b 6), .ref (b 7), .ref (b 8), .ref (b 9), .ref (b 10), .ref (b 11), .ref (b 12), .int 0, .int tx, .ref (b 15), .ref (b 16), .ref (b 17), .ref (b 18), .ref (b 19), .int rd, .int rc, .ref (b 22), .ref (b 23), .ref (b 24), .int 0, .int 0, .ref (b 27), .int rm, .ref (b 29), .int (-1), .ref (b 31), .ref (b 32), .int (-1), .ref (b 34), .ref (b 35), .int 0, .int 0, .ref (b 38), .ref (b 39), .ref (b 40), .ref (b 41), .ref (b 42), .ref (b 43), .ref (b 44), .ref (b 45), .ref (b 46), .ref (b 47), .int 0, .int 0, .ref (b 50), .ref (b 51), .ref (b 52), .ref (b 53), .ref (b 54), .int (-1), .int 0, .ref (b 57), .ref (b 58), .ref (b 59), .ref (b 60), .ref (b 61), .ref (b 62), .int 0, .int 0, .int 0]))] [])) (va_Qi (fun r (_ : Unit) => r = (-1)) (fun _ _ => True) (fun _ => False)) 0 0 (fun _ => False) := by
  refine Met.ofW (cc := cX11_door) (maxL := 3) (ret := (some .int)) (by decide) rfl ?_
  intro p e s m args below meth c s₁ B hml hv
  obtain ⟨rfl, hP, hK⟩ := hv
  have hx := B.exec
  have hb := B.bytes
  have hr := B.returns
  have hts := atoms_spec (ws := .code yX11_door cX11_door 3 (some .int) :: gw) B.pre
  have htg := gw_tl hts
  have hown : s.vm.findClass RX11 = some m.cls := findClass_of_methodNamed B.named
  have hlocks := B.notSynchronized
  have hS : va_S (fun _ => False) s.heap s.heap [] := va_S.rf
  have hl := lv_entry ([.ref (b 0), .int x, .int y]) (n := 3) (Nat.le_of_ble_eq_true rfl)
  rw [lg_entry_eq]
  generalize (lg_sl ([.ref (b 0), .int x, .int y]) ++ List.replicate (3 - (lg_sl ([.ref (b 0), .int x, .int y])).length) Slot.unset).toArray = ls at hl ⊢
  have hl : lv_has ls 3 [(0, .ref (b 0)), (1, .int x), (2, .int y)] := hl
  refine lv_aload_n hx hb dX11_door_0 rfl (lv_at hl 0 rfl) ?_
  refine lv_iload_n hx hb dX11_door_1 rfl (lv_at hl 1 rfl) ?_
  have hPc := hP.sub (ws' := [((b 0), .inr (11, [.int th, .ref (b 1), .int sz, .int at_, .int wr, .int dp, .ref (b 6), .ref (b 7), .ref (b 8), .ref (b 9), .ref (b 10), .ref (b 11), .ref (b 12), .int 0, .int tx, .ref (b 15), .ref (b 16), .ref (b 17), .ref (b 18), .ref (b 19), .int rd, .int rc, .ref (b 22), .ref (b 23), .ref (b 24), .int 0, .int 0, .ref (b 27), .int rm, .ref (b 29), .int (-1), .ref (b 31), .ref (b 32), .int (-1), .ref (b 34), .ref (b 35), .int 0, .int 0, .ref (b 38), .ref (b 39), .ref (b 40), .ref (b 41), .ref (b 42), .ref (b 43), .ref (b 44), .ref (b 45), .ref (b 46), .ref (b 47), .int 0, .int 0, .ref (b 50), .ref (b 51), .ref (b 52), .ref (b 53), .ref (b 54), .int (-1), .int 0, .ref (b 57), .ref (b 58), .ref (b 59), .ref (b 60), .ref (b 61), .ref (b 62), .int 0, .int 0, .int 0]))]) [0] rfl
  have hKc := hK.sub (tys' := []) [] rfl
  refine va_calli (va_runV (As := [.int x]) (rest := []) ⟨hx, hb, hml, hown, htg⟩ (c_X11_isDesk l D b th sz at_ wr dp tx rd rc rm x) (cV 1 htg mw_68 kv_X11_isDesk rfl rfl ⟨(Nat.le_of_ble_eq_true rfl), (Nat.le_of_ble_eq_true rfl)⟩) ⟨bl_r, va_recv hKc hPc (ci := 11) (q0 := 0) rfl rfl, us_r hPc hKc⟩ rfl rfl hl.1 rfl (lv_room (Nat.le_of_ble_eq_true rfl)) dX11_door_2 ⟨(Nat.le_of_ble_eq_true rfl), (Nat.le_of_ble_eq_true rfl)⟩) hS (fun _ _ h9 => False.elim h9) (fun _ h9 => False.elim h9) (fun r_1 u t H locs ht hvm hw hB hz1 hk1 hS => ?_)
  have hP := ro_keep hP hk1
  subst hw
  refine lv_if_eq (tgt := 44) hx hb dX11_door_5 (by decide) (fun _ => ?_) (fun h9 => False.elim (h9 (by decide)))
  refine lv_iconst (v := (-1)) hx hb dX11_door_44 (by decide) ?_
  exact W.iret (v := (-1)) hx hb hr  (fun t ht hW => ⟨⟨(-1), (), rfl, rfl, trivial⟩, hS.F ht⟩) hS.2.2 dX11_door_45

set_option maxHeartbeats 4000000 in
set_option maxRecDepth 100000 in
theorem c_X11_quarrel (l : Launch) (D : va_G) (b : Nat → Nat) (th sz at_ wr dp tx rd rc rm : Int32) (x y : Int32) : Met l yX11_quarrel (.code yX11_quarrel cX11_quarrel 3 (some .int) :: gw) ({ frames := 2, cells := 0, slots := 0, locals := 80 }) (va_Pc [.ref (b 0), .int x, .int y] (pr D [((b 0), .inr (11, [.int th, .ref (b 1), .int sz, .int at_, .int wr, .int dp, .ref (b 6), .ref (b 7), .ref (b 8), .ref (b 9), .ref (b 10), .ref (b 11), .ref (b 12), .int 0, .int tx, .ref (b 15), .ref (b 16), .ref (b 17), .ref (b 18), .ref (b 19), .int rd, .int rc, .ref (b 22), .ref (b 23), .ref (b 24), .int 0, .int 0, .ref (b 27), .int rm, .ref (b 29), .int (-1), .ref (b 31), .ref (b 32), .int (-1), .ref (b 34), .ref (b 35), .int 0, .int 0, .ref (b 38), .ref (b 39), .ref (b 40), .ref (b 41), .ref (b 42), .ref (b 43), .ref (b 44), .ref (b 45), .ref (b 46), .ref (b 47), .int 0, .int 0, .ref (b 50), .ref (b 51), .ref (b 52), .ref (b 53), .ref (b 54), .int (-1), .int 0, .ref (b 57), .ref (b 58), .ref (b 59), .ref (b 60), .ref (b 61), .ref (b 62), .int 0, .int 0, .int 0]))] [])) (va_Qi (fun r (_ : Unit) => r = (-1)) (fun _ _ => True) (fun _ => False)) 0 0 (fun _ => False) := by
  refine Met.ofW (cc := cX11_quarrel) (maxL := 3) (ret := (some .int)) (by decide) rfl ?_
  intro p e s m args below meth c s₁ B hml hv
  obtain ⟨rfl, hP, hK⟩ := hv
  have hx := B.exec
  have hb := B.bytes
  have hr := B.returns
  have hts := atoms_spec (ws := .code yX11_quarrel cX11_quarrel 3 (some .int) :: gw) B.pre
  have htg := gw_tl hts
  have hown : s.vm.findClass RX11 = some m.cls := findClass_of_methodNamed B.named
  have hlocks := B.notSynchronized
  have hS : va_S (fun _ => False) s.heap s.heap [] := va_S.rf
  have hl := lv_entry ([.ref (b 0), .int x, .int y]) (n := 3) (Nat.le_of_ble_eq_true rfl)
  rw [lg_entry_eq]
  generalize (lg_sl ([.ref (b 0), .int x, .int y]) ++ List.replicate (3 - (lg_sl ([.ref (b 0), .int x, .int y])).length) Slot.unset).toArray = ls at hl ⊢
  have hl : lv_has ls 3 [(0, .ref (b 0)), (1, .int x), (2, .int y)] := hl
  refine lv_aload_n hx hb dX11_quarrel_0 rfl (lv_at hl 0 rfl) ?_
  refine lv_iload_n hx hb dX11_quarrel_1 rfl (lv_at hl 1 rfl) ?_
  have hPc := hP.sub (ws' := [((b 0), .inr (11, [.int th, .ref (b 1), .int sz, .int at_, .int wr, .int dp, .ref (b 6), .ref (b 7), .ref (b 8), .ref (b 9), .ref (b 10), .ref (b 11), .ref (b 12), .int 0, .int tx, .ref (b 15), .ref (b 16), .ref (b 17), .ref (b 18), .ref (b 19), .int rd, .int rc, .ref (b 22), .ref (b 23), .ref (b 24), .int 0, .int 0, .ref (b 27), .int rm, .ref (b 29), .int (-1), .ref (b 31), .ref (b 32), .int (-1), .ref (b 34), .ref (b 35), .int 0, .int 0, .ref (b 38), .ref (b 39), .ref (b 40), .ref (b 41), .ref (b 42), .ref (b 43), .ref (b 44), .ref (b 45), .ref (b 46), .ref (b 47), .int 0, .int 0, .ref (b 50), .ref (b 51), .ref (b 52), .ref (b 53), .ref (b 54), .int (-1), .int 0, .ref (b 57), .ref (b 58), .ref (b 59), .ref (b 60), .ref (b 61), .ref (b 62), .int 0, .int 0, .int 0]))]) [0] rfl
  have hKc := hK.sub (tys' := []) [] rfl
  refine va_calli (va_runV (As := [.int x]) (rest := []) ⟨hx, hb, hml, hown, htg⟩ (c_X11_isClerk l D b th sz at_ wr dp tx rd rc rm x) (cV 1 htg mw_64 kv_X11_isClerk rfl rfl ⟨(Nat.le_of_ble_eq_true rfl), (Nat.le_of_ble_eq_true rfl)⟩) ⟨bl_r, va_recv hKc hPc (ci := 11) (q0 := 0) rfl rfl, us_r hPc hKc⟩ rfl rfl hl.1 rfl (lv_room (Nat.le_of_ble_eq_true rfl)) dX11_quarrel_2 ⟨(Nat.le_of_ble_eq_true rfl), (Nat.le_of_ble_eq_true rfl)⟩) hS (fun _ _ h9 => False.elim h9) (fun _ h9 => False.elim h9) (fun r_1 u t H locs ht hvm hw hB hz1 hk1 hS => ?_)
  have hP := ro_keep hP hk1
  subst hw
  refine lv_if_eq (tgt := 42) hx hb dX11_quarrel_5 (by decide) (fun _ => ?_) (fun h9 => False.elim (h9 (by decide)))
  refine lv_iconst (v := (-1)) hx hb dX11_quarrel_42 (by decide) ?_
  exact W.iret (v := (-1)) hx hb hr  (fun t ht hW => ⟨⟨(-1), (), rfl, rfl, trivial⟩, hS.F ht⟩) hS.2.2 dX11_quarrel_43

set_option maxHeartbeats 4000000 in
set_option maxRecDepth 100000 in
theorem c_X11_set (l : Launch) (D : va_G) (b : Nat → Nat) (th sz at_ wr dp tx rd rc rm : Int32) (x y z : Int32) : Met l yX11_set (.code yX11_set cX11_set 4 (some .boolean) :: gw) ({ frames := 2, cells := 0, slots := 0, locals := 80 }) (va_Pc [.ref (b 0), .int x, .int y, .int z] (pr D [((b 0), .inr (11, [.int th, .ref (b 1), .int sz, .int at_, .int wr, .int dp, .ref (b 6), .ref (b 7), .ref (b 8), .ref (b 9), .ref (b 10), .ref (b 11), .ref (b 12), .int 0, .int tx, .ref (b 15), .ref (b 16), .ref (b 17), .ref (b 18), .ref (b 19), .int rd, .int rc, .ref (b 22), .ref (b 23), .ref (b 24), .int 0, .int 0, .ref (b 27), .int rm, .ref (b 29), .int (-1), .ref (b 31), .ref (b 32), .int (-1), .ref (b 34), .ref (b 35), .int 0, .int 0, .ref (b 38), .ref (b 39), .ref (b 40), .ref (b 41), .ref (b 42), .ref (b 43), .ref (b 44), .ref (b 45), .ref (b 46), .ref (b 47), .int 0, .int 0, .ref (b 50), .ref (b 51), .ref (b 52), .ref (b 53), .ref (b 54), .int (-1), .int 0, .ref (b 57), .ref (b 58), .ref (b 59), .ref (b 60), .ref (b 61), .ref (b 62), .int 0, .int 0, .int 0]))] [])) (va_Qi (fun r (_ : Unit) => r = 0) (fun _ _ => True) (fun _ => False)) 0 0 (fun _ => False) := by
  refine Met.ofW (cc := cX11_set) (maxL := 4) (ret := (some .boolean)) (by decide) rfl ?_
  intro p e s m args below meth c s₁ B hml hv
  obtain ⟨rfl, hP, hK⟩ := hv
  have hx := B.exec
  have hb := B.bytes
  have hr := B.returns
  have hts := atoms_spec (ws := .code yX11_set cX11_set 4 (some .boolean) :: gw) B.pre
  have htg := gw_tl hts
  have hown : s.vm.findClass RX11 = some m.cls := findClass_of_methodNamed B.named
  have hlocks := B.notSynchronized
  have hS : va_S (fun _ => False) s.heap s.heap [] := va_S.rf
  have hl := lv_entry ([.ref (b 0), .int x, .int y, .int z]) (n := 4) (Nat.le_of_ble_eq_true rfl)
  rw [lg_entry_eq]
  generalize (lg_sl ([.ref (b 0), .int x, .int y, .int z]) ++ List.replicate (4 - (lg_sl ([.ref (b 0), .int x, .int y, .int z])).length) Slot.unset).toArray = ls at hl ⊢
  have hl : lv_has ls 4 [(0, .ref (b 0)), (1, .int x), (2, .int y), (3, .int z)] := hl
  refine lv_aload_n hx hb dX11_set_0 rfl (lv_at hl 0 rfl) ?_
  refine lv_iload_n hx hb dX11_set_1 rfl (lv_at hl 1 rfl) ?_
  have hPc := hP.sub (ws' := [((b 0), .inr (11, [.int th, .ref (b 1), .int sz, .int at_, .int wr, .int dp, .ref (b 6), .ref (b 7), .ref (b 8), .ref (b 9), .ref (b 10), .ref (b 11), .ref (b 12), .int 0, .int tx, .ref (b 15), .ref (b 16), .ref (b 17), .ref (b 18), .ref (b 19), .int rd, .int rc, .ref (b 22), .ref (b 23), .ref (b 24), .int 0, .int 0, .ref (b 27), .int rm, .ref (b 29), .int (-1), .ref (b 31), .ref (b 32), .int (-1), .ref (b 34), .ref (b 35), .int 0, .int 0, .ref (b 38), .ref (b 39), .ref (b 40), .ref (b 41), .ref (b 42), .ref (b 43), .ref (b 44), .ref (b 45), .ref (b 46), .ref (b 47), .int 0, .int 0, .ref (b 50), .ref (b 51), .ref (b 52), .ref (b 53), .ref (b 54), .int (-1), .int 0, .ref (b 57), .ref (b 58), .ref (b 59), .ref (b 60), .ref (b 61), .ref (b 62), .int 0, .int 0, .int 0]))]) [0] rfl
  have hKc := hK.sub (tys' := []) [] rfl
  refine va_calli (va_runV (As := [.int x]) (rest := []) ⟨hx, hb, hml, hown, htg⟩ (c_X11_isClerk l D b th sz at_ wr dp tx rd rc rm x) (cV 1 htg mw_64 kv_X11_isClerk rfl rfl ⟨(Nat.le_of_ble_eq_true rfl), (Nat.le_of_ble_eq_true rfl)⟩) ⟨bl_r, va_recv hKc hPc (ci := 11) (q0 := 0) rfl rfl, us_r hPc hKc⟩ rfl rfl hl.1 rfl (lv_room (Nat.le_of_ble_eq_true rfl)) dX11_set_2 ⟨(Nat.le_of_ble_eq_true rfl), (Nat.le_of_ble_eq_true rfl)⟩) hS (fun _ _ h9 => False.elim h9) (fun _ h9 => False.elim h9) (fun r_1 u t H locs ht hvm hw hB hz1 hk1 hS => ?_)
  have hP := ro_keep hP hk1
  subst hw
  refine lv_if_eq (tgt := 27) hx hb dX11_set_5 (by decide) (fun _ => ?_) (fun h9 => False.elim (h9 (by decide)))
  refine lv_iconst (v := 0) hx hb dX11_set_27 (by decide) ?_
  exact W.zret (v := 0) hx hb hr (by first | rfl | decide | exact ar_nb _) (fun t ht hW => ⟨⟨0, (), rfl, rfl, trivial⟩, hS.F ht⟩) hS.2.2 dX11_set_28

set_option maxHeartbeats 4000000 in
set_option maxRecDepth 100000 in
theorem c_X11_clerk (l : Launch) (D : va_G) (b : Nat → Nat) (th sz at_ wr dp tx rd rc rm : Int32) (x y : Int32) : Met l yX11_clerk (.code yX11_clerk cX11_clerk 4 (some .int) :: gw) ({ frames := 2, cells := 0, slots := 0, locals := 80 }) (va_Pc [.ref (b 0), .int x, .int y] (pr D [((b 0), .inr (11, [.int th, .ref (b 1), .int sz, .int at_, .int wr, .int dp, .ref (b 6), .ref (b 7), .ref (b 8), .ref (b 9), .ref (b 10), .ref (b 11), .ref (b 12), .int 0, .int tx, .ref (b 15), .ref (b 16), .ref (b 17), .ref (b 18), .ref (b 19), .int rd, .int rc, .ref (b 22), .ref (b 23), .ref (b 24), .int 0, .int 0, .ref (b 27), .int rm, .ref (b 29), .int (-1), .ref (b 31), .ref (b 32), .int (-1), .ref (b 34), .ref (b 35), .int 0, .int 0, .ref (b 38), .ref (b 39), .ref (b 40), .ref (b 41), .ref (b 42), .ref (b 43), .ref (b 44), .ref (b 45), .ref (b 46), .ref (b 47), .int 0, .int 0, .ref (b 50), .ref (b 51), .ref (b 52), .ref (b 53), .ref (b 54), .int (-1), .int 0, .ref (b 57), .ref (b 58), .ref (b 59), .ref (b 60), .ref (b 61), .ref (b 62), .int 0, .int 0, .int 0]))] [])) (va_Qi (fun r (_ : Unit) => r = (-1)) (fun _ _ => True) (fun _ => False)) 0 0 (fun _ => False) := by
  refine Met.ofW (cc := cX11_clerk) (maxL := 4) (ret := (some .int)) (by decide) rfl ?_
  intro p e s m args below meth c s₁ B hml hv
  obtain ⟨rfl, hP, hK⟩ := hv
  have hx := B.exec
  have hb := B.bytes
  have hr := B.returns
  have hts := atoms_spec (ws := .code yX11_clerk cX11_clerk 4 (some .int) :: gw) B.pre
  have htg := gw_tl hts
  have hown : s.vm.findClass RX11 = some m.cls := findClass_of_methodNamed B.named
  have hlocks := B.notSynchronized
  have hS : va_S (fun _ => False) s.heap s.heap [] := va_S.rf
  have hl := lv_entry ([.ref (b 0), .int x, .int y]) (n := 4) (Nat.le_of_ble_eq_true rfl)
  rw [lg_entry_eq]
  generalize (lg_sl ([.ref (b 0), .int x, .int y]) ++ List.replicate (4 - (lg_sl ([.ref (b 0), .int x, .int y])).length) Slot.unset).toArray = ls at hl ⊢
  have hl : lv_has ls 4 [(0, .ref (b 0)), (1, .int x), (2, .int y)] := hl
  refine lv_aload_n hx hb dX11_clerk_0 rfl (lv_at hl 0 rfl) ?_
  refine lv_iload_n hx hb dX11_clerk_1 rfl (lv_at hl 1 rfl) ?_
  have hPc := hP.sub (ws' := [((b 0), .inr (11, [.int th, .ref (b 1), .int sz, .int at_, .int wr, .int dp, .ref (b 6), .ref (b 7), .ref (b 8), .ref (b 9), .ref (b 10), .ref (b 11), .ref (b 12), .int 0, .int tx, .ref (b 15), .ref (b 16), .ref (b 17), .ref (b 18), .ref (b 19), .int rd, .int rc, .ref (b 22), .ref (b 23), .ref (b 24), .int 0, .int 0, .ref (b 27), .int rm, .ref (b 29), .int (-1), .ref (b 31), .ref (b 32), .int (-1), .ref (b 34), .ref (b 35), .int 0, .int 0, .ref (b 38), .ref (b 39), .ref (b 40), .ref (b 41), .ref (b 42), .ref (b 43), .ref (b 44), .ref (b 45), .ref (b 46), .ref (b 47), .int 0, .int 0, .ref (b 50), .ref (b 51), .ref (b 52), .ref (b 53), .ref (b 54), .int (-1), .int 0, .ref (b 57), .ref (b 58), .ref (b 59), .ref (b 60), .ref (b 61), .ref (b 62), .int 0, .int 0, .int 0]))]) [0] rfl
  have hKc := hK.sub (tys' := []) [] rfl
  refine va_calli (va_runV (As := [.int x]) (rest := []) ⟨hx, hb, hml, hown, htg⟩ (c_X11_isClerk l D b th sz at_ wr dp tx rd rc rm x) (cV 1 htg mw_64 kv_X11_isClerk rfl rfl ⟨(Nat.le_of_ble_eq_true rfl), (Nat.le_of_ble_eq_true rfl)⟩) ⟨bl_r, va_recv hKc hPc (ci := 11) (q0 := 0) rfl rfl, us_r hPc hKc⟩ rfl rfl hl.1 rfl (lv_room (Nat.le_of_ble_eq_true rfl)) dX11_clerk_2 ⟨(Nat.le_of_ble_eq_true rfl), (Nat.le_of_ble_eq_true rfl)⟩) hS (fun _ _ h9 => False.elim h9) (fun _ h9 => False.elim h9) (fun r_1 u t H locs ht hvm hw hB hz1 hk1 hS => ?_)
  have hP := ro_keep hP hk1
  subst hw
  refine lv_if_ne (tgt := 10) hx hb dX11_clerk_5 (by decide) (fun h9 => False.elim (h9 (by decide))) (fun _ => ?_)
  refine lv_iconst (v := (-1)) hx hb dX11_clerk_8 (by decide) ?_
  exact W.iret (v := (-1)) hx hb hr  (fun t ht hW => ⟨⟨(-1), (), rfl, rfl, trivial⟩, hS.F ht⟩) hS.2.2 dX11_clerk_9

set_option maxHeartbeats 4000000 in
set_option maxRecDepth 100000 in
theorem c_X11_law (l : Launch) (D : va_G) (b : Nat → Nat) (th sz at_ wr dp tx rd rc rm : Int32) (x : Int32) : Met l yX11_law (.code yX11_law cX11_law 2 (some .boolean) :: gw) ({ frames := 0, cells := 0, slots := 0, locals := 0 }) (va_Pc [.ref (b 0), .int x] (pr D [((b 0), .inr (11, [.int th, .ref (b 1), .int sz, .int at_, .int wr, .int dp, .ref (b 6), .ref (b 7), .ref (b 8), .ref (b 9), .ref (b 10), .ref (b 11), .ref (b 12), .int 0, .int tx, .ref (b 15), .ref (b 16), .ref (b 17), .ref (b 18), .ref (b 19), .int rd, .int rc, .ref (b 22), .ref (b 23), .ref (b 24), .int 0, .int 0, .ref (b 27), .int rm, .ref (b 29), .int (-1), .ref (b 31), .ref (b 32), .int (-1), .ref (b 34), .ref (b 35), .int 0, .int 0, .ref (b 38), .ref (b 39), .ref (b 40), .ref (b 41), .ref (b 42), .ref (b 43), .ref (b 44), .ref (b 45), .ref (b 46), .ref (b 47), .int 0, .int 0, .ref (b 50), .ref (b 51), .ref (b 52), .ref (b 53), .ref (b 54), .int (-1), .int 0, .ref (b 57), .ref (b 58), .ref (b 59), .ref (b 60), .ref (b 61), .ref (b 62), .int 0, .int 0, .int 0]))] [])) (va_Qi (fun r (_ : Unit) => r = 0) (fun _ _ => True) (fun _ => False)) 0 0 (fun _ => False) := by
  refine Met.ofW (cc := cX11_law) (maxL := 2) (ret := (some .boolean)) (by decide) rfl ?_
  intro p e s m args below meth c s₁ B hml hv
  obtain ⟨rfl, hP, hK⟩ := hv
  have hx := B.exec
  have hb := B.bytes
  have hr := B.returns
  have hts := atoms_spec (ws := .code yX11_law cX11_law 2 (some .boolean) :: gw) B.pre
  have htg := gw_tl hts
  have hown : s.vm.findClass RX11 = some m.cls := findClass_of_methodNamed B.named
  have hlocks := B.notSynchronized
  have hS : va_S (fun _ => False) s.heap s.heap [] := va_S.rf
  have hl := lv_entry ([.ref (b 0), .int x]) (n := 2) (Nat.le_of_ble_eq_true rfl)
  rw [lg_entry_eq]
  generalize (lg_sl ([.ref (b 0), .int x]) ++ List.replicate (2 - (lg_sl ([.ref (b 0), .int x])).length) Slot.unset).toArray = ls at hl ⊢
  have hl : lv_has ls 2 [(0, .ref (b 0)), (1, .int x)] := hl
  refine lv_aload_n hx hb dX11_law_0 rfl (lv_at hl 0 rfl) ?_
  refine va_get (D := D) (ci := 11) (v := .int 0) (C := RX11) (T := TX11) (N := 66) hx hb htg in_X11 hown hK hP 0 rfl rfl 25 (by decide) (htg _ mw_56) (fun _ h9 => h9) rfl dX11_law_1 ?_
  refine lv_if_eq (tgt := 26) hx hb dX11_law_4 (by decide) (fun _ => ?_) (fun h9 => False.elim (h9 (by decide)))
  refine lv_iconst (v := 0) hx hb dX11_law_26 (by decide) ?_
  exact W.zret (v := 0) hx hb hr (by first | rfl | decide | exact ar_nb _) (fun t ht hW => ⟨⟨0, (), rfl, rfl, trivial⟩, hS.F ht⟩) hS.2.2 dX11_law_27

set_option maxHeartbeats 4000000 in
set_option maxRecDepth 100000 in
theorem c_X11_let (l : Launch) (D : va_G) (b : Nat → Nat) (th sz at_ wr dp tx rd rc rm : Int32) (x y : Int32) : Met l yX11_let (.code yX11_let cX11_let 4 (some .int) :: gw) ({ frames := 3, cells := 0, slots := 0, locals := 120 }) (va_Pc [.ref (b 0), .int x, .int y] (pr D [((b 0), .inr (11, [.int th, .ref (b 1), .int sz, .int at_, .int wr, .int dp, .ref (b 6), .ref (b 7), .ref (b 8), .ref (b 9), .ref (b 10), .ref (b 11), .ref (b 12), .int 0, .int tx, .ref (b 15), .ref (b 16), .ref (b 17), .ref (b 18), .ref (b 19), .int rd, .int rc, .ref (b 22), .ref (b 23), .ref (b 24), .int 0, .int 0, .ref (b 27), .int rm, .ref (b 29), .int (-1), .ref (b 31), .ref (b 32), .int (-1), .ref (b 34), .ref (b 35), .int 0, .int 0, .ref (b 38), .ref (b 39), .ref (b 40), .ref (b 41), .ref (b 42), .ref (b 43), .ref (b 44), .ref (b 45), .ref (b 46), .ref (b 47), .int 0, .int 0, .ref (b 50), .ref (b 51), .ref (b 52), .ref (b 53), .ref (b 54), .int (-1), .int 0, .ref (b 57), .ref (b 58), .ref (b 59), .ref (b 60), .ref (b 61), .ref (b 62), .int 0, .int 0, .int 0]))] [])) (va_Qi (fun r (_ : Unit) => r = (-1)) (fun _ _ => True) (fun _ => False)) 0 0 (fun _ => False) := by
  refine Met.ofW (cc := cX11_let) (maxL := 4) (ret := (some .int)) (by decide) rfl ?_
  intro p e s m args below meth c s₁ B hml hv
  obtain ⟨rfl, hP, hK⟩ := hv
  have hx := B.exec
  have hb := B.bytes
  have hr := B.returns
  have hts := atoms_spec (ws := .code yX11_let cX11_let 4 (some .int) :: gw) B.pre
  have htg := gw_tl hts
  have hown : s.vm.findClass RX11 = some m.cls := findClass_of_methodNamed B.named
  have hlocks := B.notSynchronized
  have hS : va_S (fun _ => False) s.heap s.heap [] := va_S.rf
  have hl := lv_entry ([.ref (b 0), .int x, .int y]) (n := 4) (Nat.le_of_ble_eq_true rfl)
  rw [lg_entry_eq]
  generalize (lg_sl ([.ref (b 0), .int x, .int y]) ++ List.replicate (4 - (lg_sl ([.ref (b 0), .int x, .int y])).length) Slot.unset).toArray = ls at hl ⊢
  have hl : lv_has ls 4 [(0, .ref (b 0)), (1, .int x), (2, .int y)] := hl
  refine lv_aload_n hx hb dX11_let_0 rfl (lv_at hl 0 rfl) ?_
  refine lv_aload_n hx hb dX11_let_1 rfl (lv_at hl 0 rfl) ?_
  refine va_get (D := D) (ci := 11) (v := .ref (b 22)) (C := RX11) (T := TX11) (N := 66) hx hb htg in_X11 hown hK hP 0 rfl rfl 22 (by decide) (htg _ mw_69) (fun _ h9 => h9) rfl dX11_let_2 ?_
  refine lv_iload_n hx hb dX11_let_5 rfl (lv_at hl 1 rfl) ?_
  refine lv_iload_n hx hb dX11_let_6 rfl (lv_at hl 2 rfl) ?_
  have hPc := hP.sub (ws' := [((b 0), .inr (11, [.int th, .ref (b 1), .int sz, .int at_, .int wr, .int dp, .ref (b 6), .ref (b 7), .ref (b 8), .ref (b 9), .ref (b 10), .ref (b 11), .ref (b 12), .int 0, .int tx, .ref (b 15), .ref (b 16), .ref (b 17), .ref (b 18), .ref (b 19), .int rd, .int rc, .ref (b 22), .ref (b 23), .ref (b 24), .int 0, .int 0, .ref (b 27), .int rm, .ref (b 29), .int (-1), .ref (b 31), .ref (b 32), .int (-1), .ref (b 34), .ref (b 35), .int 0, .int 0, .ref (b 38), .ref (b 39), .ref (b 40), .ref (b 41), .ref (b 42), .ref (b 43), .ref (b 44), .ref (b 45), .ref (b 46), .ref (b 47), .int 0, .int 0, .ref (b 50), .ref (b 51), .ref (b 52), .ref (b 53), .ref (b 54), .int (-1), .int 0, .ref (b 57), .ref (b 58), .ref (b 59), .ref (b 60), .ref (b 61), .ref (b 62), .int 0, .int 0, .int 0]))]) [0] rfl
  have hKc := hK.sub (tys' := []) [] rfl
  refine va_calli (va_runV (As := [.ref (b 22), .int x, .int y]) (rest := []) ⟨hx, hb, hml, hown, htg⟩ (c_X11_bars l D b th sz at_ wr dp tx rd rc rm x y (b 22)) (cV 3 htg mw_73 kv_X11_bars rfl rfl ⟨(Nat.le_of_ble_eq_true rfl), (Nat.le_of_ble_eq_true rfl)⟩) ⟨bl_r, va_recv hKc hPc (ci := 11) (q0 := 0) rfl rfl, us_r hPc hKc⟩ rfl rfl hl.1 rfl (lv_room (Nat.le_of_ble_eq_true rfl)) dX11_let_7 ⟨(Nat.le_of_ble_eq_true rfl), (Nat.le_of_ble_eq_true rfl)⟩) hS (fun _ _ h9 => False.elim h9) (fun _ h9 => False.elim h9) (fun r_1 u t H locs ht hvm hw hB hz1 hk1 hS => ?_)
  have hP := ro_keep hP hk1
  subst hw
  refine lv_istore_n (lv' := [(3, .int 1), (0, .ref (b 0)), (1, .int x), (2, .int y)]) hx hb dX11_let_10 rfl hl (by decide) rfl (fun ls hl => ?_)
  refine lv_iload_n hx hb dX11_let_11 rfl (lv_at hl 0 rfl) ?_
  refine lv_if_ne (tgt := 19) hx hb dX11_let_12 (by decide) (fun _ => ?_) (fun h9 => absurd h9 (by decide))
  refine lv_iload_n hx hb dX11_let_19 rfl (lv_at hl 0 rfl) ?_
  refine lv_iconst (v := 4) hx hb dX11_let_20 (by decide) ?_
  refine lv_icmp_ne (tgt := 28) hx hb dX11_let_21 (by decide) (fun _ => ?_) (fun h9 => absurd h9 (by decide))
  refine lv_iconst (v := (-1)) hx hb dX11_let_28 (by decide) ?_
  exact W.iret (v := (-1)) hx hb hr  (fun t ht hW => ⟨⟨(-1), (), rfl, rfl, trivial⟩, hS.F ht⟩) hS.2.2 dX11_let_29

set_option maxHeartbeats 4000000 in
set_option maxRecDepth 100000 in
theorem c_X11_move (l : Launch) (D : va_G) (b : Nat → Nat) (th sz at_ wr dp tx rd rc rm : Int32) (x y : Int32) : Met l yX11_move (.code yX11_move cX11_move 5 (some .int) :: gw) ({ frames := 3, cells := 0, slots := 0, locals := 120 }) (va_Pc [.ref (b 0), .int x, .int y] (pr D [((b 0), .inr (11, [.int th, .ref (b 1), .int sz, .int at_, .int wr, .int dp, .ref (b 6), .ref (b 7), .ref (b 8), .ref (b 9), .ref (b 10), .ref (b 11), .ref (b 12), .int 0, .int tx, .ref (b 15), .ref (b 16), .ref (b 17), .ref (b 18), .ref (b 19), .int rd, .int rc, .ref (b 22), .ref (b 23), .ref (b 24), .int 0, .int 0, .ref (b 27), .int rm, .ref (b 29), .int (-1), .ref (b 31), .ref (b 32), .int (-1), .ref (b 34), .ref (b 35), .int 0, .int 0, .ref (b 38), .ref (b 39), .ref (b 40), .ref (b 41), .ref (b 42), .ref (b 43), .ref (b 44), .ref (b 45), .ref (b 46), .ref (b 47), .int 0, .int 0, .ref (b 50), .ref (b 51), .ref (b 52), .ref (b 53), .ref (b 54), .int (-1), .int 0, .ref (b 57), .ref (b 58), .ref (b 59), .ref (b 60), .ref (b 61), .ref (b 62), .int 0, .int 0, .int 0]))] [])) (va_Qi (fun r (_ : Unit) => r = (-1)) (fun _ _ => True) (fun _ => False)) 0 0 (fun _ => False) := by
  refine Met.ofW (cc := cX11_move) (maxL := 5) (ret := (some .int)) (by decide) rfl ?_
  intro p e s m args below meth c s₁ B hml hv
  obtain ⟨rfl, hP, hK⟩ := hv
  have hx := B.exec
  have hb := B.bytes
  have hr := B.returns
  have hts := atoms_spec (ws := .code yX11_move cX11_move 5 (some .int) :: gw) B.pre
  have htg := gw_tl hts
  have hown : s.vm.findClass RX11 = some m.cls := findClass_of_methodNamed B.named
  have hlocks := B.notSynchronized
  have hS : va_S (fun _ => False) s.heap s.heap [] := va_S.rf
  have hl := lv_entry ([.ref (b 0), .int x, .int y]) (n := 5) (Nat.le_of_ble_eq_true rfl)
  rw [lg_entry_eq]
  generalize (lg_sl ([.ref (b 0), .int x, .int y]) ++ List.replicate (5 - (lg_sl ([.ref (b 0), .int x, .int y])).length) Slot.unset).toArray = ls at hl ⊢
  have hl : lv_has ls 5 [(0, .ref (b 0)), (1, .int x), (2, .int y)] := hl
  refine lv_aload_n hx hb dX11_move_0 rfl (lv_at hl 0 rfl) ?_
  refine lv_aload_n hx hb dX11_move_1 rfl (lv_at hl 0 rfl) ?_
  refine va_get (D := D) (ci := 11) (v := .ref (b 22)) (C := RX11) (T := TX11) (N := 66) hx hb htg in_X11 hown hK hP 0 rfl rfl 22 (by decide) (htg _ mw_69) (fun _ h9 => h9) rfl dX11_move_2 ?_
  refine lv_iload_n hx hb dX11_move_5 rfl (lv_at hl 1 rfl) ?_
  refine lv_iload_n hx hb dX11_move_6 rfl (lv_at hl 2 rfl) ?_
  have hPc := hP.sub (ws' := [((b 0), .inr (11, [.int th, .ref (b 1), .int sz, .int at_, .int wr, .int dp, .ref (b 6), .ref (b 7), .ref (b 8), .ref (b 9), .ref (b 10), .ref (b 11), .ref (b 12), .int 0, .int tx, .ref (b 15), .ref (b 16), .ref (b 17), .ref (b 18), .ref (b 19), .int rd, .int rc, .ref (b 22), .ref (b 23), .ref (b 24), .int 0, .int 0, .ref (b 27), .int rm, .ref (b 29), .int (-1), .ref (b 31), .ref (b 32), .int (-1), .ref (b 34), .ref (b 35), .int 0, .int 0, .ref (b 38), .ref (b 39), .ref (b 40), .ref (b 41), .ref (b 42), .ref (b 43), .ref (b 44), .ref (b 45), .ref (b 46), .ref (b 47), .int 0, .int 0, .ref (b 50), .ref (b 51), .ref (b 52), .ref (b 53), .ref (b 54), .int (-1), .int 0, .ref (b 57), .ref (b 58), .ref (b 59), .ref (b 60), .ref (b 61), .ref (b 62), .int 0, .int 0, .int 0]))]) [0] rfl
  have hKc := hK.sub (tys' := []) [] rfl
  refine va_calli (va_runV (As := [.ref (b 22), .int x, .int y]) (rest := []) ⟨hx, hb, hml, hown, htg⟩ (c_X11_bars l D b th sz at_ wr dp tx rd rc rm x y (b 22)) (cV 3 htg mw_73 kv_X11_bars rfl rfl ⟨(Nat.le_of_ble_eq_true rfl), (Nat.le_of_ble_eq_true rfl)⟩) ⟨bl_r, va_recv hKc hPc (ci := 11) (q0 := 0) rfl rfl, us_r hPc hKc⟩ rfl rfl hl.1 rfl (lv_room (Nat.le_of_ble_eq_true rfl)) dX11_move_7 ⟨(Nat.le_of_ble_eq_true rfl), (Nat.le_of_ble_eq_true rfl)⟩) hS (fun _ _ h9 => False.elim h9) (fun _ h9 => False.elim h9) (fun r_1 u t H locs ht hvm hw hB hz1 hk1 hS => ?_)
  have hP := ro_keep hP hk1
  subst hw
  refine lv_if_eq (tgt := 15) hx hb dX11_move_10 (by decide) (fun h9 => absurd h9 (by decide)) (fun _ => ?_)
  refine lv_iconst (v := (-1)) hx hb dX11_move_13 (by decide) ?_
  exact W.iret (v := (-1)) hx hb hr  (fun t ht hW => ⟨⟨(-1), (), rfl, rfl, trivial⟩, hS.F ht⟩) hS.2.2 dX11_move_14

set_option maxHeartbeats 4000000 in
set_option maxRecDepth 100000 in
theorem c_X11_undo (l : Launch) (D : va_G) (b : Nat → Nat) (th sz at_ wr dp tx rd rc rm : Int32)  : Met l yX11_undo (.code yX11_undo cX11_undo 2 (some .int) :: gw) ({ frames := 0, cells := 0, slots := 0, locals := 0 }) (va_Pc [.ref (b 0)] (pr D [((b 0), .inr (11, [.int th, .ref (b 1), .int sz, .int at_, .int wr, .int dp, .ref (b 6), .ref (b 7), .ref (b 8), .ref (b 9), .ref (b 10), .ref (b 11), .ref (b 12), .int 0, .int tx, .ref (b 15), .ref (b 16), .ref (b 17), .ref (b 18), .ref (b 19), .int rd, .int rc, .ref (b 22), .ref (b 23), .ref (b 24), .int 0, .int 0, .ref (b 27), .int rm, .ref (b 29), .int (-1), .ref (b 31), .ref (b 32), .int (-1), .ref (b 34), .ref (b 35), .int 0, .int 0, .ref (b 38), .ref (b 39), .ref (b 40), .ref (b 41), .ref (b 42), .ref (b 43), .ref (b 44), .ref (b 45), .ref (b 46), .ref (b 47), .int 0, .int 0, .ref (b 50), .ref (b 51), .ref (b 52), .ref (b 53), .ref (b 54), .int (-1), .int 0, .ref (b 57), .ref (b 58), .ref (b 59), .ref (b 60), .ref (b 61), .ref (b 62), .int 0, .int 0, .int 0]))] [])) (va_Qi (fun r (_ : Unit) => r = (-1)) (fun _ _ => True) (fun _ => False)) 0 0 (fun _ => False) := by
  refine Met.ofW (cc := cX11_undo) (maxL := 2) (ret := (some .int)) (by decide) rfl ?_
  intro p e s m args below meth c s₁ B hml hv
  obtain ⟨rfl, hP, hK⟩ := hv
  have hx := B.exec
  have hb := B.bytes
  have hr := B.returns
  have hts := atoms_spec (ws := .code yX11_undo cX11_undo 2 (some .int) :: gw) B.pre
  have htg := gw_tl hts
  have hown : s.vm.findClass RX11 = some m.cls := findClass_of_methodNamed B.named
  have hlocks := B.notSynchronized
  have hS : va_S (fun _ => False) s.heap s.heap [] := va_S.rf
  have hl := lv_entry ([.ref (b 0)]) (n := 2) (Nat.le_of_ble_eq_true rfl)
  rw [lg_entry_eq]
  generalize (lg_sl ([.ref (b 0)]) ++ List.replicate (2 - (lg_sl ([.ref (b 0)])).length) Slot.unset).toArray = ls at hl ⊢
  have hl : lv_has ls 2 [(0, .ref (b 0))] := hl
  refine lv_aload_n hx hb dX11_undo_0 rfl (lv_at hl 0 rfl) ?_
  refine va_get (D := D) (ci := 11) (v := .int 0) (C := RX11) (T := TX11) (N := 66) hx hb htg in_X11 hown hK hP 0 rfl rfl 37 (by decide) (htg _ mw_74) (fun _ h9 => h9) rfl dX11_undo_1 ?_
  refine lv_if_ne (tgt := 9) hx hb dX11_undo_4 (by decide) (fun h9 => False.elim (h9 (by decide))) (fun _ => ?_)
  refine lv_iconst (v := (-1)) hx hb dX11_undo_7 (by decide) ?_
  exact W.iret (v := (-1)) hx hb hr  (fun t ht hW => ⟨⟨(-1), (), rfl, rfl, trivial⟩, hS.F ht⟩) hS.2.2 dX11_undo_8

set_option maxHeartbeats 4000000 in
set_option maxRecDepth 100000 in
theorem c_X11_diary (l : Launch) (D : va_G) (b : Nat → Nat) (th sz at_ wr dp tx rd rc rm : Int32) (x : Int32) : Met l yX11_diary (.code yX11_diary cX11_diary 2 (some .int) :: gw) ({ frames := 1, cells := 0, slots := 0, locals := 40 }) (va_Pc [.ref (b 0), .int x] (pr D [((b 0), .inr (11, [.int th, .ref (b 1), .int sz, .int at_, .int wr, .int dp, .ref (b 6), .ref (b 7), .ref (b 8), .ref (b 9), .ref (b 10), .ref (b 11), .ref (b 12), .int 0, .int tx, .ref (b 15), .ref (b 16), .ref (b 17), .ref (b 18), .ref (b 19), .int rd, .int rc, .ref (b 22), .ref (b 23), .ref (b 24), .int 0, .int 0, .ref (b 27), .int rm, .ref (b 29), .int (-1), .ref (b 31), .ref (b 32), .int (-1), .ref (b 34), .ref (b 35), .int 0, .int 0, .ref (b 38), .ref (b 39), .ref (b 40), .ref (b 41), .ref (b 42), .ref (b 43), .ref (b 44), .ref (b 45), .ref (b 46), .ref (b 47), .int 0, .int 0, .ref (b 50), .ref (b 51), .ref (b 52), .ref (b 53), .ref (b 54), .int (-1), .int 0, .ref (b 57), .ref (b 58), .ref (b 59), .ref (b 60), .ref (b 61), .ref (b 62), .int 0, .int 0, .int 0]))] [])) (va_Qi (fun r (_ : Unit) => r = (-1)) (fun _ _ => True) (fun _ => False)) 0 0 (fun _ => False) := by
  refine Met.ofW (cc := cX11_diary) (maxL := 2) (ret := (some .int)) (by decide) rfl ?_
  intro p e s m args below meth c s₁ B hml hv
  obtain ⟨rfl, hP, hK⟩ := hv
  have hx := B.exec
  have hb := B.bytes
  have hr := B.returns
  have hts := atoms_spec (ws := .code yX11_diary cX11_diary 2 (some .int) :: gw) B.pre
  have htg := gw_tl hts
  have hown : s.vm.findClass RX11 = some m.cls := findClass_of_methodNamed B.named
  have hlocks := B.notSynchronized
  have hS : va_S (fun _ => False) s.heap s.heap [] := va_S.rf
  have hl := lv_entry ([.ref (b 0), .int x]) (n := 2) (Nat.le_of_ble_eq_true rfl)
  rw [lg_entry_eq]
  generalize (lg_sl ([.ref (b 0), .int x]) ++ List.replicate (2 - (lg_sl ([.ref (b 0), .int x])).length) Slot.unset).toArray = ls at hl ⊢
  have hl : lv_has ls 2 [(0, .ref (b 0)), (1, .int x)] := hl
  refine lv_iload_n hx hb dX11_diary_0 rfl (lv_at hl 1 rfl) ?_
  refine lv_iconst (v := 0) hx hb dX11_diary_1 (by decide) ?_
  refine lv_aload_n hx hb dX11_diary_2 rfl (lv_at hl 0 rfl) ?_
  refine va_get (D := D) (ci := 11) (v := .int 0) (C := RX11) (T := TX11) (N := 66) hx hb htg in_X11 hown hK hP 0 rfl rfl 37 (by decide) (htg _ mw_74) (fun _ h9 => h9) rfl dX11_diary_3 ?_
  refine lv_iconst (v := 1) hx hb dX11_diary_6 (by decide) ?_
  refine lv_isub hx hb dX11_diary_7 ?_
  refine lv_val (y := (-1)) (by decide) ?_
  have hPc := hP.sub (ws' := []) [] rfl
  have hKc := hK.sub (tys' := []) [] rfl
  refine va_calli (va_runS (As := [.int x, .int 0, .int (-1)]) (rest := []) ⟨hx, hb, hml, hown, htg⟩ (c_X11_in l D x 0 (-1)) (cS 3 htg mw_60 kv_X11_in rfl rfl ⟨(Nat.le_of_ble_eq_true rfl), (Nat.le_of_ble_eq_true rfl)⟩) ⟨bl_r, us_r hPc hKc⟩ rfl rfl hl.1 rfl (lv_room (Nat.le_of_ble_eq_true rfl)) dX11_diary_8 ⟨(Nat.le_of_ble_eq_true rfl), (Nat.le_of_ble_eq_true rfl)⟩) hS (fun _ _ h9 => False.elim h9) (fun _ h9 => False.elim h9) (fun r_1 u t H locs ht hvm hw hB hz1 hk1 hS => ?_)
  have hP := ro_keep hP hk1
  subst hw
  refine lv_val (y := 0) (md_in_e _) ?_
  refine lv_if_eq (tgt := 31) hx hb dX11_diary_11 (by decide) (fun _ => ?_) (fun h9 => False.elim (h9 (by decide)))
  refine lv_iconst (v := (-1)) hx hb dX11_diary_31 (by decide) ?_
  exact W.iret (v := (-1)) hx hb hr  (fun t ht hW => ⟨⟨(-1), (), rfl, rfl, trivial⟩, hS.F ht⟩) hS.2.2 dX11_diary_32

set_option maxHeartbeats 4000000 in
set_option maxRecDepth 100000 in
theorem c_X11_judge (l : Launch) (D : va_G) (b : Nat → Nat) (th sz at_ wr dp tx rd rc rm : Int32) (x y : Int32) : Met l yX11_judge (.code yX11_judge cX11_judge 11 (some .int) :: gw) ({ frames := 0, cells := 0, slots := 0, locals := 0 }) (va_Pc [.ref (b 0), .int x, .int y] (pr D [((b 0), .inr (11, [.int th, .ref (b 1), .int sz, .int at_, .int wr, .int dp, .ref (b 6), .ref (b 7), .ref (b 8), .ref (b 9), .ref (b 10), .ref (b 11), .ref (b 12), .int 0, .int tx, .ref (b 15), .ref (b 16), .ref (b 17), .ref (b 18), .ref (b 19), .int rd, .int rc, .ref (b 22), .ref (b 23), .ref (b 24), .int 0, .int 0, .ref (b 27), .int rm, .ref (b 29), .int (-1), .ref (b 31), .ref (b 32), .int (-1), .ref (b 34), .ref (b 35), .int 0, .int 0, .ref (b 38), .ref (b 39), .ref (b 40), .ref (b 41), .ref (b 42), .ref (b 43), .ref (b 44), .ref (b 45), .ref (b 46), .ref (b 47), .int 0, .int 0, .ref (b 50), .ref (b 51), .ref (b 52), .ref (b 53), .ref (b 54), .int (-1), .int 0, .ref (b 57), .ref (b 58), .ref (b 59), .ref (b 60), .ref (b 61), .ref (b 62), .int 0, .int 0, .int 0]))] [])) (va_Qi (fun r (_ : Unit) => r = (-1000000)) (fun _ _ => True) (fun _ => False)) 0 0 (fun _ => False) := by
  refine Met.ofW (cc := cX11_judge) (maxL := 11) (ret := (some .int)) (by decide) rfl ?_
  intro p e s m args below meth c s₁ B hml hv
  obtain ⟨rfl, hP, hK⟩ := hv
  have hx := B.exec
  have hb := B.bytes
  have hr := B.returns
  have hts := atoms_spec (ws := .code yX11_judge cX11_judge 11 (some .int) :: gw) B.pre
  have htg := gw_tl hts
  have hown : s.vm.findClass RX11 = some m.cls := findClass_of_methodNamed B.named
  have hlocks := B.notSynchronized
  have hS : va_S (fun _ => False) s.heap s.heap [] := va_S.rf
  have hl := lv_entry ([.ref (b 0), .int x, .int y]) (n := 11) (Nat.le_of_ble_eq_true rfl)
  rw [lg_entry_eq]
  generalize (lg_sl ([.ref (b 0), .int x, .int y]) ++ List.replicate (11 - (lg_sl ([.ref (b 0), .int x, .int y])).length) Slot.unset).toArray = ls at hl ⊢
  have hl : lv_has ls 11 [(0, .ref (b 0)), (1, .int x), (2, .int y)] := hl
  refine lv_aload_n hx hb dX11_judge_0 rfl (lv_at hl 0 rfl) ?_
  refine va_get (D := D) (ci := 11) (v := .int (-1)) (C := RX11) (T := TX11) (N := 66) hx hb htg in_X11 hown hK hP 0 rfl rfl 30 (by decide) (htg _ mw_75) (fun _ h9 => h9) rfl dX11_judge_1 ?_
  refine lv_iconst (v := (-1)) hx hb dX11_judge_4 (by decide) ?_
  refine lv_icmp_eq (tgt := 27) hx hb dX11_judge_5 (by decide) (fun _ => ?_) (fun h9 => False.elim (h9 (by decide)))
  refine lv_ldcw (v := (-1000000)) hx hb hown (htg _ mw_76) dX11_judge_27 ?_
  exact W.iret (v := (-1000000)) hx hb hr  (fun t ht hW => ⟨⟨(-1000000), (), rfl, rfl, trivial⟩, hS.F ht⟩) hS.2.2 dX11_judge_30

set_option maxHeartbeats 4000000 in
set_option maxRecDepth 100000 in
theorem c_X11_wish (l : Launch) (D : va_G) (b : Nat → Nat) (th sz at_ wr dp tx rd rc rm : Int32) (x y : Int32) : Met l yX11_wish (.code yX11_wish cX11_wish 4 (some .boolean) :: gw) ({ frames := 2, cells := 0, slots := 0, locals := 80 }) (va_Pc [.ref (b 0), .int x, .int y] (pr D [((b 0), .inr (11, [.int th, .ref (b 1), .int sz, .int at_, .int wr, .int dp, .ref (b 6), .ref (b 7), .ref (b 8), .ref (b 9), .ref (b 10), .ref (b 11), .ref (b 12), .int 0, .int tx, .ref (b 15), .ref (b 16), .ref (b 17), .ref (b 18), .ref (b 19), .int rd, .int rc, .ref (b 22), .ref (b 23), .ref (b 24), .int 0, .int 0, .ref (b 27), .int rm, .ref (b 29), .int (-1), .ref (b 31), .ref (b 32), .int (-1), .ref (b 34), .ref (b 35), .int 0, .int 0, .ref (b 38), .ref (b 39), .ref (b 40), .ref (b 41), .ref (b 42), .ref (b 43), .ref (b 44), .ref (b 45), .ref (b 46), .ref (b 47), .int 0, .int 0, .ref (b 50), .ref (b 51), .ref (b 52), .ref (b 53), .ref (b 54), .int (-1), .int 0, .ref (b 57), .ref (b 58), .ref (b 59), .ref (b 60), .ref (b 61), .ref (b 62), .int 0, .int 0, .int 0]))] [])) (va_Qi (fun r (_ : Unit) => r = 0) (fun _ _ => True) (fun _ => False)) 0 0 (fun _ => False) := by
  refine Met.ofW (cc := cX11_wish) (maxL := 4) (ret := (some .boolean)) (by decide) rfl ?_
  intro p e s m args below meth c s₁ B hml hv
  obtain ⟨rfl, hP, hK⟩ := hv
  have hx := B.exec
  have hb := B.bytes
  have hr := B.returns
  have hts := atoms_spec (ws := .code yX11_wish cX11_wish 4 (some .boolean) :: gw) B.pre
  have htg := gw_tl hts
  have hown : s.vm.findClass RX11 = some m.cls := findClass_of_methodNamed B.named
  have hlocks := B.notSynchronized
  have hS : va_S (fun _ => False) s.heap s.heap [] := va_S.rf
  have hl := lv_entry ([.ref (b 0), .int x, .int y]) (n := 4) (Nat.le_of_ble_eq_true rfl)
  rw [lg_entry_eq]
  generalize (lg_sl ([.ref (b 0), .int x, .int y]) ++ List.replicate (4 - (lg_sl ([.ref (b 0), .int x, .int y])).length) Slot.unset).toArray = ls at hl ⊢
  have hl : lv_has ls 4 [(0, .ref (b 0)), (1, .int x), (2, .int y)] := hl
  refine lv_aload_n hx hb dX11_wish_0 rfl (lv_at hl 0 rfl) ?_
  refine lv_iload_n hx hb dX11_wish_1 rfl (lv_at hl 1 rfl) ?_
  have hPc := hP.sub (ws' := [((b 0), .inr (11, [.int th, .ref (b 1), .int sz, .int at_, .int wr, .int dp, .ref (b 6), .ref (b 7), .ref (b 8), .ref (b 9), .ref (b 10), .ref (b 11), .ref (b 12), .int 0, .int tx, .ref (b 15), .ref (b 16), .ref (b 17), .ref (b 18), .ref (b 19), .int rd, .int rc, .ref (b 22), .ref (b 23), .ref (b 24), .int 0, .int 0, .ref (b 27), .int rm, .ref (b 29), .int (-1), .ref (b 31), .ref (b 32), .int (-1), .ref (b 34), .ref (b 35), .int 0, .int 0, .ref (b 38), .ref (b 39), .ref (b 40), .ref (b 41), .ref (b 42), .ref (b 43), .ref (b 44), .ref (b 45), .ref (b 46), .ref (b 47), .int 0, .int 0, .ref (b 50), .ref (b 51), .ref (b 52), .ref (b 53), .ref (b 54), .int (-1), .int 0, .ref (b 57), .ref (b 58), .ref (b 59), .ref (b 60), .ref (b 61), .ref (b 62), .int 0, .int 0, .int 0]))]) [0] rfl
  have hKc := hK.sub (tys' := []) [] rfl
  refine va_calli (va_runV (As := [.int x]) (rest := []) ⟨hx, hb, hml, hown, htg⟩ (c_X11_isDesk l D b th sz at_ wr dp tx rd rc rm x) (cV 1 htg mw_68 kv_X11_isDesk rfl rfl ⟨(Nat.le_of_ble_eq_true rfl), (Nat.le_of_ble_eq_true rfl)⟩) ⟨bl_r, va_recv hKc hPc (ci := 11) (q0 := 0) rfl rfl, us_r hPc hKc⟩ rfl rfl hl.1 rfl (lv_room (Nat.le_of_ble_eq_true rfl)) dX11_wish_2 ⟨(Nat.le_of_ble_eq_true rfl), (Nat.le_of_ble_eq_true rfl)⟩) hS (fun _ _ h9 => False.elim h9) (fun _ h9 => False.elim h9) (fun r_1 u t H locs ht hvm hw hB hz1 hk1 hS => ?_)
  have hP := ro_keep hP hk1
  subst hw
  refine lv_if_eq (tgt := 27) hx hb dX11_wish_5 (by decide) (fun _ => ?_) (fun h9 => False.elim (h9 (by decide)))
  refine lv_iconst (v := 0) hx hb dX11_wish_27 (by decide) ?_
  exact W.zret (v := 0) hx hb hr (by first | rfl | decide | exact ar_nb _) (fun t ht hW => ⟨⟨0, (), rfl, rfl, trivial⟩, hS.F ht⟩) hS.2.2 dX11_wish_28

set_option maxHeartbeats 4000000 in
set_option maxRecDepth 100000 in
theorem c_X11_done (l : Launch) (D : va_G) (b : Nat → Nat) (th sz at_ wr dp tx rd rc rm : Int32)  : Met l yX11_done (.code yX11_done cX11_done 1 (some .int) :: gw) ({ frames := 0, cells := 0, slots := 0, locals := 0 }) (va_Pc [.ref (b 0)] (pr D [((b 0), .inr (11, [.int th, .ref (b 1), .int sz, .int at_, .int wr, .int dp, .ref (b 6), .ref (b 7), .ref (b 8), .ref (b 9), .ref (b 10), .ref (b 11), .ref (b 12), .int 0, .int tx, .ref (b 15), .ref (b 16), .ref (b 17), .ref (b 18), .ref (b 19), .int rd, .int rc, .ref (b 22), .ref (b 23), .ref (b 24), .int 0, .int 0, .ref (b 27), .int rm, .ref (b 29), .int (-1), .ref (b 31), .ref (b 32), .int (-1), .ref (b 34), .ref (b 35), .int 0, .int 0, .ref (b 38), .ref (b 39), .ref (b 40), .ref (b 41), .ref (b 42), .ref (b 43), .ref (b 44), .ref (b 45), .ref (b 46), .ref (b 47), .int 0, .int 0, .ref (b 50), .ref (b 51), .ref (b 52), .ref (b 53), .ref (b 54), .int (-1), .int 0, .ref (b 57), .ref (b 58), .ref (b 59), .ref (b 60), .ref (b 61), .ref (b 62), .int 0, .int 0, .int 0]))] [])) (va_Qi (fun r (_ : Unit) => r = (-1)) (fun _ _ => True) (fun _ => False)) 0 0 (fun _ => False) := by
  refine Met.ofW (cc := cX11_done) (maxL := 1) (ret := (some .int)) (by decide) rfl ?_
  intro p e s m args below meth c s₁ B hml hv
  obtain ⟨rfl, hP, hK⟩ := hv
  have hx := B.exec
  have hb := B.bytes
  have hr := B.returns
  have hts := atoms_spec (ws := .code yX11_done cX11_done 1 (some .int) :: gw) B.pre
  have htg := gw_tl hts
  have hown : s.vm.findClass RX11 = some m.cls := findClass_of_methodNamed B.named
  have hlocks := B.notSynchronized
  have hS : va_S (fun _ => False) s.heap s.heap [] := va_S.rf
  have hl := lv_entry ([.ref (b 0)]) (n := 1) (Nat.le_of_ble_eq_true rfl)
  rw [lg_entry_eq]
  generalize (lg_sl ([.ref (b 0)]) ++ List.replicate (1 - (lg_sl ([.ref (b 0)])).length) Slot.unset).toArray = ls at hl ⊢
  have hl : lv_has ls 1 [(0, .ref (b 0))] := hl
  refine lv_aload_n hx hb dX11_done_0 rfl (lv_at hl 0 rfl) ?_
  refine va_get (D := D) (ci := 11) (v := .int 0) (C := RX11) (T := TX11) (N := 66) hx hb htg in_X11 hown hK hP 0 rfl rfl 25 (by decide) (htg _ mw_56) (fun _ h9 => h9) rfl dX11_done_1 ?_
  refine lv_if_ne (tgt := 11) hx hb dX11_done_4 (by decide) (fun h9 => False.elim (h9 (by decide))) (fun _ => ?_)
  refine lv_iconst (v := (-1)) hx hb dX11_done_7 (by decide) ?_
  refine lv_goto (tgt := 29) hx hb dX11_done_8 (by decide) ?_
  exact W.iret (v := (-1)) hx hb hr  (fun t ht hW => ⟨⟨(-1), (), rfl, rfl, trivial⟩, hS.F ht⟩) hS.2.2 dX11_done_29

set_option maxHeartbeats 4000000 in
set_option maxRecDepth 100000 in
theorem c_X11_fewest (l : Launch) (D : va_G) (b : Nat → Nat) (th sz at_ wr dp tx rd rc rm : Int32) (x : Int32) : Met l yX11_fewest (.code yX11_fewest cX11_fewest 5 (some .int) :: gw) ({ frames := 2, cells := 0, slots := 0, locals := 80 }) (va_Pc [.ref (b 0), .int x] (pr D [((b 0), .inr (11, [.int th, .ref (b 1), .int sz, .int at_, .int wr, .int dp, .ref (b 6), .ref (b 7), .ref (b 8), .ref (b 9), .ref (b 10), .ref (b 11), .ref (b 12), .int 0, .int tx, .ref (b 15), .ref (b 16), .ref (b 17), .ref (b 18), .ref (b 19), .int rd, .int rc, .ref (b 22), .ref (b 23), .ref (b 24), .int 0, .int 0, .ref (b 27), .int rm, .ref (b 29), .int (-1), .ref (b 31), .ref (b 32), .int (-1), .ref (b 34), .ref (b 35), .int 0, .int 0, .ref (b 38), .ref (b 39), .ref (b 40), .ref (b 41), .ref (b 42), .ref (b 43), .ref (b 44), .ref (b 45), .ref (b 46), .ref (b 47), .int 0, .int 0, .ref (b 50), .ref (b 51), .ref (b 52), .ref (b 53), .ref (b 54), .int (-1), .int 0, .ref (b 57), .ref (b 58), .ref (b 59), .ref (b 60), .ref (b 61), .ref (b 62), .int 0, .int 0, .int 0]))] [])) (va_Qi (fun r (_ : Unit) => r = (-1000000)) (fun _ _ => True) (fun _ => False)) 0 0 (fun _ => False) := by
  refine Met.ofW (cc := cX11_fewest) (maxL := 5) (ret := (some .int)) (by decide) rfl ?_
  intro p e s m args below meth c s₁ B hml hv
  obtain ⟨rfl, hP, hK⟩ := hv
  have hx := B.exec
  have hb := B.bytes
  have hr := B.returns
  have hts := atoms_spec (ws := .code yX11_fewest cX11_fewest 5 (some .int) :: gw) B.pre
  have htg := gw_tl hts
  have hown : s.vm.findClass RX11 = some m.cls := findClass_of_methodNamed B.named
  have hlocks := B.notSynchronized
  have hS : va_S (fun _ => False) s.heap s.heap [] := va_S.rf
  have hl := lv_entry ([.ref (b 0), .int x]) (n := 5) (Nat.le_of_ble_eq_true rfl)
  rw [lg_entry_eq]
  generalize (lg_sl ([.ref (b 0), .int x]) ++ List.replicate (5 - (lg_sl ([.ref (b 0), .int x])).length) Slot.unset).toArray = ls at hl ⊢
  have hl : lv_has ls 5 [(0, .ref (b 0)), (1, .int x)] := hl
  refine lv_aload_n hx hb dX11_fewest_0 rfl (lv_at hl 0 rfl) ?_
  have hPc := hP.sub (ws' := [((b 0), .inr (11, [.int th, .ref (b 1), .int sz, .int at_, .int wr, .int dp, .ref (b 6), .ref (b 7), .ref (b 8), .ref (b 9), .ref (b 10), .ref (b 11), .ref (b 12), .int 0, .int tx, .ref (b 15), .ref (b 16), .ref (b 17), .ref (b 18), .ref (b 19), .int rd, .int rc, .ref (b 22), .ref (b 23), .ref (b 24), .int 0, .int 0, .ref (b 27), .int rm, .ref (b 29), .int (-1), .ref (b 31), .ref (b 32), .int (-1), .ref (b 34), .ref (b 35), .int 0, .int 0, .ref (b 38), .ref (b 39), .ref (b 40), .ref (b 41), .ref (b 42), .ref (b 43), .ref (b 44), .ref (b 45), .ref (b 46), .ref (b 47), .int 0, .int 0, .ref (b 50), .ref (b 51), .ref (b 52), .ref (b 53), .ref (b 54), .int (-1), .int 0, .ref (b 57), .ref (b 58), .ref (b 59), .ref (b 60), .ref (b 61), .ref (b 62), .int 0, .int 0, .int 0]))]) [0] rfl
  have hKc := hK.sub (tys' := []) [] rfl
  refine va_calli (va_runV (As := []) (rest := []) ⟨hx, hb, hml, hown, htg⟩ (c_X11_isSmall l D b th sz at_ wr dp tx rd rc rm) (cV 0 htg mw_80 kv_X11_isSmall rfl rfl ⟨(Nat.le_of_ble_eq_true rfl), (Nat.le_of_ble_eq_true rfl)⟩) ⟨bl_r, va_recv hKc hPc (ci := 11) (q0 := 0) rfl rfl, us_r hPc hKc⟩ rfl rfl hl.1 rfl (lv_room (Nat.le_of_ble_eq_true rfl)) dX11_fewest_1 ⟨(Nat.le_of_ble_eq_true rfl), (Nat.le_of_ble_eq_true rfl)⟩) hS (fun _ _ h9 => False.elim h9) (fun _ h9 => False.elim h9) (fun r_1 u t H locs ht hvm hw hB hz1 hk1 hS => ?_)
  have hP := ro_keep hP hk1
  subst hw
  refine lv_if_ne (tgt := 11) hx hb dX11_fewest_4 (by decide) (fun h9 => False.elim (h9 (by decide))) (fun _ => ?_)
  refine lv_ldcw (v := (-1000000)) hx hb hown (htg _ mw_76) dX11_fewest_7 ?_
  exact W.iret (v := (-1000000)) hx hb hr  (fun t ht hW => ⟨⟨(-1000000), (), rfl, rfl, trivial⟩, hS.F ht⟩) hS.2.2 dX11_fewest_10

set_option maxHeartbeats 4000000 in
set_option maxRecDepth 100000 in
theorem c_X11_cheapest (l : Launch) (D : va_G) (b : Nat → Nat) (th sz at_ wr dp tx rd rc rm : Int32)  : Met l yX11_cheapest (.code yX11_cheapest cX11_cheapest 1 (some .int) :: gw) ({ frames := 2, cells := 0, slots := 0, locals := 80 }) (va_Pc [.ref (b 0)] (pr D [((b 0), .inr (11, [.int th, .ref (b 1), .int sz, .int at_, .int wr, .int dp, .ref (b 6), .ref (b 7), .ref (b 8), .ref (b 9), .ref (b 10), .ref (b 11), .ref (b 12), .int 0, .int tx, .ref (b 15), .ref (b 16), .ref (b 17), .ref (b 18), .ref (b 19), .int rd, .int rc, .ref (b 22), .ref (b 23), .ref (b 24), .int 0, .int 0, .ref (b 27), .int rm, .ref (b 29), .int (-1), .ref (b 31), .ref (b 32), .int (-1), .ref (b 34), .ref (b 35), .int 0, .int 0, .ref (b 38), .ref (b 39), .ref (b 40), .ref (b 41), .ref (b 42), .ref (b 43), .ref (b 44), .ref (b 45), .ref (b 46), .ref (b 47), .int 0, .int 0, .ref (b 50), .ref (b 51), .ref (b 52), .ref (b 53), .ref (b 54), .int (-1), .int 0, .ref (b 57), .ref (b 58), .ref (b 59), .ref (b 60), .ref (b 61), .ref (b 62), .int 0, .int 0, .int 0]))] [])) (va_Qi (fun r (_ : Unit) => r = (-1000000)) (fun _ _ => True) (fun _ => False)) 0 0 (fun _ => False) := by
  refine Met.ofW (cc := cX11_cheapest) (maxL := 1) (ret := (some .int)) (by decide) rfl ?_
  intro p e s m args below meth c s₁ B hml hv
  obtain ⟨rfl, hP, hK⟩ := hv
  have hx := B.exec
  have hb := B.bytes
  have hr := B.returns
  have hts := atoms_spec (ws := .code yX11_cheapest cX11_cheapest 1 (some .int) :: gw) B.pre
  have htg := gw_tl hts
  have hown : s.vm.findClass RX11 = some m.cls := findClass_of_methodNamed B.named
  have hlocks := B.notSynchronized
  have hS : va_S (fun _ => False) s.heap s.heap [] := va_S.rf
  have hl := lv_entry ([.ref (b 0)]) (n := 1) (Nat.le_of_ble_eq_true rfl)
  rw [lg_entry_eq]
  generalize (lg_sl ([.ref (b 0)]) ++ List.replicate (1 - (lg_sl ([.ref (b 0)])).length) Slot.unset).toArray = ls at hl ⊢
  have hl : lv_has ls 1 [(0, .ref (b 0))] := hl
  refine lv_aload_n hx hb dX11_cheapest_0 rfl (lv_at hl 0 rfl) ?_
  have hPc := hP.sub (ws' := [((b 0), .inr (11, [.int th, .ref (b 1), .int sz, .int at_, .int wr, .int dp, .ref (b 6), .ref (b 7), .ref (b 8), .ref (b 9), .ref (b 10), .ref (b 11), .ref (b 12), .int 0, .int tx, .ref (b 15), .ref (b 16), .ref (b 17), .ref (b 18), .ref (b 19), .int rd, .int rc, .ref (b 22), .ref (b 23), .ref (b 24), .int 0, .int 0, .ref (b 27), .int rm, .ref (b 29), .int (-1), .ref (b 31), .ref (b 32), .int (-1), .ref (b 34), .ref (b 35), .int 0, .int 0, .ref (b 38), .ref (b 39), .ref (b 40), .ref (b 41), .ref (b 42), .ref (b 43), .ref (b 44), .ref (b 45), .ref (b 46), .ref (b 47), .int 0, .int 0, .ref (b 50), .ref (b 51), .ref (b 52), .ref (b 53), .ref (b 54), .int (-1), .int 0, .ref (b 57), .ref (b 58), .ref (b 59), .ref (b 60), .ref (b 61), .ref (b 62), .int 0, .int 0, .int 0]))]) [0] rfl
  have hKc := hK.sub (tys' := []) [] rfl
  refine va_calli (va_runV (As := []) (rest := []) ⟨hx, hb, hml, hown, htg⟩ (c_X11_isSmall l D b th sz at_ wr dp tx rd rc rm) (cV 0 htg mw_80 kv_X11_isSmall rfl rfl ⟨(Nat.le_of_ble_eq_true rfl), (Nat.le_of_ble_eq_true rfl)⟩) ⟨bl_r, va_recv hKc hPc (ci := 11) (q0 := 0) rfl rfl, us_r hPc hKc⟩ rfl rfl hl.1 rfl (lv_room (Nat.le_of_ble_eq_true rfl)) dX11_cheapest_1 ⟨(Nat.le_of_ble_eq_true rfl), (Nat.le_of_ble_eq_true rfl)⟩) hS (fun _ _ h9 => False.elim h9) (fun _ h9 => False.elim h9) (fun r_1 u t H locs ht hvm hw hB hz1 hk1 hS => ?_)
  have hP := ro_keep hP hk1
  subst hw
  refine lv_if_eq (tgt := 15) hx hb dX11_cheapest_4 (by decide) (fun _ => ?_) (fun h9 => False.elim (h9 (by decide)))
  refine lv_ldcw (v := (-1000000)) hx hb hown (htg _ mw_76) dX11_cheapest_15 ?_
  exact W.iret (v := (-1000000)) hx hb hr  (fun t ht hW => ⟨⟨(-1000000), (), rfl, rfl, trivial⟩, hS.F ht⟩) hS.2.2 dX11_cheapest_18

set_option maxHeartbeats 4000000 in
set_option maxRecDepth 100000 in
theorem c_X11_all (l : Launch) (D : va_G) (b : Nat → Nat) (th sz at_ wr dp tx rd rc rm : Int32) (x : Int32) : Met l yX11_all (.code yX11_all cX11_all 2 (some .int) :: gw) ({ frames := 2, cells := 0, slots := 0, locals := 80 }) (va_Pc [.ref (b 0), .int x] (pr D [((b 0), .inr (11, [.int th, .ref (b 1), .int sz, .int at_, .int wr, .int dp, .ref (b 6), .ref (b 7), .ref (b 8), .ref (b 9), .ref (b 10), .ref (b 11), .ref (b 12), .int 0, .int tx, .ref (b 15), .ref (b 16), .ref (b 17), .ref (b 18), .ref (b 19), .int rd, .int rc, .ref (b 22), .ref (b 23), .ref (b 24), .int 0, .int 0, .ref (b 27), .int rm, .ref (b 29), .int (-1), .ref (b 31), .ref (b 32), .int (-1), .ref (b 34), .ref (b 35), .int 0, .int 0, .ref (b 38), .ref (b 39), .ref (b 40), .ref (b 41), .ref (b 42), .ref (b 43), .ref (b 44), .ref (b 45), .ref (b 46), .ref (b 47), .int 0, .int 0, .ref (b 50), .ref (b 51), .ref (b 52), .ref (b 53), .ref (b 54), .int (-1), .int 0, .ref (b 57), .ref (b 58), .ref (b 59), .ref (b 60), .ref (b 61), .ref (b 62), .int 0, .int 0, .int 0]))] [])) (va_Qi (fun r (_ : Unit) => r = (-1000000)) (fun _ _ => True) (fun _ => False)) 0 0 (fun _ => False) := by
  refine Met.ofW (cc := cX11_all) (maxL := 2) (ret := (some .int)) (by decide) rfl ?_
  intro p e s m args below meth c s₁ B hml hv
  obtain ⟨rfl, hP, hK⟩ := hv
  have hx := B.exec
  have hb := B.bytes
  have hr := B.returns
  have hts := atoms_spec (ws := .code yX11_all cX11_all 2 (some .int) :: gw) B.pre
  have htg := gw_tl hts
  have hown : s.vm.findClass RX11 = some m.cls := findClass_of_methodNamed B.named
  have hlocks := B.notSynchronized
  have hS : va_S (fun _ => False) s.heap s.heap [] := va_S.rf
  have hl := lv_entry ([.ref (b 0), .int x]) (n := 2) (Nat.le_of_ble_eq_true rfl)
  rw [lg_entry_eq]
  generalize (lg_sl ([.ref (b 0), .int x]) ++ List.replicate (2 - (lg_sl ([.ref (b 0), .int x])).length) Slot.unset).toArray = ls at hl ⊢
  have hl : lv_has ls 2 [(0, .ref (b 0)), (1, .int x)] := hl
  refine lv_aload_n hx hb dX11_all_0 rfl (lv_at hl 0 rfl) ?_
  have hPc := hP.sub (ws' := [((b 0), .inr (11, [.int th, .ref (b 1), .int sz, .int at_, .int wr, .int dp, .ref (b 6), .ref (b 7), .ref (b 8), .ref (b 9), .ref (b 10), .ref (b 11), .ref (b 12), .int 0, .int tx, .ref (b 15), .ref (b 16), .ref (b 17), .ref (b 18), .ref (b 19), .int rd, .int rc, .ref (b 22), .ref (b 23), .ref (b 24), .int 0, .int 0, .ref (b 27), .int rm, .ref (b 29), .int (-1), .ref (b 31), .ref (b 32), .int (-1), .ref (b 34), .ref (b 35), .int 0, .int 0, .ref (b 38), .ref (b 39), .ref (b 40), .ref (b 41), .ref (b 42), .ref (b 43), .ref (b 44), .ref (b 45), .ref (b 46), .ref (b 47), .int 0, .int 0, .ref (b 50), .ref (b 51), .ref (b 52), .ref (b 53), .ref (b 54), .int (-1), .int 0, .ref (b 57), .ref (b 58), .ref (b 59), .ref (b 60), .ref (b 61), .ref (b 62), .int 0, .int 0, .int 0]))]) [0] rfl
  have hKc := hK.sub (tys' := []) [] rfl
  refine va_calli (va_runV (As := []) (rest := []) ⟨hx, hb, hml, hown, htg⟩ (c_X11_isSmall l D b th sz at_ wr dp tx rd rc rm) (cV 0 htg mw_80 kv_X11_isSmall rfl rfl ⟨(Nat.le_of_ble_eq_true rfl), (Nat.le_of_ble_eq_true rfl)⟩) ⟨bl_r, va_recv hKc hPc (ci := 11) (q0 := 0) rfl rfl, us_r hPc hKc⟩ rfl rfl hl.1 rfl (lv_room (Nat.le_of_ble_eq_true rfl)) dX11_all_1 ⟨(Nat.le_of_ble_eq_true rfl), (Nat.le_of_ble_eq_true rfl)⟩) hS (fun _ _ h9 => False.elim h9) (fun _ h9 => False.elim h9) (fun r_1 u t H locs ht hvm hw hB hz1 hk1 hS => ?_)
  have hP := ro_keep hP hk1
  subst hw
  refine lv_if_eq (tgt := 16) hx hb dX11_all_4 (by decide) (fun _ => ?_) (fun h9 => False.elim (h9 (by decide)))
  refine lv_ldcw (v := (-1000000)) hx hb hown (htg _ mw_76) dX11_all_16 ?_
  exact W.iret (v := (-1000000)) hx hb hr  (fun t ht hW => ⟨⟨(-1000000), (), rfl, rfl, trivial⟩, hS.F ht⟩) hS.2.2 dX11_all_19

set_option maxHeartbeats 4000000 in
set_option maxRecDepth 100000 in
theorem c_X11_count (l : Launch) (D : va_G) (b : Nat → Nat) (th sz at_ wr dp tx rd rc rm : Int32) (x : Int32) : Met l yX11_count (.code yX11_count cX11_count 4 (some .int) :: gw) ({ frames := 2, cells := 0, slots := 0, locals := 80 }) (va_Pc [.ref (b 0), .int x] (pr D [((b 0), .inr (11, [.int th, .ref (b 1), .int sz, .int at_, .int wr, .int dp, .ref (b 6), .ref (b 7), .ref (b 8), .ref (b 9), .ref (b 10), .ref (b 11), .ref (b 12), .int 0, .int tx, .ref (b 15), .ref (b 16), .ref (b 17), .ref (b 18), .ref (b 19), .int rd, .int rc, .ref (b 22), .ref (b 23), .ref (b 24), .int 0, .int 0, .ref (b 27), .int rm, .ref (b 29), .int (-1), .ref (b 31), .ref (b 32), .int (-1), .ref (b 34), .ref (b 35), .int 0, .int 0, .ref (b 38), .ref (b 39), .ref (b 40), .ref (b 41), .ref (b 42), .ref (b 43), .ref (b 44), .ref (b 45), .ref (b 46), .ref (b 47), .int 0, .int 0, .ref (b 50), .ref (b 51), .ref (b 52), .ref (b 53), .ref (b 54), .int (-1), .int 0, .ref (b 57), .ref (b 58), .ref (b 59), .ref (b 60), .ref (b 61), .ref (b 62), .int 0, .int 0, .int 0]))] [])) (va_Qi (fun r (_ : Unit) => r = (-1000000)) (fun _ _ => True) (fun _ => False)) 0 0 (fun _ => False) := by
  refine Met.ofW (cc := cX11_count) (maxL := 4) (ret := (some .int)) (by decide) rfl ?_
  intro p e s m args below meth c s₁ B hml hv
  obtain ⟨rfl, hP, hK⟩ := hv
  have hx := B.exec
  have hb := B.bytes
  have hr := B.returns
  have hts := atoms_spec (ws := .code yX11_count cX11_count 4 (some .int) :: gw) B.pre
  have htg := gw_tl hts
  have hown : s.vm.findClass RX11 = some m.cls := findClass_of_methodNamed B.named
  have hlocks := B.notSynchronized
  have hS : va_S (fun _ => False) s.heap s.heap [] := va_S.rf
  have hl := lv_entry ([.ref (b 0), .int x]) (n := 4) (Nat.le_of_ble_eq_true rfl)
  rw [lg_entry_eq]
  generalize (lg_sl ([.ref (b 0), .int x]) ++ List.replicate (4 - (lg_sl ([.ref (b 0), .int x])).length) Slot.unset).toArray = ls at hl ⊢
  have hl : lv_has ls 4 [(0, .ref (b 0)), (1, .int x)] := hl
  refine lv_aload_n hx hb dX11_count_0 rfl (lv_at hl 0 rfl) ?_
  have hPc := hP.sub (ws' := [((b 0), .inr (11, [.int th, .ref (b 1), .int sz, .int at_, .int wr, .int dp, .ref (b 6), .ref (b 7), .ref (b 8), .ref (b 9), .ref (b 10), .ref (b 11), .ref (b 12), .int 0, .int tx, .ref (b 15), .ref (b 16), .ref (b 17), .ref (b 18), .ref (b 19), .int rd, .int rc, .ref (b 22), .ref (b 23), .ref (b 24), .int 0, .int 0, .ref (b 27), .int rm, .ref (b 29), .int (-1), .ref (b 31), .ref (b 32), .int (-1), .ref (b 34), .ref (b 35), .int 0, .int 0, .ref (b 38), .ref (b 39), .ref (b 40), .ref (b 41), .ref (b 42), .ref (b 43), .ref (b 44), .ref (b 45), .ref (b 46), .ref (b 47), .int 0, .int 0, .ref (b 50), .ref (b 51), .ref (b 52), .ref (b 53), .ref (b 54), .int (-1), .int 0, .ref (b 57), .ref (b 58), .ref (b 59), .ref (b 60), .ref (b 61), .ref (b 62), .int 0, .int 0, .int 0]))]) [0] rfl
  have hKc := hK.sub (tys' := []) [] rfl
  refine va_calli (va_runV (As := []) (rest := []) ⟨hx, hb, hml, hown, htg⟩ (c_X11_isSmall l D b th sz at_ wr dp tx rd rc rm) (cV 0 htg mw_80 kv_X11_isSmall rfl rfl ⟨(Nat.le_of_ble_eq_true rfl), (Nat.le_of_ble_eq_true rfl)⟩) ⟨bl_r, va_recv hKc hPc (ci := 11) (q0 := 0) rfl rfl, us_r hPc hKc⟩ rfl rfl hl.1 rfl (lv_room (Nat.le_of_ble_eq_true rfl)) dX11_count_1 ⟨(Nat.le_of_ble_eq_true rfl), (Nat.le_of_ble_eq_true rfl)⟩) hS (fun _ _ h9 => False.elim h9) (fun _ h9 => False.elim h9) (fun r_1 u t H locs ht hvm hw hB hz1 hk1 hS => ?_)
  have hP := ro_keep hP hk1
  subst hw
  refine lv_if_eq (tgt := 17) hx hb dX11_count_4 (by decide) (fun _ => ?_) (fun h9 => False.elim (h9 (by decide)))
  refine lv_ldcw (v := (-1000000)) hx hb hown (htg _ mw_76) dX11_count_17 ?_
  exact W.iret (v := (-1000000)) hx hb hr  (fun t ht hW => ⟨⟨(-1000000), (), rfl, rfl, trivial⟩, hS.F ht⟩) hS.2.2 dX11_count_20

set_option maxHeartbeats 4000000 in
set_option maxRecDepth 100000 in
theorem c_X11_ill (l : Launch) (D : va_G) (b : Nat → Nat) (th sz at_ wr dp tx rd rc rm : Int32) (x : Int32) : Met l yX11_ill (.code yX11_ill cX11_ill 2 (some .int) :: gw) ({ frames := 2, cells := 0, slots := 0, locals := 80 }) (va_Pc [.ref (b 0), .int x] (pr D [((b 0), .inr (11, [.int th, .ref (b 1), .int sz, .int at_, .int wr, .int dp, .ref (b 6), .ref (b 7), .ref (b 8), .ref (b 9), .ref (b 10), .ref (b 11), .ref (b 12), .int 0, .int tx, .ref (b 15), .ref (b 16), .ref (b 17), .ref (b 18), .ref (b 19), .int rd, .int rc, .ref (b 22), .ref (b 23), .ref (b 24), .int 0, .int 0, .ref (b 27), .int rm, .ref (b 29), .int (-1), .ref (b 31), .ref (b 32), .int (-1), .ref (b 34), .ref (b 35), .int 0, .int 0, .ref (b 38), .ref (b 39), .ref (b 40), .ref (b 41), .ref (b 42), .ref (b 43), .ref (b 44), .ref (b 45), .ref (b 46), .ref (b 47), .int 0, .int 0, .ref (b 50), .ref (b 51), .ref (b 52), .ref (b 53), .ref (b 54), .int (-1), .int 0, .ref (b 57), .ref (b 58), .ref (b 59), .ref (b 60), .ref (b 61), .ref (b 62), .int 0, .int 0, .int 0]))] [])) (va_Qi (fun r (_ : Unit) => r = (-1000000)) (fun _ _ => True) (fun _ => False)) 0 0 (fun _ => False) := by
  refine Met.ofW (cc := cX11_ill) (maxL := 2) (ret := (some .int)) (by decide) rfl ?_
  intro p e s m args below meth c s₁ B hml hv
  obtain ⟨rfl, hP, hK⟩ := hv
  have hx := B.exec
  have hb := B.bytes
  have hr := B.returns
  have hts := atoms_spec (ws := .code yX11_ill cX11_ill 2 (some .int) :: gw) B.pre
  have htg := gw_tl hts
  have hown : s.vm.findClass RX11 = some m.cls := findClass_of_methodNamed B.named
  have hlocks := B.notSynchronized
  have hS : va_S (fun _ => False) s.heap s.heap [] := va_S.rf
  have hl := lv_entry ([.ref (b 0), .int x]) (n := 2) (Nat.le_of_ble_eq_true rfl)
  rw [lg_entry_eq]
  generalize (lg_sl ([.ref (b 0), .int x]) ++ List.replicate (2 - (lg_sl ([.ref (b 0), .int x])).length) Slot.unset).toArray = ls at hl ⊢
  have hl : lv_has ls 2 [(0, .ref (b 0)), (1, .int x)] := hl
  refine lv_aload_n hx hb dX11_ill_0 rfl (lv_at hl 0 rfl) ?_
  have hPc := hP.sub (ws' := [((b 0), .inr (11, [.int th, .ref (b 1), .int sz, .int at_, .int wr, .int dp, .ref (b 6), .ref (b 7), .ref (b 8), .ref (b 9), .ref (b 10), .ref (b 11), .ref (b 12), .int 0, .int tx, .ref (b 15), .ref (b 16), .ref (b 17), .ref (b 18), .ref (b 19), .int rd, .int rc, .ref (b 22), .ref (b 23), .ref (b 24), .int 0, .int 0, .ref (b 27), .int rm, .ref (b 29), .int (-1), .ref (b 31), .ref (b 32), .int (-1), .ref (b 34), .ref (b 35), .int 0, .int 0, .ref (b 38), .ref (b 39), .ref (b 40), .ref (b 41), .ref (b 42), .ref (b 43), .ref (b 44), .ref (b 45), .ref (b 46), .ref (b 47), .int 0, .int 0, .ref (b 50), .ref (b 51), .ref (b 52), .ref (b 53), .ref (b 54), .int (-1), .int 0, .ref (b 57), .ref (b 58), .ref (b 59), .ref (b 60), .ref (b 61), .ref (b 62), .int 0, .int 0, .int 0]))]) [0] rfl
  have hKc := hK.sub (tys' := []) [] rfl
  refine va_calli (va_runV (As := []) (rest := []) ⟨hx, hb, hml, hown, htg⟩ (c_X11_isSmall l D b th sz at_ wr dp tx rd rc rm) (cV 0 htg mw_80 kv_X11_isSmall rfl rfl ⟨(Nat.le_of_ble_eq_true rfl), (Nat.le_of_ble_eq_true rfl)⟩) ⟨bl_r, va_recv hKc hPc (ci := 11) (q0 := 0) rfl rfl, us_r hPc hKc⟩ rfl rfl hl.1 rfl (lv_room (Nat.le_of_ble_eq_true rfl)) dX11_ill_1 ⟨(Nat.le_of_ble_eq_true rfl), (Nat.le_of_ble_eq_true rfl)⟩) hS (fun _ _ h9 => False.elim h9) (fun _ h9 => False.elim h9) (fun r_1 u t H locs ht hvm hw hB hz1 hk1 hS => ?_)
  have hP := ro_keep hP hk1
  subst hw
  refine lv_if_eq (tgt := 23) hx hb dX11_ill_4 (by decide) (fun _ => ?_) (fun h9 => False.elim (h9 (by decide)))
  refine lv_ldcw (v := (-1000000)) hx hb hown (htg _ mw_76) dX11_ill_23 ?_
  exact W.iret (v := (-1000000)) hx hb hr  (fun t ht hW => ⟨⟨(-1000000), (), rfl, rfl, trivial⟩, hS.F ht⟩) hS.2.2 dX11_ill_26

set_option maxHeartbeats 4000000 in
set_option maxRecDepth 100000 in
theorem c_X11_holds (l : Launch) (D : va_G) (b : Nat → Nat) (th sz at_ wr dp tx rd rc rm : Int32)  : Met l yX11_holds (.code yX11_holds cX11_holds 4 (some .int) :: gw) ({ frames := 2, cells := 0, slots := 0, locals := 80 }) (va_Pc [.ref (b 0)] (pr D [((b 0), .inr (11, [.int th, .ref (b 1), .int sz, .int at_, .int wr, .int dp, .ref (b 6), .ref (b 7), .ref (b 8), .ref (b 9), .ref (b 10), .ref (b 11), .ref (b 12), .int 0, .int tx, .ref (b 15), .ref (b 16), .ref (b 17), .ref (b 18), .ref (b 19), .int rd, .int rc, .ref (b 22), .ref (b 23), .ref (b 24), .int 0, .int 0, .ref (b 27), .int rm, .ref (b 29), .int (-1), .ref (b 31), .ref (b 32), .int (-1), .ref (b 34), .ref (b 35), .int 0, .int 0, .ref (b 38), .ref (b 39), .ref (b 40), .ref (b 41), .ref (b 42), .ref (b 43), .ref (b 44), .ref (b 45), .ref (b 46), .ref (b 47), .int 0, .int 0, .ref (b 50), .ref (b 51), .ref (b 52), .ref (b 53), .ref (b 54), .int (-1), .int 0, .ref (b 57), .ref (b 58), .ref (b 59), .ref (b 60), .ref (b 61), .ref (b 62), .int 0, .int 0, .int 0]))] [])) (va_Qi (fun r (_ : Unit) => r = (-1000000)) (fun _ _ => True) (fun _ => False)) 0 0 (fun _ => False) := by
  refine Met.ofW (cc := cX11_holds) (maxL := 4) (ret := (some .int)) (by decide) rfl ?_
  intro p e s m args below meth c s₁ B hml hv
  obtain ⟨rfl, hP, hK⟩ := hv
  have hx := B.exec
  have hb := B.bytes
  have hr := B.returns
  have hts := atoms_spec (ws := .code yX11_holds cX11_holds 4 (some .int) :: gw) B.pre
  have htg := gw_tl hts
  have hown : s.vm.findClass RX11 = some m.cls := findClass_of_methodNamed B.named
  have hlocks := B.notSynchronized
  have hS : va_S (fun _ => False) s.heap s.heap [] := va_S.rf
  have hl := lv_entry ([.ref (b 0)]) (n := 4) (Nat.le_of_ble_eq_true rfl)
  rw [lg_entry_eq]
  generalize (lg_sl ([.ref (b 0)]) ++ List.replicate (4 - (lg_sl ([.ref (b 0)])).length) Slot.unset).toArray = ls at hl ⊢
  have hl : lv_has ls 4 [(0, .ref (b 0))] := hl
  refine lv_aload_n hx hb dX11_holds_0 rfl (lv_at hl 0 rfl) ?_
  have hPc := hP.sub (ws' := [((b 0), .inr (11, [.int th, .ref (b 1), .int sz, .int at_, .int wr, .int dp, .ref (b 6), .ref (b 7), .ref (b 8), .ref (b 9), .ref (b 10), .ref (b 11), .ref (b 12), .int 0, .int tx, .ref (b 15), .ref (b 16), .ref (b 17), .ref (b 18), .ref (b 19), .int rd, .int rc, .ref (b 22), .ref (b 23), .ref (b 24), .int 0, .int 0, .ref (b 27), .int rm, .ref (b 29), .int (-1), .ref (b 31), .ref (b 32), .int (-1), .ref (b 34), .ref (b 35), .int 0, .int 0, .ref (b 38), .ref (b 39), .ref (b 40), .ref (b 41), .ref (b 42), .ref (b 43), .ref (b 44), .ref (b 45), .ref (b 46), .ref (b 47), .int 0, .int 0, .ref (b 50), .ref (b 51), .ref (b 52), .ref (b 53), .ref (b 54), .int (-1), .int 0, .ref (b 57), .ref (b 58), .ref (b 59), .ref (b 60), .ref (b 61), .ref (b 62), .int 0, .int 0, .int 0]))]) [0] rfl
  have hKc := hK.sub (tys' := []) [] rfl
  refine va_calli (va_runV (As := []) (rest := []) ⟨hx, hb, hml, hown, htg⟩ (c_X11_isSmall l D b th sz at_ wr dp tx rd rc rm) (cV 0 htg mw_80 kv_X11_isSmall rfl rfl ⟨(Nat.le_of_ble_eq_true rfl), (Nat.le_of_ble_eq_true rfl)⟩) ⟨bl_r, va_recv hKc hPc (ci := 11) (q0 := 0) rfl rfl, us_r hPc hKc⟩ rfl rfl hl.1 rfl (lv_room (Nat.le_of_ble_eq_true rfl)) dX11_holds_1 ⟨(Nat.le_of_ble_eq_true rfl), (Nat.le_of_ble_eq_true rfl)⟩) hS (fun _ _ h9 => False.elim h9) (fun _ h9 => False.elim h9) (fun r_1 u t H locs ht hvm hw hB hz1 hk1 hS => ?_)
  have hP := ro_keep hP hk1
  subst hw
  refine lv_if_ne (tgt := 11) hx hb dX11_holds_4 (by decide) (fun h9 => False.elim (h9 (by decide))) (fun _ => ?_)
  refine lv_ldcw (v := (-1000000)) hx hb hown (htg _ mw_76) dX11_holds_7 ?_
  exact W.iret (v := (-1000000)) hx hb hr  (fun t ht hW => ⟨⟨(-1000000), (), rfl, rfl, trivial⟩, hS.F ht⟩) hS.2.2 dX11_holds_10

set_option maxHeartbeats 4000000 in
set_option maxRecDepth 100000 in
theorem c_X11_sort (l : Launch) (D : va_G) (b : Nat → Nat) (th sz at_ wr dp tx rd rc rm : Int32)  : Met l yX11_sort (.code yX11_sort cX11_sort 1 (some .int) :: gw) ({ frames := 0, cells := 0, slots := 0, locals := 0 }) (va_Pc [.ref (b 0)] (pr D [((b 0), .inr (11, [.int th, .ref (b 1), .int sz, .int at_, .int wr, .int dp, .ref (b 6), .ref (b 7), .ref (b 8), .ref (b 9), .ref (b 10), .ref (b 11), .ref (b 12), .int 0, .int tx, .ref (b 15), .ref (b 16), .ref (b 17), .ref (b 18), .ref (b 19), .int rd, .int rc, .ref (b 22), .ref (b 23), .ref (b 24), .int 0, .int 0, .ref (b 27), .int rm, .ref (b 29), .int (-1), .ref (b 31), .ref (b 32), .int (-1), .ref (b 34), .ref (b 35), .int 0, .int 0, .ref (b 38), .ref (b 39), .ref (b 40), .ref (b 41), .ref (b 42), .ref (b 43), .ref (b 44), .ref (b 45), .ref (b 46), .ref (b 47), .int 0, .int 0, .ref (b 50), .ref (b 51), .ref (b 52), .ref (b 53), .ref (b 54), .int (-1), .int 0, .ref (b 57), .ref (b 58), .ref (b 59), .ref (b 60), .ref (b 61), .ref (b 62), .int 0, .int 0, .int 0]))] [])) (va_Qi (fun r (_ : Unit) => r = (-1)) (fun _ _ => True) (fun _ => False)) 0 0 (fun _ => False) := by
  refine Met.ofW (cc := cX11_sort) (maxL := 1) (ret := (some .int)) (by decide) rfl ?_
  intro p e s m args below meth c s₁ B hml hv
  obtain ⟨rfl, hP, hK⟩ := hv
  have hx := B.exec
  have hb := B.bytes
  have hr := B.returns
  have hts := atoms_spec (ws := .code yX11_sort cX11_sort 1 (some .int) :: gw) B.pre
  have htg := gw_tl hts
  have hown : s.vm.findClass RX11 = some m.cls := findClass_of_methodNamed B.named
  have hlocks := B.notSynchronized
  have hS : va_S (fun _ => False) s.heap s.heap [] := va_S.rf
  have hl := lv_entry ([.ref (b 0)]) (n := 1) (Nat.le_of_ble_eq_true rfl)
  rw [lg_entry_eq]
  generalize (lg_sl ([.ref (b 0)]) ++ List.replicate (1 - (lg_sl ([.ref (b 0)])).length) Slot.unset).toArray = ls at hl ⊢
  have hl : lv_has ls 1 [(0, .ref (b 0))] := hl
  refine lv_aload_n hx hb dX11_sort_0 rfl (lv_at hl 0 rfl) ?_
  refine va_get (D := D) (ci := 11) (v := .int 0) (C := RX11) (T := TX11) (N := 66) hx hb htg in_X11 hown hK hP 0 rfl rfl 25 (by decide) (htg _ mw_56) (fun _ h9 => h9) rfl dX11_sort_1 ?_
  refine lv_if_eq (tgt := 15) hx hb dX11_sort_4 (by decide) (fun _ => ?_) (fun h9 => False.elim (h9 (by decide)))
  refine lv_iconst (v := (-1)) hx hb dX11_sort_15 (by decide) ?_
  refine lv_goto (tgt := 23) hx hb dX11_sort_16 (by decide) ?_
  exact W.iret (v := (-1)) hx hb hr  (fun t ht hW => ⟨⟨(-1), (), rfl, rfl, trivial⟩, hS.F ht⟩) hS.2.2 dX11_sort_23

set_option maxHeartbeats 4000000 in
set_option maxRecDepth 100000 in
theorem c_X11_can (l : Launch) (D : va_G) (b : Nat → Nat) (th sz at_ wr dp tx rd rc rm : Int32)  : Met l yX11_can (.code yX11_can cX11_can 3 (some .int) :: gw) ({ frames := 0, cells := 0, slots := 0, locals := 0 }) (va_Pc [.ref (b 0)] (pr D [((b 0), .inr (11, [.int th, .ref (b 1), .int sz, .int at_, .int wr, .int dp, .ref (b 6), .ref (b 7), .ref (b 8), .ref (b 9), .ref (b 10), .ref (b 11), .ref (b 12), .int 0, .int tx, .ref (b 15), .ref (b 16), .ref (b 17), .ref (b 18), .ref (b 19), .int rd, .int rc, .ref (b 22), .ref (b 23), .ref (b 24), .int 0, .int 0, .ref (b 27), .int rm, .ref (b 29), .int (-1), .ref (b 31), .ref (b 32), .int (-1), .ref (b 34), .ref (b 35), .int 0, .int 0, .ref (b 38), .ref (b 39), .ref (b 40), .ref (b 41), .ref (b 42), .ref (b 43), .ref (b 44), .ref (b 45), .ref (b 46), .ref (b 47), .int 0, .int 0, .ref (b 50), .ref (b 51), .ref (b 52), .ref (b 53), .ref (b 54), .int (-1), .int 0, .ref (b 57), .ref (b 58), .ref (b 59), .ref (b 60), .ref (b 61), .ref (b 62), .int 0, .int 0, .int 0]))] [])) (va_Qi (fun r (_ : Unit) => r = (-1)) (fun _ _ => True) (fun _ => False)) 0 0 (fun _ => False) := by
  refine Met.ofW (cc := cX11_can) (maxL := 3) (ret := (some .int)) (by decide) rfl ?_
  intro p e s m args below meth c s₁ B hml hv
  obtain ⟨rfl, hP, hK⟩ := hv
  have hx := B.exec
  have hb := B.bytes
  have hr := B.returns
  have hts := atoms_spec (ws := .code yX11_can cX11_can 3 (some .int) :: gw) B.pre
  have htg := gw_tl hts
  have hown : s.vm.findClass RX11 = some m.cls := findClass_of_methodNamed B.named
  have hlocks := B.notSynchronized
  have hS : va_S (fun _ => False) s.heap s.heap [] := va_S.rf
  have hl := lv_entry ([.ref (b 0)]) (n := 3) (Nat.le_of_ble_eq_true rfl)
  rw [lg_entry_eq]
  generalize (lg_sl ([.ref (b 0)]) ++ List.replicate (3 - (lg_sl ([.ref (b 0)])).length) Slot.unset).toArray = ls at hl ⊢
  have hl : lv_has ls 3 [(0, .ref (b 0))] := hl
  refine lv_aload_n hx hb dX11_can_0 rfl (lv_at hl 0 rfl) ?_
  refine va_get (D := D) (ci := 11) (v := .int 0) (C := RX11) (T := TX11) (N := 66) hx hb htg in_X11 hown hK hP 0 rfl rfl 25 (by decide) (htg _ mw_56) (fun _ h9 => h9) rfl dX11_can_1 ?_
  refine lv_if_eq (tgt := 22) hx hb dX11_can_4 (by decide) (fun _ => ?_) (fun h9 => False.elim (h9 (by decide)))
  refine lv_iconst (v := (-1)) hx hb dX11_can_22 (by decide) ?_
  exact W.iret (v := (-1)) hx hb hr  (fun t ht hW => ⟨⟨(-1), (), rfl, rfl, trivial⟩, hS.F ht⟩) hS.2.2 dX11_can_23

set_option maxHeartbeats 4000000 in
set_option maxRecDepth 100000 in
theorem c_X11_worth (l : Launch) (D : va_G) (b : Nat → Nat) (th sz at_ wr dp tx rd rc rm : Int32) (x y z : Int32) : Met l yX11_worth (.code yX11_worth cX11_worth 4 (some .boolean) :: gw) ({ frames := 2, cells := 0, slots := 0, locals := 80 }) (va_Pc [.ref (b 0), .int x, .int y, .int z] (pr D [((b 0), .inr (11, [.int th, .ref (b 1), .int sz, .int at_, .int wr, .int dp, .ref (b 6), .ref (b 7), .ref (b 8), .ref (b 9), .ref (b 10), .ref (b 11), .ref (b 12), .int 0, .int tx, .ref (b 15), .ref (b 16), .ref (b 17), .ref (b 18), .ref (b 19), .int rd, .int rc, .ref (b 22), .ref (b 23), .ref (b 24), .int 0, .int 0, .ref (b 27), .int rm, .ref (b 29), .int (-1), .ref (b 31), .ref (b 32), .int (-1), .ref (b 34), .ref (b 35), .int 0, .int 0, .ref (b 38), .ref (b 39), .ref (b 40), .ref (b 41), .ref (b 42), .ref (b 43), .ref (b 44), .ref (b 45), .ref (b 46), .ref (b 47), .int 0, .int 0, .ref (b 50), .ref (b 51), .ref (b 52), .ref (b 53), .ref (b 54), .int (-1), .int 0, .ref (b 57), .ref (b 58), .ref (b 59), .ref (b 60), .ref (b 61), .ref (b 62), .int 0, .int 0, .int 0]))] [])) (va_Qi (fun r (_ : Unit) => r = 0) (fun _ _ => True) (fun _ => False)) 0 0 (fun _ => False) := by
  refine Met.ofW (cc := cX11_worth) (maxL := 4) (ret := (some .boolean)) (by decide) rfl ?_
  intro p e s m args below meth c s₁ B hml hv
  obtain ⟨rfl, hP, hK⟩ := hv
  have hx := B.exec
  have hb := B.bytes
  have hr := B.returns
  have hts := atoms_spec (ws := .code yX11_worth cX11_worth 4 (some .boolean) :: gw) B.pre
  have htg := gw_tl hts
  have hown : s.vm.findClass RX11 = some m.cls := findClass_of_methodNamed B.named
  have hlocks := B.notSynchronized
  have hS : va_S (fun _ => False) s.heap s.heap [] := va_S.rf
  have hl := lv_entry ([.ref (b 0), .int x, .int y, .int z]) (n := 4) (Nat.le_of_ble_eq_true rfl)
  rw [lg_entry_eq]
  generalize (lg_sl ([.ref (b 0), .int x, .int y, .int z]) ++ List.replicate (4 - (lg_sl ([.ref (b 0), .int x, .int y, .int z])).length) Slot.unset).toArray = ls at hl ⊢
  have hl : lv_has ls 4 [(0, .ref (b 0)), (1, .int x), (2, .int y), (3, .int z)] := hl
  refine lv_aload_n hx hb dX11_worth_0 rfl (lv_at hl 0 rfl) ?_
  refine lv_iload_n hx hb dX11_worth_1 rfl (lv_at hl 1 rfl) ?_
  have hPc := hP.sub (ws' := [((b 0), .inr (11, [.int th, .ref (b 1), .int sz, .int at_, .int wr, .int dp, .ref (b 6), .ref (b 7), .ref (b 8), .ref (b 9), .ref (b 10), .ref (b 11), .ref (b 12), .int 0, .int tx, .ref (b 15), .ref (b 16), .ref (b 17), .ref (b 18), .ref (b 19), .int rd, .int rc, .ref (b 22), .ref (b 23), .ref (b 24), .int 0, .int 0, .ref (b 27), .int rm, .ref (b 29), .int (-1), .ref (b 31), .ref (b 32), .int (-1), .ref (b 34), .ref (b 35), .int 0, .int 0, .ref (b 38), .ref (b 39), .ref (b 40), .ref (b 41), .ref (b 42), .ref (b 43), .ref (b 44), .ref (b 45), .ref (b 46), .ref (b 47), .int 0, .int 0, .ref (b 50), .ref (b 51), .ref (b 52), .ref (b 53), .ref (b 54), .int (-1), .int 0, .ref (b 57), .ref (b 58), .ref (b 59), .ref (b 60), .ref (b 61), .ref (b 62), .int 0, .int 0, .int 0]))]) [0] rfl
  have hKc := hK.sub (tys' := []) [] rfl
  refine va_calli (va_runV (As := [.int x]) (rest := []) ⟨hx, hb, hml, hown, htg⟩ (c_X11_isClerk l D b th sz at_ wr dp tx rd rc rm x) (cV 1 htg mw_64 kv_X11_isClerk rfl rfl ⟨(Nat.le_of_ble_eq_true rfl), (Nat.le_of_ble_eq_true rfl)⟩) ⟨bl_r, va_recv hKc hPc (ci := 11) (q0 := 0) rfl rfl, us_r hPc hKc⟩ rfl rfl hl.1 rfl (lv_room (Nat.le_of_ble_eq_true rfl)) dX11_worth_2 ⟨(Nat.le_of_ble_eq_true rfl), (Nat.le_of_ble_eq_true rfl)⟩) hS (fun _ _ h9 => False.elim h9) (fun _ h9 => False.elim h9) (fun r_1 u t H locs ht hvm hw hB hz1 hk1 hS => ?_)
  have hP := ro_keep hP hk1
  subst hw
  refine lv_if_eq (tgt := 26) hx hb dX11_worth_5 (by decide) (fun _ => ?_) (fun h9 => False.elim (h9 (by decide)))
  refine lv_iconst (v := 0) hx hb dX11_worth_26 (by decide) ?_
  exact W.zret (v := 0) hx hb hr (by first | rfl | decide | exact ar_nb _) (fun t ht hW => ⟨⟨0, (), rfl, rfl, trivial⟩, hS.F ht⟩) hS.2.2 dX11_worth_27

set_option maxHeartbeats 4000000 in
set_option maxRecDepth 100000 in
theorem c_X11_seated (l : Launch) (D : va_G) (b : Nat → Nat) (th sz at_ wr dp tx rd rc rm : Int32) (x : Int32) : Met l yX11_seated (.code yX11_seated cX11_seated 4 (some .int) :: gw) ({ frames := 0, cells := 0, slots := 0, locals := 0 }) (va_Pc [.ref (b 0), .int x] (pr D [((b 0), .inr (11, [.int th, .ref (b 1), .int sz, .int at_, .int wr, .int dp, .ref (b 6), .ref (b 7), .ref (b 8), .ref (b 9), .ref (b 10), .ref (b 11), .ref (b 12), .int 0, .int tx, .ref (b 15), .ref (b 16), .ref (b 17), .ref (b 18), .ref (b 19), .int rd, .int rc, .ref (b 22), .ref (b 23), .ref (b 24), .int 0, .int 0, .ref (b 27), .int rm, .ref (b 29), .int (-1), .ref (b 31), .ref (b 32), .int (-1), .ref (b 34), .ref (b 35), .int 0, .int 0, .ref (b 38), .ref (b 39), .ref (b 40), .ref (b 41), .ref (b 42), .ref (b 43), .ref (b 44), .ref (b 45), .ref (b 46), .ref (b 47), .int 0, .int 0, .ref (b 50), .ref (b 51), .ref (b 52), .ref (b 53), .ref (b 54), .int (-1), .int 0, .ref (b 57), .ref (b 58), .ref (b 59), .ref (b 60), .ref (b 61), .ref (b 62), .int 0, .int 0, .int 0]))] [])) (va_Qi (fun r (_ : Unit) => r = (-1)) (fun _ _ => True) (fun _ => False)) 0 0 (fun _ => False) := by
  refine Met.ofW (cc := cX11_seated) (maxL := 4) (ret := (some .int)) (by decide) rfl ?_
  intro p e s m args below meth c s₁ B hml hv
  obtain ⟨rfl, hP, hK⟩ := hv
  have hx := B.exec
  have hb := B.bytes
  have hr := B.returns
  have hts := atoms_spec (ws := .code yX11_seated cX11_seated 4 (some .int) :: gw) B.pre
  have htg := gw_tl hts
  have hown : s.vm.findClass RX11 = some m.cls := findClass_of_methodNamed B.named
  have hlocks := B.notSynchronized
  have hS : va_S (fun _ => False) s.heap s.heap [] := va_S.rf
  have hl := lv_entry ([.ref (b 0), .int x]) (n := 4) (Nat.le_of_ble_eq_true rfl)
  rw [lg_entry_eq]
  generalize (lg_sl ([.ref (b 0), .int x]) ++ List.replicate (4 - (lg_sl ([.ref (b 0), .int x])).length) Slot.unset).toArray = ls at hl ⊢
  have hl : lv_has ls 4 [(0, .ref (b 0)), (1, .int x)] := hl
  refine lv_aload_n hx hb dX11_seated_0 rfl (lv_at hl 0 rfl) ?_
  refine va_get (D := D) (ci := 11) (v := .int 0) (C := RX11) (T := TX11) (N := 66) hx hb htg in_X11 hown hK hP 0 rfl rfl 25 (by decide) (htg _ mw_56) (fun _ h9 => h9) rfl dX11_seated_1 ?_
  refine lv_if_eq (tgt := 20) hx hb dX11_seated_4 (by decide) (fun _ => ?_) (fun h9 => False.elim (h9 (by decide)))
  refine lv_iconst (v := (-1)) hx hb dX11_seated_20 (by decide) ?_
  exact W.iret (v := (-1)) hx hb hr  (fun t ht hW => ⟨⟨(-1), (), rfl, rfl, trivial⟩, hS.F ht⟩) hS.2.2 dX11_seated_21

set_option maxHeartbeats 4000000 in
set_option maxRecDepth 100000 in
theorem c_X11_best (l : Launch) (D : va_G) (b : Nat → Nat) (th sz at_ wr dp tx rd rc rm : Int32) (x : Int32) : Met l yX11_best (.code yX11_best cX11_best 2 (some .int) :: gw) ({ frames := 0, cells := 0, slots := 0, locals := 0 }) (va_Pc [.ref (b 0), .int x] (pr D [((b 0), .inr (11, [.int th, .ref (b 1), .int sz, .int at_, .int wr, .int dp, .ref (b 6), .ref (b 7), .ref (b 8), .ref (b 9), .ref (b 10), .ref (b 11), .ref (b 12), .int 0, .int tx, .ref (b 15), .ref (b 16), .ref (b 17), .ref (b 18), .ref (b 19), .int rd, .int rc, .ref (b 22), .ref (b 23), .ref (b 24), .int 0, .int 0, .ref (b 27), .int rm, .ref (b 29), .int (-1), .ref (b 31), .ref (b 32), .int (-1), .ref (b 34), .ref (b 35), .int 0, .int 0, .ref (b 38), .ref (b 39), .ref (b 40), .ref (b 41), .ref (b 42), .ref (b 43), .ref (b 44), .ref (b 45), .ref (b 46), .ref (b 47), .int 0, .int 0, .ref (b 50), .ref (b 51), .ref (b 52), .ref (b 53), .ref (b 54), .int (-1), .int 0, .ref (b 57), .ref (b 58), .ref (b 59), .ref (b 60), .ref (b 61), .ref (b 62), .int 0, .int 0, .int 0]))] [])) (va_Qi (fun r (_ : Unit) => r = (-1)) (fun _ _ => True) (fun _ => False)) 0 0 (fun _ => False) := by
  refine Met.ofW (cc := cX11_best) (maxL := 2) (ret := (some .int)) (by decide) rfl ?_
  intro p e s m args below meth c s₁ B hml hv
  obtain ⟨rfl, hP, hK⟩ := hv
  have hx := B.exec
  have hb := B.bytes
  have hr := B.returns
  have hts := atoms_spec (ws := .code yX11_best cX11_best 2 (some .int) :: gw) B.pre
  have htg := gw_tl hts
  have hown : s.vm.findClass RX11 = some m.cls := findClass_of_methodNamed B.named
  have hlocks := B.notSynchronized
  have hS : va_S (fun _ => False) s.heap s.heap [] := va_S.rf
  have hl := lv_entry ([.ref (b 0), .int x]) (n := 2) (Nat.le_of_ble_eq_true rfl)
  rw [lg_entry_eq]
  generalize (lg_sl ([.ref (b 0), .int x]) ++ List.replicate (2 - (lg_sl ([.ref (b 0), .int x])).length) Slot.unset).toArray = ls at hl ⊢
  have hl : lv_has ls 2 [(0, .ref (b 0)), (1, .int x)] := hl
  refine lv_aload_n hx hb dX11_best_0 rfl (lv_at hl 0 rfl) ?_
  refine va_get (D := D) (ci := 11) (v := .int 0) (C := RX11) (T := TX11) (N := 66) hx hb htg in_X11 hown hK hP 0 rfl rfl 25 (by decide) (htg _ mw_56) (fun _ h9 => h9) rfl dX11_best_1 ?_
  refine lv_if_eq (tgt := 20) hx hb dX11_best_4 (by decide) (fun _ => ?_) (fun h9 => False.elim (h9 (by decide)))
  refine lv_iconst (v := (-1)) hx hb dX11_best_20 (by decide) ?_
  exact W.iret (v := (-1)) hx hb hr  (fun t ht hW => ⟨⟨(-1), (), rfl, rfl, trivial⟩, hS.F ht⟩) hS.2.2 dX11_best_21

set_option maxHeartbeats 4000000 in
set_option maxRecDepth 100000 in
theorem c_X11_gains (l : Launch) (D : va_G) (b : Nat → Nat) (th sz at_ wr dp tx rd rc rm : Int32) (x y : Int32) : Met l yX11_gains (.code yX11_gains cX11_gains 8 (some .int) :: gw) ({ frames := 2, cells := 0, slots := 0, locals := 80 }) (va_Pc [.ref (b 0), .int x, .int y] (pr D [((b 0), .inr (11, [.int th, .ref (b 1), .int sz, .int at_, .int wr, .int dp, .ref (b 6), .ref (b 7), .ref (b 8), .ref (b 9), .ref (b 10), .ref (b 11), .ref (b 12), .int 0, .int tx, .ref (b 15), .ref (b 16), .ref (b 17), .ref (b 18), .ref (b 19), .int rd, .int rc, .ref (b 22), .ref (b 23), .ref (b 24), .int 0, .int 0, .ref (b 27), .int rm, .ref (b 29), .int (-1), .ref (b 31), .ref (b 32), .int (-1), .ref (b 34), .ref (b 35), .int 0, .int 0, .ref (b 38), .ref (b 39), .ref (b 40), .ref (b 41), .ref (b 42), .ref (b 43), .ref (b 44), .ref (b 45), .ref (b 46), .ref (b 47), .int 0, .int 0, .ref (b 50), .ref (b 51), .ref (b 52), .ref (b 53), .ref (b 54), .int (-1), .int 0, .ref (b 57), .ref (b 58), .ref (b 59), .ref (b 60), .ref (b 61), .ref (b 62), .int 0, .int 0, .int 0]))] [])) (va_Qi (fun r (_ : Unit) => r = (-1)) (fun _ _ => True) (fun _ => False)) 0 0 (fun _ => False) := by
  refine Met.ofW (cc := cX11_gains) (maxL := 8) (ret := (some .int)) (by decide) rfl ?_
  intro p e s m args below meth c s₁ B hml hv
  obtain ⟨rfl, hP, hK⟩ := hv
  have hx := B.exec
  have hb := B.bytes
  have hr := B.returns
  have hts := atoms_spec (ws := .code yX11_gains cX11_gains 8 (some .int) :: gw) B.pre
  have htg := gw_tl hts
  have hown : s.vm.findClass RX11 = some m.cls := findClass_of_methodNamed B.named
  have hlocks := B.notSynchronized
  have hS : va_S (fun _ => False) s.heap s.heap [] := va_S.rf
  have hl := lv_entry ([.ref (b 0), .int x, .int y]) (n := 8) (Nat.le_of_ble_eq_true rfl)
  rw [lg_entry_eq]
  generalize (lg_sl ([.ref (b 0), .int x, .int y]) ++ List.replicate (8 - (lg_sl ([.ref (b 0), .int x, .int y])).length) Slot.unset).toArray = ls at hl ⊢
  have hl : lv_has ls 8 [(0, .ref (b 0)), (1, .int x), (2, .int y)] := hl
  refine lv_aload_n hx hb dX11_gains_0 rfl (lv_at hl 0 rfl) ?_
  refine lv_iload_n hx hb dX11_gains_1 rfl (lv_at hl 1 rfl) ?_
  have hPc := hP.sub (ws' := [((b 0), .inr (11, [.int th, .ref (b 1), .int sz, .int at_, .int wr, .int dp, .ref (b 6), .ref (b 7), .ref (b 8), .ref (b 9), .ref (b 10), .ref (b 11), .ref (b 12), .int 0, .int tx, .ref (b 15), .ref (b 16), .ref (b 17), .ref (b 18), .ref (b 19), .int rd, .int rc, .ref (b 22), .ref (b 23), .ref (b 24), .int 0, .int 0, .ref (b 27), .int rm, .ref (b 29), .int (-1), .ref (b 31), .ref (b 32), .int (-1), .ref (b 34), .ref (b 35), .int 0, .int 0, .ref (b 38), .ref (b 39), .ref (b 40), .ref (b 41), .ref (b 42), .ref (b 43), .ref (b 44), .ref (b 45), .ref (b 46), .ref (b 47), .int 0, .int 0, .ref (b 50), .ref (b 51), .ref (b 52), .ref (b 53), .ref (b 54), .int (-1), .int 0, .ref (b 57), .ref (b 58), .ref (b 59), .ref (b 60), .ref (b 61), .ref (b 62), .int 0, .int 0, .int 0]))]) [0] rfl
  have hKc := hK.sub (tys' := []) [] rfl
  refine va_calli (va_runV (As := [.int x]) (rest := []) ⟨hx, hb, hml, hown, htg⟩ (c_X11_isClerk l D b th sz at_ wr dp tx rd rc rm x) (cV 1 htg mw_64 kv_X11_isClerk rfl rfl ⟨(Nat.le_of_ble_eq_true rfl), (Nat.le_of_ble_eq_true rfl)⟩) ⟨bl_r, va_recv hKc hPc (ci := 11) (q0 := 0) rfl rfl, us_r hPc hKc⟩ rfl rfl hl.1 rfl (lv_room (Nat.le_of_ble_eq_true rfl)) dX11_gains_2 ⟨(Nat.le_of_ble_eq_true rfl), (Nat.le_of_ble_eq_true rfl)⟩) hS (fun _ _ h9 => False.elim h9) (fun _ h9 => False.elim h9) (fun r_1 u t H locs ht hvm hw hB hz1 hk1 hS => ?_)
  have hP := ro_keep hP hk1
  subst hw
  refine lv_if_eq (tgt := 17) hx hb dX11_gains_5 (by decide) (fun _ => ?_) (fun h9 => False.elim (h9 (by decide)))
  refine lv_iconst (v := (-1)) hx hb dX11_gains_17 (by decide) ?_
  exact W.iret (v := (-1)) hx hb hr  (fun t ht hW => ⟨⟨(-1), (), rfl, rfl, trivial⟩, hS.F ht⟩) hS.2.2 dX11_gains_18

set_option maxHeartbeats 4000000 in
set_option maxRecDepth 100000 in
theorem c_X11_exchange (l : Launch) (D : va_G) (b : Nat → Nat) (th sz at_ wr dp tx rd rc rm : Int32) (x : Int32) : Met l yX11_exchange (.code yX11_exchange cX11_exchange 2 (some .int) :: gw) ({ frames := 2, cells := 0, slots := 0, locals := 80 }) (va_Pc [.ref (b 0), .int x] (pr D [((b 0), .inr (11, [.int th, .ref (b 1), .int sz, .int at_, .int wr, .int dp, .ref (b 6), .ref (b 7), .ref (b 8), .ref (b 9), .ref (b 10), .ref (b 11), .ref (b 12), .int 0, .int tx, .ref (b 15), .ref (b 16), .ref (b 17), .ref (b 18), .ref (b 19), .int rd, .int rc, .ref (b 22), .ref (b 23), .ref (b 24), .int 0, .int 0, .ref (b 27), .int rm, .ref (b 29), .int (-1), .ref (b 31), .ref (b 32), .int (-1), .ref (b 34), .ref (b 35), .int 0, .int 0, .ref (b 38), .ref (b 39), .ref (b 40), .ref (b 41), .ref (b 42), .ref (b 43), .ref (b 44), .ref (b 45), .ref (b 46), .ref (b 47), .int 0, .int 0, .ref (b 50), .ref (b 51), .ref (b 52), .ref (b 53), .ref (b 54), .int (-1), .int 0, .ref (b 57), .ref (b 58), .ref (b 59), .ref (b 60), .ref (b 61), .ref (b 62), .int 0, .int 0, .int 0]))] [])) (va_Qi (fun r (_ : Unit) => r = (-1)) (fun _ _ => True) (fun _ => False)) 0 0 (fun _ => False) := by
  refine Met.ofW (cc := cX11_exchange) (maxL := 2) (ret := (some .int)) (by decide) rfl ?_
  intro p e s m args below meth c s₁ B hml hv
  obtain ⟨rfl, hP, hK⟩ := hv
  have hx := B.exec
  have hb := B.bytes
  have hr := B.returns
  have hts := atoms_spec (ws := .code yX11_exchange cX11_exchange 2 (some .int) :: gw) B.pre
  have htg := gw_tl hts
  have hown : s.vm.findClass RX11 = some m.cls := findClass_of_methodNamed B.named
  have hlocks := B.notSynchronized
  have hS : va_S (fun _ => False) s.heap s.heap [] := va_S.rf
  have hl := lv_entry ([.ref (b 0), .int x]) (n := 2) (Nat.le_of_ble_eq_true rfl)
  rw [lg_entry_eq]
  generalize (lg_sl ([.ref (b 0), .int x]) ++ List.replicate (2 - (lg_sl ([.ref (b 0), .int x])).length) Slot.unset).toArray = ls at hl ⊢
  have hl : lv_has ls 2 [(0, .ref (b 0)), (1, .int x)] := hl
  refine lv_aload_n hx hb dX11_exchange_0 rfl (lv_at hl 0 rfl) ?_
  refine lv_iload_n hx hb dX11_exchange_1 rfl (lv_at hl 1 rfl) ?_
  have hPc := hP.sub (ws' := [((b 0), .inr (11, [.int th, .ref (b 1), .int sz, .int at_, .int wr, .int dp, .ref (b 6), .ref (b 7), .ref (b 8), .ref (b 9), .ref (b 10), .ref (b 11), .ref (b 12), .int 0, .int tx, .ref (b 15), .ref (b 16), .ref (b 17), .ref (b 18), .ref (b 19), .int rd, .int rc, .ref (b 22), .ref (b 23), .ref (b 24), .int 0, .int 0, .ref (b 27), .int rm, .ref (b 29), .int (-1), .ref (b 31), .ref (b 32), .int (-1), .ref (b 34), .ref (b 35), .int 0, .int 0, .ref (b 38), .ref (b 39), .ref (b 40), .ref (b 41), .ref (b 42), .ref (b 43), .ref (b 44), .ref (b 45), .ref (b 46), .ref (b 47), .int 0, .int 0, .ref (b 50), .ref (b 51), .ref (b 52), .ref (b 53), .ref (b 54), .int (-1), .int 0, .ref (b 57), .ref (b 58), .ref (b 59), .ref (b 60), .ref (b 61), .ref (b 62), .int 0, .int 0, .int 0]))]) [0] rfl
  have hKc := hK.sub (tys' := []) [] rfl
  refine va_calli (va_runV (As := [.int x]) (rest := []) ⟨hx, hb, hml, hown, htg⟩ (c_X11_isClerk l D b th sz at_ wr dp tx rd rc rm x) (cV 1 htg mw_64 kv_X11_isClerk rfl rfl ⟨(Nat.le_of_ble_eq_true rfl), (Nat.le_of_ble_eq_true rfl)⟩) ⟨bl_r, va_recv hKc hPc (ci := 11) (q0 := 0) rfl rfl, us_r hPc hKc⟩ rfl rfl hl.1 rfl (lv_room (Nat.le_of_ble_eq_true rfl)) dX11_exchange_2 ⟨(Nat.le_of_ble_eq_true rfl), (Nat.le_of_ble_eq_true rfl)⟩) hS (fun _ _ h9 => False.elim h9) (fun _ h9 => False.elim h9) (fun r_1 u t H locs ht hvm hw hB hz1 hk1 hS => ?_)
  have hP := ro_keep hP hk1
  subst hw
  refine lv_if_ne (tgt := 10) hx hb dX11_exchange_5 (by decide) (fun h9 => False.elim (h9 (by decide))) (fun _ => ?_)
  refine lv_iconst (v := (-1)) hx hb dX11_exchange_8 (by decide) ?_
  exact W.iret (v := (-1)) hx hb hr  (fun t ht hW => ⟨⟨(-1), (), rfl, rfl, trivial⟩, hS.F ht⟩) hS.2.2 dX11_exchange_9

set_option maxHeartbeats 4000000 in
set_option maxRecDepth 100000 in
theorem c_X11_agree (l : Launch) (D : va_G) (b : Nat → Nat) (th sz at_ wr dp tx rd rc rm : Int32) (x : Int32) : Met l yX11_agree (.code yX11_agree cX11_agree 6 (some .int) :: gw) ({ frames := 0, cells := 0, slots := 0, locals := 0 }) (va_Pc [.ref (b 0), .int x] (pr D [((b 0), .inr (11, [.int th, .ref (b 1), .int sz, .int at_, .int wr, .int dp, .ref (b 6), .ref (b 7), .ref (b 8), .ref (b 9), .ref (b 10), .ref (b 11), .ref (b 12), .int 0, .int tx, .ref (b 15), .ref (b 16), .ref (b 17), .ref (b 18), .ref (b 19), .int rd, .int rc, .ref (b 22), .ref (b 23), .ref (b 24), .int 0, .int 0, .ref (b 27), .int rm, .ref (b 29), .int (-1), .ref (b 31), .ref (b 32), .int (-1), .ref (b 34), .ref (b 35), .int 0, .int 0, .ref (b 38), .ref (b 39), .ref (b 40), .ref (b 41), .ref (b 42), .ref (b 43), .ref (b 44), .ref (b 45), .ref (b 46), .ref (b 47), .int 0, .int 0, .ref (b 50), .ref (b 51), .ref (b 52), .ref (b 53), .ref (b 54), .int (-1), .int 0, .ref (b 57), .ref (b 58), .ref (b 59), .ref (b 60), .ref (b 61), .ref (b 62), .int 0, .int 0, .int 0]))] [])) (va_Qi (fun r (_ : Unit) => r = (-1)) (fun _ _ => True) (fun _ => False)) 0 0 (fun _ => False) := by
  refine Met.ofW (cc := cX11_agree) (maxL := 6) (ret := (some .int)) (by decide) rfl ?_
  intro p e s m args below meth c s₁ B hml hv
  obtain ⟨rfl, hP, hK⟩ := hv
  have hx := B.exec
  have hb := B.bytes
  have hr := B.returns
  have hts := atoms_spec (ws := .code yX11_agree cX11_agree 6 (some .int) :: gw) B.pre
  have htg := gw_tl hts
  have hown : s.vm.findClass RX11 = some m.cls := findClass_of_methodNamed B.named
  have hlocks := B.notSynchronized
  have hS : va_S (fun _ => False) s.heap s.heap [] := va_S.rf
  have hl := lv_entry ([.ref (b 0), .int x]) (n := 6) (Nat.le_of_ble_eq_true rfl)
  rw [lg_entry_eq]
  generalize (lg_sl ([.ref (b 0), .int x]) ++ List.replicate (6 - (lg_sl ([.ref (b 0), .int x])).length) Slot.unset).toArray = ls at hl ⊢
  have hl : lv_has ls 6 [(0, .ref (b 0)), (1, .int x)] := hl
  refine lv_aload_n hx hb dX11_agree_0 rfl (lv_at hl 0 rfl) ?_
  refine va_get (D := D) (ci := 11) (v := .int 0) (C := RX11) (T := TX11) (N := 66) hx hb htg in_X11 hown hK hP 0 rfl rfl 25 (by decide) (htg _ mw_56) (fun _ h9 => h9) rfl dX11_agree_1 ?_
  refine lv_if_ne (tgt := 9) hx hb dX11_agree_4 (by decide) (fun h9 => False.elim (h9 (by decide))) (fun _ => ?_)
  refine lv_iconst (v := (-1)) hx hb dX11_agree_7 (by decide) ?_
  exact W.iret (v := (-1)) hx hb hr  (fun t ht hW => ⟨⟨(-1), (), rfl, rfl, trivial⟩, hS.F ht⟩) hS.2.2 dX11_agree_8

set_option maxHeartbeats 4000000 in
set_option maxRecDepth 100000 in
theorem c_X11_vote (l : Launch) (D : va_G) (b : Nat → Nat) (th sz at_ wr dp tx rd rc rm : Int32) (x y : Int32) : Met l yX11_vote (.code yX11_vote cX11_vote 8 (some .int) :: gw) ({ frames := 2, cells := 0, slots := 0, locals := 80 }) (va_Pc [.ref (b 0), .int x, .int y] (pr D [((b 0), .inr (11, [.int th, .ref (b 1), .int sz, .int at_, .int wr, .int dp, .ref (b 6), .ref (b 7), .ref (b 8), .ref (b 9), .ref (b 10), .ref (b 11), .ref (b 12), .int 0, .int tx, .ref (b 15), .ref (b 16), .ref (b 17), .ref (b 18), .ref (b 19), .int rd, .int rc, .ref (b 22), .ref (b 23), .ref (b 24), .int 0, .int 0, .ref (b 27), .int rm, .ref (b 29), .int (-1), .ref (b 31), .ref (b 32), .int (-1), .ref (b 34), .ref (b 35), .int 0, .int 0, .ref (b 38), .ref (b 39), .ref (b 40), .ref (b 41), .ref (b 42), .ref (b 43), .ref (b 44), .ref (b 45), .ref (b 46), .ref (b 47), .int 0, .int 0, .ref (b 50), .ref (b 51), .ref (b 52), .ref (b 53), .ref (b 54), .int (-1), .int 0, .ref (b 57), .ref (b 58), .ref (b 59), .ref (b 60), .ref (b 61), .ref (b 62), .int 0, .int 0, .int 0]))] [])) (va_Qi (fun r (_ : Unit) => r = (-1000000)) (fun _ _ => True) (fun _ => False)) 0 0 (fun _ => False) := by
  refine Met.ofW (cc := cX11_vote) (maxL := 8) (ret := (some .int)) (by decide) rfl ?_
  intro p e s m args below meth c s₁ B hml hv
  obtain ⟨rfl, hP, hK⟩ := hv
  have hx := B.exec
  have hb := B.bytes
  have hr := B.returns
  have hts := atoms_spec (ws := .code yX11_vote cX11_vote 8 (some .int) :: gw) B.pre
  have htg := gw_tl hts
  have hown : s.vm.findClass RX11 = some m.cls := findClass_of_methodNamed B.named
  have hlocks := B.notSynchronized
  have hS : va_S (fun _ => False) s.heap s.heap [] := va_S.rf
  have hl := lv_entry ([.ref (b 0), .int x, .int y]) (n := 8) (Nat.le_of_ble_eq_true rfl)
  rw [lg_entry_eq]
  generalize (lg_sl ([.ref (b 0), .int x, .int y]) ++ List.replicate (8 - (lg_sl ([.ref (b 0), .int x, .int y])).length) Slot.unset).toArray = ls at hl ⊢
  have hl : lv_has ls 8 [(0, .ref (b 0)), (1, .int x), (2, .int y)] := hl
  refine lv_aload_n hx hb dX11_vote_0 rfl (lv_at hl 0 rfl) ?_
  refine lv_iload_n hx hb dX11_vote_1 rfl (lv_at hl 1 rfl) ?_
  have hPc := hP.sub (ws' := [((b 0), .inr (11, [.int th, .ref (b 1), .int sz, .int at_, .int wr, .int dp, .ref (b 6), .ref (b 7), .ref (b 8), .ref (b 9), .ref (b 10), .ref (b 11), .ref (b 12), .int 0, .int tx, .ref (b 15), .ref (b 16), .ref (b 17), .ref (b 18), .ref (b 19), .int rd, .int rc, .ref (b 22), .ref (b 23), .ref (b 24), .int 0, .int 0, .ref (b 27), .int rm, .ref (b 29), .int (-1), .ref (b 31), .ref (b 32), .int (-1), .ref (b 34), .ref (b 35), .int 0, .int 0, .ref (b 38), .ref (b 39), .ref (b 40), .ref (b 41), .ref (b 42), .ref (b 43), .ref (b 44), .ref (b 45), .ref (b 46), .ref (b 47), .int 0, .int 0, .ref (b 50), .ref (b 51), .ref (b 52), .ref (b 53), .ref (b 54), .int (-1), .int 0, .ref (b 57), .ref (b 58), .ref (b 59), .ref (b 60), .ref (b 61), .ref (b 62), .int 0, .int 0, .int 0]))]) [0] rfl
  have hKc := hK.sub (tys' := []) [] rfl
  refine va_calli (va_runV (As := [.int x]) (rest := []) ⟨hx, hb, hml, hown, htg⟩ (c_X11_isDesk l D b th sz at_ wr dp tx rd rc rm x) (cV 1 htg mw_68 kv_X11_isDesk rfl rfl ⟨(Nat.le_of_ble_eq_true rfl), (Nat.le_of_ble_eq_true rfl)⟩) ⟨bl_r, va_recv hKc hPc (ci := 11) (q0 := 0) rfl rfl, us_r hPc hKc⟩ rfl rfl hl.1 rfl (lv_room (Nat.le_of_ble_eq_true rfl)) dX11_vote_2 ⟨(Nat.le_of_ble_eq_true rfl), (Nat.le_of_ble_eq_true rfl)⟩) hS (fun _ _ h9 => False.elim h9) (fun _ h9 => False.elim h9) (fun r_1 u t H locs ht hvm hw hB hz1 hk1 hS => ?_)
  have hP := ro_keep hP hk1
  subst hw
  refine lv_if_eq (tgt := 43) hx hb dX11_vote_5 (by decide) (fun _ => ?_) (fun h9 => False.elim (h9 (by decide)))
  refine lv_ldcw (v := (-1000000)) hx hb hown (htg _ mw_76) dX11_vote_43 ?_
  exact W.iret (v := (-1000000)) hx hb hr  (fun t ht hW => ⟨⟨(-1000000), (), rfl, rfl, trivial⟩, hS.F ht⟩) hS.2.2 dX11_vote_46

set_option maxHeartbeats 4000000 in
set_option maxRecDepth 100000 in
theorem c_X11_image (l : Launch) (D : va_G) (b : Nat → Nat) (th sz at_ wr dp tx rd rc rm : Int32)  : Met l yX11_image (.code yX11_image cX11_image 2 (some .int) :: gw) ({ frames := 0, cells := 0, slots := 0, locals := 0 }) (va_Pc [.ref (b 0)] (pr D [((b 0), .inr (11, [.int th, .ref (b 1), .int sz, .int at_, .int wr, .int dp, .ref (b 6), .ref (b 7), .ref (b 8), .ref (b 9), .ref (b 10), .ref (b 11), .ref (b 12), .int 0, .int tx, .ref (b 15), .ref (b 16), .ref (b 17), .ref (b 18), .ref (b 19), .int rd, .int rc, .ref (b 22), .ref (b 23), .ref (b 24), .int 0, .int 0, .ref (b 27), .int rm, .ref (b 29), .int (-1), .ref (b 31), .ref (b 32), .int (-1), .ref (b 34), .ref (b 35), .int 0, .int 0, .ref (b 38), .ref (b 39), .ref (b 40), .ref (b 41), .ref (b 42), .ref (b 43), .ref (b 44), .ref (b 45), .ref (b 46), .ref (b 47), .int 0, .int 0, .ref (b 50), .ref (b 51), .ref (b 52), .ref (b 53), .ref (b 54), .int (-1), .int 0, .ref (b 57), .ref (b 58), .ref (b 59), .ref (b 60), .ref (b 61), .ref (b 62), .int 0, .int 0, .int 0]))] [])) (va_Qi (fun r (_ : Unit) => r = (-1)) (fun _ _ => True) (fun _ => False)) 0 0 (fun _ => False) := by
  refine Met.ofW (cc := cX11_image) (maxL := 2) (ret := (some .int)) (by decide) rfl ?_
  intro p e s m args below meth c s₁ B hml hv
  obtain ⟨rfl, hP, hK⟩ := hv
  have hx := B.exec
  have hb := B.bytes
  have hr := B.returns
  have hts := atoms_spec (ws := .code yX11_image cX11_image 2 (some .int) :: gw) B.pre
  have htg := gw_tl hts
  have hown : s.vm.findClass RX11 = some m.cls := findClass_of_methodNamed B.named
  have hlocks := B.notSynchronized
  have hS : va_S (fun _ => False) s.heap s.heap [] := va_S.rf
  have hl := lv_entry ([.ref (b 0)]) (n := 2) (Nat.le_of_ble_eq_true rfl)
  rw [lg_entry_eq]
  generalize (lg_sl ([.ref (b 0)]) ++ List.replicate (2 - (lg_sl ([.ref (b 0)])).length) Slot.unset).toArray = ls at hl ⊢
  have hl : lv_has ls 2 [(0, .ref (b 0))] := hl
  refine lv_aload_n hx hb dX11_image_0 rfl (lv_at hl 0 rfl) ?_
  refine va_get (D := D) (ci := 11) (v := .int 0) (C := RX11) (T := TX11) (N := 66) hx hb htg in_X11 hown hK hP 0 rfl rfl 25 (by decide) (htg _ mw_56) (fun _ h9 => h9) rfl dX11_image_1 ?_
  refine lv_if_ne (tgt := 9) hx hb dX11_image_4 (by decide) (fun h9 => False.elim (h9 (by decide))) (fun _ => ?_)
  refine lv_iconst (v := (-1)) hx hb dX11_image_7 (by decide) ?_
  exact W.iret (v := (-1)) hx hb hr  (fun t ht hW => ⟨⟨(-1), (), rfl, rfl, trivial⟩, hS.F ht⟩) hS.2.2 dX11_image_8

set_option maxHeartbeats 4000000 in
set_option maxRecDepth 100000 in
theorem c_X11_back (l : Launch) (D : va_G) (b : Nat → Nat) (th sz at_ wr dp tx rd rc rm : Int32)  : Met l yX11_back (.code yX11_back cX11_back 2 (some .int) :: gw) ({ frames := 0, cells := 0, slots := 0, locals := 0 }) (va_Pc [.ref (b 0)] (pr D [((b 0), .inr (11, [.int th, .ref (b 1), .int sz, .int at_, .int wr, .int dp, .ref (b 6), .ref (b 7), .ref (b 8), .ref (b 9), .ref (b 10), .ref (b 11), .ref (b 12), .int 0, .int tx, .ref (b 15), .ref (b 16), .ref (b 17), .ref (b 18), .ref (b 19), .int rd, .int rc, .ref (b 22), .ref (b 23), .ref (b 24), .int 0, .int 0, .ref (b 27), .int rm, .ref (b 29), .int (-1), .ref (b 31), .ref (b 32), .int (-1), .ref (b 34), .ref (b 35), .int 0, .int 0, .ref (b 38), .ref (b 39), .ref (b 40), .ref (b 41), .ref (b 42), .ref (b 43), .ref (b 44), .ref (b 45), .ref (b 46), .ref (b 47), .int 0, .int 0, .ref (b 50), .ref (b 51), .ref (b 52), .ref (b 53), .ref (b 54), .int (-1), .int 0, .ref (b 57), .ref (b 58), .ref (b 59), .ref (b 60), .ref (b 61), .ref (b 62), .int 0, .int 0, .int 0]))] [])) (va_Qi (fun r (_ : Unit) => r = (-1)) (fun _ _ => True) (fun _ => False)) 0 0 (fun _ => False) := by
  refine Met.ofW (cc := cX11_back) (maxL := 2) (ret := (some .int)) (by decide) rfl ?_
  intro p e s m args below meth c s₁ B hml hv
  obtain ⟨rfl, hP, hK⟩ := hv
  have hx := B.exec
  have hb := B.bytes
  have hr := B.returns
  have hts := atoms_spec (ws := .code yX11_back cX11_back 2 (some .int) :: gw) B.pre
  have htg := gw_tl hts
  have hown : s.vm.findClass RX11 = some m.cls := findClass_of_methodNamed B.named
  have hlocks := B.notSynchronized
  have hS : va_S (fun _ => False) s.heap s.heap [] := va_S.rf
  have hl := lv_entry ([.ref (b 0)]) (n := 2) (Nat.le_of_ble_eq_true rfl)
  rw [lg_entry_eq]
  generalize (lg_sl ([.ref (b 0)]) ++ List.replicate (2 - (lg_sl ([.ref (b 0)])).length) Slot.unset).toArray = ls at hl ⊢
  have hl : lv_has ls 2 [(0, .ref (b 0))] := hl
  refine lv_aload_n hx hb dX11_back_0 rfl (lv_at hl 0 rfl) ?_
  refine va_get (D := D) (ci := 11) (v := .int 0) (C := RX11) (T := TX11) (N := 66) hx hb htg in_X11 hown hK hP 0 rfl rfl 65 (by decide) (htg _ mw_81) (fun _ h9 => h9) rfl dX11_back_1 ?_
  refine lv_if_ne (tgt := 9) hx hb dX11_back_4 (by decide) (fun h9 => False.elim (h9 (by decide))) (fun _ => ?_)
  refine lv_iconst (v := (-1)) hx hb dX11_back_7 (by decide) ?_
  exact W.iret (v := (-1)) hx hb hr  (fun t ht hW => ⟨⟨(-1), (), rfl, rfl, trivial⟩, hS.F ht⟩) hS.2.2 dX11_back_8

set_option maxHeartbeats 4000000 in
set_option maxRecDepth 100000 in
theorem c_X11_told (l : Launch) (D : va_G) (b : Nat → Nat) (th at_ wr dp tx rd rc rm : Int32) (x : Int32) : Met l yX11_told (.code yX11_told cX11_told 2 (some .int) :: gw) ({ frames := 0, cells := 0, slots := 0, locals := 0 }) (va_Pc [.ref (b 0), .int x] (pr D [((b 0), .inr (11, [.int th, .ref (b 1), .int 0, .int at_, .int wr, .int dp, .ref (b 6), .ref (b 7), .ref (b 8), .ref (b 9), .ref (b 10), .ref (b 11), .ref (b 12), .int 0, .int tx, .ref (b 15), .ref (b 16), .ref (b 17), .ref (b 18), .ref (b 19), .int rd, .int rc, .ref (b 22), .ref (b 23), .ref (b 24), .int 0, .int 0, .ref (b 27), .int rm, .ref (b 29), .int (-1), .ref (b 31), .ref (b 32), .int (-1), .ref (b 34), .ref (b 35), .int 0, .int 0, .ref (b 38), .ref (b 39), .ref (b 40), .ref (b 41), .ref (b 42), .ref (b 43), .ref (b 44), .ref (b 45), .ref (b 46), .ref (b 47), .int 0, .int 0, .ref (b 50), .ref (b 51), .ref (b 52), .ref (b 53), .ref (b 54), .int (-1), .int 0, .ref (b 57), .ref (b 58), .ref (b 59), .ref (b 60), .ref (b 61), .ref (b 62), .int 0, .int 0, .int 0]))] [])) (va_Qi (fun r (_ : Unit) => r = sp_told x) (fun _ _ => True) (fun _ => False)) 0 0 (fun _ => False) := by
  refine Met.ofW (cc := cX11_told) (maxL := 2) (ret := (some .int)) (by decide) rfl ?_
  intro p e s m args below meth c s₁ B hml hv
  obtain ⟨rfl, hP, hK⟩ := hv
  have hx := B.exec
  have hb := B.bytes
  have hr := B.returns
  have hts := atoms_spec (ws := .code yX11_told cX11_told 2 (some .int) :: gw) B.pre
  have htg := gw_tl hts
  have hown : s.vm.findClass RX11 = some m.cls := findClass_of_methodNamed B.named
  have hlocks := B.notSynchronized
  have hS : va_S (fun _ => False) s.heap s.heap [] := va_S.rf
  have hl := lv_entry ([.ref (b 0), .int x]) (n := 2) (Nat.le_of_ble_eq_true rfl)
  rw [lg_entry_eq]
  generalize (lg_sl ([.ref (b 0), .int x]) ++ List.replicate (2 - (lg_sl ([.ref (b 0), .int x])).length) Slot.unset).toArray = ls at hl ⊢
  have hl : lv_has ls 2 [(0, .ref (b 0)), (1, .int x)] := hl
  refine lv_iload_n hx hb dX11_told_0 rfl (lv_at hl 1 rfl) ?_
  by_cases h_1 : x = 0
  · subst h_1
    have hl : lv_has ls 2 [(0, .ref (b 0)), (1, .int 0)] := hl
    refine lv_tableIn (off := 43) (tgt := 44) hx hb dX11_told_1 (by decide) (by decide) rfl (by decide) ?_
    refine lv_aload_n hx hb dX11_told_44 rfl (lv_at hl 0 rfl) ?_
    refine va_get (D := D) (ci := 11) (v := .int 0) (C := RX11) (T := TX11) (N := 66) hx hb htg in_X11 hown hK hP 0 rfl rfl 25 (by decide) (htg _ mw_56) (fun _ h9 => h9) rfl dX11_told_45 ?_
    exact W.iret (v := 0) hx hb hr  (fun t ht hW => ⟨⟨0, (), rfl, (by decide), trivial⟩, hS.F ht⟩) hS.2.2 dX11_told_48
  by_cases h_2 : x = 1
  · subst h_2
    have hl : lv_has ls 2 [(0, .ref (b 0)), (1, .int 1)] := hl
    refine lv_tableIn (off := 48) (tgt := 49) hx hb dX11_told_1 (by decide) (by decide) rfl (by decide) ?_
    refine lv_aload_n hx hb dX11_told_49 rfl (lv_at hl 0 rfl) ?_
    refine va_get (D := D) (ci := 11) (v := .int 0) (C := RX11) (T := TX11) (N := 66) hx hb htg in_X11 hown hK hP 0 rfl rfl 26 (by decide) (htg _ mw_82) (fun _ h9 => h9) rfl dX11_told_50 ?_
    exact W.iret (v := 0) hx hb hr  (fun t ht hW => ⟨⟨0, (), rfl, (by decide), trivial⟩, hS.F ht⟩) hS.2.2 dX11_told_53
  by_cases h_3 : x = 2
  · subst h_3
    have hl : lv_has ls 2 [(0, .ref (b 0)), (1, .int 2)] := hl
    refine lv_tableIn (off := 53) (tgt := 54) hx hb dX11_told_1 (by decide) (by decide) rfl (by decide) ?_
    refine lv_aload_n hx hb dX11_told_54 rfl (lv_at hl 0 rfl) ?_
    refine va_get (D := D) (ci := 11) (v := .int 0) (C := RX11) (T := TX11) (N := 66) hx hb htg in_X11 hown hK hP 0 rfl rfl 13 (by decide) (htg _ mw_83) (fun _ h9 => h9) rfl dX11_told_55 ?_
    exact W.iret (v := 0) hx hb hr  (fun t ht hW => ⟨⟨0, (), rfl, (by decide), trivial⟩, hS.F ht⟩) hS.2.2 dX11_told_58
  by_cases h_4 : x = 3
  · subst h_4
    have hl : lv_has ls 2 [(0, .ref (b 0)), (1, .int 3)] := hl
    refine lv_tableIn (off := 58) (tgt := 59) hx hb dX11_told_1 (by decide) (by decide) rfl (by decide) ?_
    refine lv_aload_n hx hb dX11_told_59 rfl (lv_at hl 0 rfl) ?_
    refine va_get (D := D) (ci := 11) (v := .int 0) (C := RX11) (T := TX11) (N := 66) hx hb htg in_X11 hown hK hP 0 rfl rfl 2 (by decide) (htg _ mw_84) (fun _ h9 => h9) rfl dX11_told_60 ?_
    exact W.iret (v := 0) hx hb hr  (fun t ht hW => ⟨⟨0, (), rfl, (by decide), trivial⟩, hS.F ht⟩) hS.2.2 dX11_told_63
  by_cases h_5 : x = 4
  · subst h_5
    have hl : lv_has ls 2 [(0, .ref (b 0)), (1, .int 4)] := hl
    refine lv_tableIn (off := 63) (tgt := 64) hx hb dX11_told_1 (by decide) (by decide) rfl (by decide) ?_
    refine lv_aload_n hx hb dX11_told_64 rfl (lv_at hl 0 rfl) ?_
    refine va_get (D := D) (ci := 11) (v := .int (-1)) (C := RX11) (T := TX11) (N := 66) hx hb htg in_X11 hown hK hP 0 rfl rfl 30 (by decide) (htg _ mw_75) (fun _ h9 => h9) rfl dX11_told_65 ?_
    exact W.iret (v := (-1)) hx hb hr  (fun t ht hW => ⟨⟨(-1), (), rfl, (by decide), trivial⟩, hS.F ht⟩) hS.2.2 dX11_told_68
  by_cases h_6 : x = 5
  · subst h_6
    have hl : lv_has ls 2 [(0, .ref (b 0)), (1, .int 5)] := hl
    refine lv_tableIn (off := 68) (tgt := 69) hx hb dX11_told_1 (by decide) (by decide) rfl (by decide) ?_
    refine lv_aload_n hx hb dX11_told_69 rfl (lv_at hl 0 rfl) ?_
    refine va_get (D := D) (ci := 11) (v := .int 0) (C := RX11) (T := TX11) (N := 66) hx hb htg in_X11 hown hK hP 0 rfl rfl 37 (by decide) (htg _ mw_74) (fun _ h9 => h9) rfl dX11_told_70 ?_
    exact W.iret (v := 0) hx hb hr  (fun t ht hW => ⟨⟨0, (), rfl, (by decide), trivial⟩, hS.F ht⟩) hS.2.2 dX11_told_73
  by_cases h_7 : x = 6
  · subst h_7
    have hl : lv_has ls 2 [(0, .ref (b 0)), (1, .int 6)] := hl
    refine lv_tableIn (off := 73) (tgt := 74) hx hb dX11_told_1 (by decide) (by decide) rfl (by decide) ?_
    refine lv_aload_n hx hb dX11_told_74 rfl (lv_at hl 0 rfl) ?_
    refine va_get (D := D) (ci := 11) (v := .int (-1)) (C := RX11) (T := TX11) (N := 66) hx hb htg in_X11 hown hK hP 0 rfl rfl 33 (by decide) (htg _ mw_85) (fun _ h9 => h9) rfl dX11_told_75 ?_
    exact W.iret (v := (-1)) hx hb hr  (fun t ht hW => ⟨⟨(-1), (), rfl, (by decide), trivial⟩, hS.F ht⟩) hS.2.2 dX11_told_78
  refine lv_tableOut (tgt := 79) hx hb dX11_told_1 (by have := lv_neT (a := 0) h_1 (by decide); have := lv_neT (a := 1) h_2 (by decide); have := lv_neT (a := 2) h_3 (by decide); have := lv_neT (a := 3) h_4 (by decide); have := lv_neT (a := 4) h_5 (by decide); have := lv_neT (a := 5) h_6 (by decide); have := lv_neT (a := 6) h_7 (by decide); omega) (by decide) ?_
  refine lv_ldcw (v := (-1000000)) hx hb hown (htg _ mw_76) dX11_told_79 ?_
  exact W.iret (v := (-1000000)) hx hb hr  (fun t ht hW => ⟨⟨(-1000000), (), rfl, (by rw [sp_told, if_neg h_1, if_neg h_2, if_neg h_3, if_neg h_4, if_neg h_5, if_neg h_6, if_neg h_7]), trivial⟩, hS.F ht⟩) hS.2.2 dX11_told_82

set_option maxHeartbeats 4000000 in
set_option maxRecDepth 100000 in
theorem c_X11_thrown (l : Launch) (D : va_G) (b : Nat → Nat) (th sz at_ wr dp tx rd rc rm : Int32)  : Met l yX11_thrown (.code yX11_thrown cX11_thrown 1 (some .int) :: gw) ({ frames := 0, cells := 0, slots := 0, locals := 0 }) (va_Pc [.ref (b 0)] (pr D [((b 0), .inr (11, [.int th, .ref (b 1), .int sz, .int at_, .int wr, .int dp, .ref (b 6), .ref (b 7), .ref (b 8), .ref (b 9), .ref (b 10), .ref (b 11), .ref (b 12), .int 0, .int tx, .ref (b 15), .ref (b 16), .ref (b 17), .ref (b 18), .ref (b 19), .int rd, .int rc, .ref (b 22), .ref (b 23), .ref (b 24), .int 0, .int 0, .ref (b 27), .int rm, .ref (b 29), .int (-1), .ref (b 31), .ref (b 32), .int (-1), .ref (b 34), .ref (b 35), .int 0, .int 0, .ref (b 38), .ref (b 39), .ref (b 40), .ref (b 41), .ref (b 42), .ref (b 43), .ref (b 44), .ref (b 45), .ref (b 46), .ref (b 47), .int 0, .int 0, .ref (b 50), .ref (b 51), .ref (b 52), .ref (b 53), .ref (b 54), .int (-1), .int 0, .ref (b 57), .ref (b 58), .ref (b 59), .ref (b 60), .ref (b 61), .ref (b 62), .int 0, .int 0, .int 0]))] [])) (va_Qi (fun r (_ : Unit) => r = th) (fun _ _ => True) (fun _ => False)) 0 0 (fun _ => False) := by
  refine Met.ofW (cc := cX11_thrown) (maxL := 1) (ret := (some .int)) (by decide) rfl ?_
  intro p e s m args below meth c s₁ B hml hv
  obtain ⟨rfl, hP, hK⟩ := hv
  have hx := B.exec
  have hb := B.bytes
  have hr := B.returns
  have hts := atoms_spec (ws := .code yX11_thrown cX11_thrown 1 (some .int) :: gw) B.pre
  have htg := gw_tl hts
  have hown : s.vm.findClass RX11 = some m.cls := findClass_of_methodNamed B.named
  have hlocks := B.notSynchronized
  have hS : va_S (fun _ => False) s.heap s.heap [] := va_S.rf
  have hl := lv_entry ([.ref (b 0)]) (n := 1) (Nat.le_of_ble_eq_true rfl)
  rw [lg_entry_eq]
  generalize (lg_sl ([.ref (b 0)]) ++ List.replicate (1 - (lg_sl ([.ref (b 0)])).length) Slot.unset).toArray = ls at hl ⊢
  have hl : lv_has ls 1 [(0, .ref (b 0))] := hl
  refine lv_aload_n hx hb dX11_thrown_0 rfl (lv_at hl 0 rfl) ?_
  refine va_get (D := D) (ci := 11) (v := .int th) (C := RX11) (T := TX11) (N := 66) hx hb htg in_X11 hown hK hP 0 rfl rfl 0 (by decide) (htg _ mw_86) (fun _ h9 => h9) rfl dX11_thrown_1 ?_
  exact W.iret (v := th) hx hb hr  (fun t ht hW => ⟨⟨th, (), rfl, rfl, trivial⟩, hS.F ht⟩) hS.2.2 dX11_thrown_4
end
section
section
set_option maxHeartbeats 4000000 in
set_option maxRecDepth 100000 in
theorem fill_loop {p : Program} {l : Launch} {e : Env} {R : Room} {s : State} {m : MethodId} {args : Array Value} {below : List Frame} {meth : Method} {c : Code} {cells slots : Nat} {Q : State → Prop} (hx : p.tables.exec = Jvm.exec) (hb : c.code = cJ7_fill_53178) {D : va_G} {A : Nat → Prop} {q n : Nat} {cA : ClassId} {x : Int32} (hn : n < 2 ^ 31) (hK : va_K D vwCl [(cA, .int)] s)
    (kk : ∀ (f : Nat → Int32) (H : Heap) (locs : List Loc) (ls : Array Slot), va_P D vwCl [(q, .inl (cA, n, .inl f))] H → va_D A [(q, .inl (cA, n, .inl f))] → va_S A s.heap H locs → W p l e R s m args below meth c H locs cells slots Q (F0 m 20 ls [])) :
    ∀ (k i : Nat) (f : Nat → Int32) (H : Heap) (locs : List Loc) (ls : Array Slot), i ≤ n → n ≤ i + k → lv_has ls 4 [(2, .int (nI i)), (3, .int (nI n)), (0, .ref q), (1, .int x)] → va_P D vwCl [(q, .inl (cA, n, .inl f))] H → va_D A [(q, .inl (cA, n, .inl f))] → va_S A s.heap H locs → W p l e R s m args below meth c H locs cells slots Q (F0 m 5 ls []) := by
  intro k
  induction k with
  | zero =>
    intro i f H locs ls h1 h2 hl hP hD hS
    refine lv_iload_n hx hb dJ7_fill_53178_5 rfl (lv_at hl 0 rfl) ?_
    refine lv_iload_n hx hb dJ7_fill_53178_6 rfl (lv_at hl 1 rfl) ?_
    refine lv_icmp_ge (tgt := 20) hx hb dJ7_fill_53178_7 (by decide) (fun _ => kk f H locs ls hP hD hS) (fun h => absurd (nI_le (by omega) (by omega)) h)
  | succ k ih =>
    intro i f H locs ls h1 h2 hl hP hD hS
    refine lv_iload_n hx hb dJ7_fill_53178_5 rfl (lv_at hl 0 rfl) ?_
    refine lv_iload_n hx hb dJ7_fill_53178_6 rfl (lv_at hl 1 rfl) ?_
    refine lv_icmp_ge (tgt := 20) hx hb dJ7_fill_53178_7 (by decide) (fun _ => kk f H locs ls hP hD hS) (fun h => ?_)
    have hlt : i < n := by
      rcases Nat.lt_or_ge i n with z | z
      · exact z
      · exact absurd (nI_le z (by omega)) h
    refine lv_aload_n hx hb dJ7_fill_53178_10 rfl (lv_at hl 2 rfl) ?_
    refine lv_iload_n hx hb dJ7_fill_53178_11 rfl (lv_at hl 0 rfl) ?_
    refine lv_iload_n hx hb dJ7_fill_53178_12 rfl (lv_at hl 3 rfl) ?_
    refine va_iast hx hb hK hP hD hS 0 0 rfl rfl (i := nI i) (x := x) (vp_in_nI hlt hn) dJ7_fill_53178_13 (fun H locs hP hD hS => ?_)
    obtain ⟨y, ey⟩ : ∃ y : Int32, y = nI i + 1 := ⟨_, rfl⟩
    refine lv_iinc (v := y) (lv' := [(2, .int y), (3, .int (nI n)), (0, .ref q), (1, .int x)]) hx hb dJ7_fill_53178_14 hl (k := 0) rfl (by rw [ey]; rfl) (by decide) rfl (fun ls hl => ?_)
    have e9 : y = nI (i + 1) := ey.trans (nI_1 i)
    subst e9
    refine lv_goto (tgt := 5) hx hb dJ7_fill_53178_17 (by decide) ?_
    exact ih (i + 1) _ H locs ls hlt (by omega) hl hP hD hS
set_option maxHeartbeats 4000000 in
set_option maxRecDepth 100000 in
theorem c_fill (l : Launch) (D : va_G) (q : Nat) (cA : ClassId) (n : Nat) (f : Nat → Int32) (x : Int32) (hn : n < 2 ^ 31) (sz : Nat) : Met l yJ7_fill_53178 (.code yJ7_fill_53178 cJ7_fill_53178 4 none :: gw) ({ frames := 0, cells := 0, slots := 0, locals := 0 }) (va_Pc [.ref q, .int x] (pn D sz [(q, .inl (cA, n, .inl f))] [(cA, .int)])) (va_Qv (fun _ : vU => True) (fun u t => nw D (va_A [(q, .inl (cA, n, .inl f))] sz) [(q, .inl (cA, n, .inl (u.2.2 0)))] [(cA, .int)] t) (va_A [(q, .inl (cA, n, .inl f))] sz)) 0 0 (va_A [(q, .inl (cA, n, .inl f))] sz) := by
  refine Met.ofW (cc := cJ7_fill_53178) (maxL := 4) (ret := none) (by decide) rfl ?_
  intro p e s m args below meth c s₁ B hml hv
  obtain ⟨rfl, hsz, hP, hK, hD0⟩ := hv
  have hx := B.exec
  have hb := B.bytes
  have hr := B.returns
  have hlocks := B.notSynchronized
  subst hsz
  have hD := hD0.self (sz := s.heap.size)
  generalize hAe : va_A [(q, .inl (cA, n, .inl f))] s.heap.size = A at hD ⊢
  have hS : va_S A s.heap s.heap [] := va_S.rf
  have hl := lv_entry ([.ref q, .int x]) (n := 4) (Nat.le_of_ble_eq_true rfl)
  rw [lg_entry_eq]
  generalize (lg_sl ([.ref q, .int x]) ++ List.replicate (4 - (lg_sl ([.ref q, .int x])).length) Slot.unset).toArray = ls at hl ⊢
  have hl : lv_has ls 4 [(0, .ref q), (1, .int x)] := hl
  refine lv_iconst (v := 0) hx hb dJ7_fill_53178_0 (by decide) ?_
  refine lv_istore_n (lv' := [(2, .int 0), (0, .ref q), (1, .int x)]) hx hb dJ7_fill_53178_1 rfl hl (by decide) rfl (fun ls hl => ?_)
  refine lv_aload_n hx hb dJ7_fill_53178_2 rfl (lv_at hl 1 rfl) ?_
  refine va_alen hx hb hK hP 0 0 rfl rfl (v := nI n) rfl dJ7_fill_53178_3 ?_
  refine lv_istore_n (lv' := [(3, .int (nI n)), (2, .int 0), (0, .ref q), (1, .int x)]) hx hb dJ7_fill_53178_4 rfl hl (by decide) rfl (fun ls hl => ?_)
  have hl : lv_has ls 4 [(2, .int (nI 0)), (3, .int (nI n)), (0, .ref q), (1, .int x)] := by
    rw [nI_0]
    exact lv_sub hl [1, 0, 2, 3] rfl
  refine fill_loop hx hb hn hK (fun f H locs ls hP hD hS => ?_) n 0 f s.heap [] ls (Nat.zero_le n) (by omega) hl hP hD hS
  exact W.vret hx hb hr (fun t ht hW => ⟨⟨(fun _ => 0, fun _ => 0, fun _ => f), rfl, trivial, by rw [ht]; exact hP, va_K.moved hW.alike hK, hD⟩, hS.F ht⟩) hS.2.2 dJ7_fill_53178_20
end
end
section
set_option maxHeartbeats 4000000 in
set_option maxRecDepth 100000 in
theorem c_X6_look (l : Launch) (D : va_G) (tp tb : Nat) : Met l yX6_look (.code yX6_look cX6_look 1 (some .int) :: gw) ({ frames := 0, cells := 0, slots := 0, locals := 0 }) (va_Pc [.ref tp] (pr D [(tp, .inr (6, [.ref tb, .int 0, .int 0]))] [])) (va_Qi (fun r (_ : Unit) => r = (-1)) (fun _ _ => True) (fun _ => False)) 0 0 (fun _ => False) := by
  refine Met.ofW (cc := cX6_look) (maxL := 1) (ret := (some .int)) (by decide) rfl ?_
  intro p e s m args below meth c s₁ B hml hv
  obtain ⟨rfl, hP, hK⟩ := hv
  have hx := B.exec
  have hb := B.bytes
  have hr := B.returns
  have hts := atoms_spec (ws := .code yX6_look cX6_look 1 (some .int) :: gw) B.pre
  have htg := gw_tl hts
  have hown : s.vm.findClass RX6 = some m.cls := findClass_of_methodNamed B.named
  have hlocks := B.notSynchronized
  have hS : va_S (fun _ => False) s.heap s.heap [] := va_S.rf
  have hl := lv_entry ([.ref tp]) (n := 1) (Nat.le_of_ble_eq_true rfl)
  rw [lg_entry_eq]
  generalize (lg_sl ([.ref tp]) ++ List.replicate (1 - (lg_sl ([.ref tp])).length) Slot.unset).toArray = ls at hl ⊢
  have hl : lv_has ls 1 [(0, .ref tp)] := hl
  refine lv_aload_n hx hb dX6_look_0 rfl (lv_at hl 0 rfl) ?_
  refine va_get (D := D) (ci := 6) (v := .int 0) (C := RX6) (T := TX6) (N := 3) hx hb htg in_X6 hown hK hP 0 rfl rfl 2 (by decide) (htg _ mw_87) (fun _ h9 => h9) rfl dX6_look_1 ?_
  refine lv_aload_n hx hb dX6_look_4 rfl (lv_at hl 0 rfl) ?_
  refine va_get (D := D) (ci := 6) (v := .int 0) (C := RX6) (T := TX6) (N := 3) hx hb htg in_X6 hown hK hP 0 rfl rfl 1 (by decide) (htg _ mw_88) (fun _ h9 => h9) rfl dX6_look_5 ?_
  refine lv_icmp_ge (tgt := 48) hx hb dX6_look_8 (by decide) (fun _ => ?_) (fun h9 => False.elim (h9 (by decide)))
  refine lv_aload_n hx hb dX6_look_48 rfl (lv_at hl 0 rfl) ?_
  refine va_get (D := D) (ci := 6) (v := .int 0) (C := RX6) (T := TX6) (N := 3) hx hb htg in_X6 hown hK hP 0 rfl rfl 2 (by decide) (htg _ mw_87) (fun _ h9 => h9) rfl dX6_look_49 ?_
  refine lv_aload_n hx hb dX6_look_52 rfl (lv_at hl 0 rfl) ?_
  refine va_get (D := D) (ci := 6) (v := .int 0) (C := RX6) (T := TX6) (N := 3) hx hb htg in_X6 hown hK hP 0 rfl rfl 1 (by decide) (htg _ mw_88) (fun _ h9 => h9) rfl dX6_look_53 ?_
  refine lv_icmp_ge (tgt := 81) hx hb dX6_look_56 (by decide) (fun _ => ?_) (fun h9 => False.elim (h9 (by decide)))
  refine lv_iconst (v := (-1)) hx hb dX6_look_81 (by decide) ?_
  exact W.iret (v := (-1)) hx hb hr  (fun t ht hW => ⟨⟨(-1), (), rfl, rfl, trivial⟩, hS.F ht⟩) hS.2.2 dX6_look_82

set_option maxHeartbeats 4000000 in
set_option maxRecDepth 100000 in
theorem c_X6_takes (l : Launch) (D : va_G) (tp tb : Nat) : Met l yX6_takes (.code yX6_takes cX6_takes 2 (some .boolean) :: gw) ({ frames := 1, cells := 0, slots := 0, locals := 40 }) (va_Pc [.ref tp, .int 121] (pr D [(tp, .inr (6, [.ref tb, .int 0, .int 0]))] [])) (va_Qi (fun r (_ : Unit) => r = 0) (fun _ _ => True) (fun _ => False)) 0 0 (fun _ => False) := by
  refine Met.ofW (cc := cX6_takes) (maxL := 2) (ret := (some .boolean)) (by decide) rfl ?_
  intro p e s m args below meth c s₁ B hml hv
  obtain ⟨rfl, hP, hK⟩ := hv
  have hx := B.exec
  have hb := B.bytes
  have hr := B.returns
  have hts := atoms_spec (ws := .code yX6_takes cX6_takes 2 (some .boolean) :: gw) B.pre
  have htg := gw_tl hts
  have hown : s.vm.findClass RX6 = some m.cls := findClass_of_methodNamed B.named
  have hlocks := B.notSynchronized
  have hS : va_S (fun _ => False) s.heap s.heap [] := va_S.rf
  have hl := lv_entry ([.ref tp, .int 121]) (n := 2) (Nat.le_of_ble_eq_true rfl)
  rw [lg_entry_eq]
  generalize (lg_sl ([.ref tp, .int 121]) ++ List.replicate (2 - (lg_sl ([.ref tp, .int 121])).length) Slot.unset).toArray = ls at hl ⊢
  have hl : lv_has ls 2 [(0, .ref tp), (1, .int 121)] := hl
  refine lv_aload_n hx hb dX6_takes_0 rfl (lv_at hl 0 rfl) ?_
  have hPc := hP.sub (ws' := [(tp, .inr (6, [.ref tb, .int 0, .int 0]))]) [0] rfl
  have hKc := hK.sub (tys' := []) [] rfl
  refine va_calli (va_runV (As := []) (rest := []) ⟨hx, hb, hml, hown, htg⟩ (c_X6_look l D tp tb) (cV 0 htg mw_93 kv_X6_look rfl rfl ⟨(Nat.le_of_ble_eq_true rfl), (Nat.le_of_ble_eq_true rfl)⟩) ⟨bl_r, va_recv hKc hPc (ci := 6) (q0 := 0) rfl rfl, us_r hPc hKc⟩ rfl rfl hl.1 rfl (lv_room (Nat.le_of_ble_eq_true rfl)) dX6_takes_1 ⟨(Nat.le_of_ble_eq_true rfl), (Nat.le_of_ble_eq_true rfl)⟩) hS (fun _ _ h9 => False.elim h9) (fun _ h9 => False.elim h9) (fun r_1 u t H locs ht hvm hw hB hz1 hk1 hS => ?_)
  have hP := ro_keep hP hk1
  subst hw
  refine lv_iload_n hx hb dX6_takes_4 rfl (lv_at hl 1 rfl) ?_
  refine lv_icmp_eq (tgt := 10) hx hb dX6_takes_5 (by decide) (fun h9 => absurd h9 (by decide)) (fun _ => ?_)
  refine lv_iconst (v := 0) hx hb dX6_takes_8 (by decide) ?_
  exact W.zret (v := 0) hx hb hr (by first | rfl | decide | exact ar_nb _) (fun t ht hW => ⟨⟨0, (), rfl, rfl, trivial⟩, hS.F ht⟩) hS.2.2 dX6_takes_9

set_option maxHeartbeats 4000000 in
set_option maxRecDepth 100000 in
theorem c_X3_readClause (l : Launch) (D : va_G) (lr it tp tb : Nat) : Met l yX3_readClause (.code yX3_readClause cX3_readClause 3 (some .boolean) :: gw) ({ frames := 2, cells := 0, slots := 0, locals := 80 }) (va_Pc [.ref lr] (pr D [(lr, .inr (3, [.ref tp, .ref it, .int 0, .int 0])), (tp, .inr (6, [.ref tb, .int 0, .int 0]))] [])) (va_Qi (fun r (_ : Unit) => r = 0) (fun _ _ => True) (fun _ => False)) 0 0 (fun _ => False) := by
  refine Met.ofW (cc := cX3_readClause) (maxL := 3) (ret := (some .boolean)) (by decide) rfl ?_
  intro p e s m args below meth c s₁ B hml hv
  obtain ⟨rfl, hP, hK⟩ := hv
  have hx := B.exec
  have hb := B.bytes
  have hr := B.returns
  have hts := atoms_spec (ws := .code yX3_readClause cX3_readClause 3 (some .boolean) :: gw) B.pre
  have htg := gw_tl hts
  have hown : s.vm.findClass RX3 = some m.cls := findClass_of_methodNamed B.named
  have hlocks := B.notSynchronized
  have hS : va_S (fun _ => False) s.heap s.heap [] := va_S.rf
  have hl := lv_entry ([.ref lr]) (n := 3) (Nat.le_of_ble_eq_true rfl)
  rw [lg_entry_eq]
  generalize (lg_sl ([.ref lr]) ++ List.replicate (3 - (lg_sl ([.ref lr])).length) Slot.unset).toArray = ls at hl ⊢
  have hl : lv_has ls 3 [(0, .ref lr)] := hl
  refine lv_aload_n hx hb dX3_readClause_0 rfl (lv_at hl 0 rfl) ?_
  refine va_get (D := D) (ci := 3) (v := .ref tp) (C := RX3) (T := TX3) (N := 4) hx hb htg in_X3 hown hK hP 0 rfl rfl 0 (by decide) (htg _ mw_94) (fun _ h9 => h9) rfl dX3_readClause_1 ?_
  refine lv_bipush (v := 121) hx hb dX3_readClause_4 (by decide) ?_
  have hPc := hP.sub (ws' := [(tp, .inr (6, [.ref tb, .int 0, .int 0]))]) [1] rfl
  have hKc := hK.sub (tys' := []) [] rfl
  refine va_calli (va_runV (As := [.int 121]) (rest := []) ⟨hx, hb, hml, hown, htg⟩ (c_X6_takes l D tp tb) (cV 1 htg mw_98 kv_X6_takes rfl rfl ⟨(Nat.le_of_ble_eq_true rfl), (Nat.le_of_ble_eq_true rfl)⟩) ⟨bl_r, va_recv hKc hPc (ci := 6) (q0 := 0) rfl rfl, us_r hPc hKc⟩ rfl rfl hl.1 rfl (lv_room (Nat.le_of_ble_eq_true rfl)) dX3_readClause_6 ⟨(Nat.le_of_ble_eq_true rfl), (Nat.le_of_ble_eq_true rfl)⟩) hS (fun _ _ h9 => False.elim h9) (fun _ h9 => False.elim h9) (fun r_1 u t H locs ht hvm hw hB hz1 hk1 hS => ?_)
  have hP := ro_keep hP hk1
  subst hw
  refine lv_if_eq (tgt := 24) hx hb dX3_readClause_9 (by decide) (fun _ => ?_) (fun h9 => False.elim (h9 (by decide)))
  refine lv_iconst (v := 0) hx hb dX3_readClause_24 (by decide) ?_
  exact W.zret (v := 0) hx hb hr (by first | rfl | decide | exact ar_nb _) (fun t ht hW => ⟨⟨0, (), rfl, rfl, trivial⟩, hS.F ht⟩) hS.2.2 dX3_readClause_25

set_option maxHeartbeats 4000000 in
set_option maxRecDepth 100000 in
theorem c_X3_isRead (l : Launch) (D : va_G) (lr it tp tb : Nat) (sz : Nat) : Met l yX3_isRead (.code yX3_isRead cX3_isRead 2 (some .boolean) :: gw) ({ frames := 3, cells := 0, slots := 0, locals := 120 }) (va_Pc [.ref lr] (pn D sz [(lr, .inr (3, [.ref tp, .ref it, .int 0, .int 0])), (tp, .inr (6, [.ref tb, .int 0, .int 0]))] [])) (va_Qi (fun r (_ : vU) => r = 0) (fun u t => nw D (va_A [(lr, .inr (3, [.ref tp, .ref it, .int 0, .int 0])), (tp, .inr (6, [.ref tb, .int 0, .int 0]))] sz) [(lr, .inr (3, [.ref tp, .ref it, .int 0, .int 0])), (tp, .inr (6, [.ref tb, .int 0, .int 0]))] [] t) (va_A [(lr, .inr (3, [.ref tp, .ref it, .int 0, .int 0])), (tp, .inr (6, [.ref tb, .int 0, .int 0]))] sz)) 0 0 (va_A [(lr, .inr (3, [.ref tp, .ref it, .int 0, .int 0])), (tp, .inr (6, [.ref tb, .int 0, .int 0]))] sz) := by
  refine Met.ofW (cc := cX3_isRead) (maxL := 2) (ret := (some .boolean)) (by decide) rfl ?_
  intro p e s m args below meth c s₁ B hml hv
  obtain ⟨rfl, hsz, hP, hK, hD0⟩ := hv
  have hx := B.exec
  have hb := B.bytes
  have hr := B.returns
  have hts := atoms_spec (ws := .code yX3_isRead cX3_isRead 2 (some .boolean) :: gw) B.pre
  have htg := gw_tl hts
  have hown : s.vm.findClass RX3 = some m.cls := findClass_of_methodNamed B.named
  have hlocks := B.notSynchronized
  subst hsz
  have hD := hD0.self (sz := s.heap.size)
  generalize hAe : va_A [(lr, .inr (3, [.ref tp, .ref it, .int 0, .int 0])), (tp, .inr (6, [.ref tb, .int 0, .int 0]))] s.heap.size = A at hD ⊢
  have hA : ∀ q : Nat, s.heap.size ≤ q → A q := fun q h => by rw [← hAe]; exact Or.inr h
  have hS : va_S A s.heap s.heap [] := va_S.rf
  have hl := lv_entry ([.ref lr]) (n := 2) (Nat.le_of_ble_eq_true rfl)
  rw [lg_entry_eq]
  generalize (lg_sl ([.ref lr]) ++ List.replicate (2 - (lg_sl ([.ref lr])).length) Slot.unset).toArray = ls at hl ⊢
  have hl : lv_has ls 2 [(0, .ref lr)] := hl
  refine lv_aload_n hx hb dX3_isRead_0 rfl (lv_at hl 0 rfl) ?_
  refine va_get (D := D) (ci := 3) (v := .ref tp) (C := RX3) (T := TX3) (N := 4) hx hb htg in_X3 hown hK hP 0 rfl rfl 0 (by decide) (htg _ mw_94) (fun _ h9 => h9) rfl dX3_isRead_1 ?_
  refine lv_iconst (v := 0) hx hb dX3_isRead_4 (by decide) ?_
  refine va_put (D := D) (ci := 6) (v := .int 0) (ty := .int) (C := RX6) (T := TX6) (N := 3) hx hb htg in_X6 tyX6 tyX6_ok nmX6 hown hK hP hD hS 1 rfl rfl 2 (by decide) (htg _ mw_99) (fun _ h9 => h9) rfl (by decide +kernel) rfl rfl (Nat.le_of_ble_eq_true rfl) dX3_isRead_5 (fun H locs hP hD hS => ?_)
  have hP : va_P D vwCl [(lr, .inr (3, [.ref tp, .ref it, .int 0, .int 0])), (tp, .inr (6, [.ref tb, .int 0, .int 0]))] H := hP
  have hD : va_D A [(lr, .inr (3, [.ref tp, .ref it, .int 0, .int 0])), (tp, .inr (6, [.ref tb, .int 0, .int 0]))] := hD
  refine lv_aload_n hx hb dX3_isRead_8 rfl (lv_at hl 0 rfl) ?_
  refine lv_iconst (v := 0) hx hb dX3_isRead_9 (by decide) ?_
  refine va_put (D := D) (ci := 3) (v := .int 0) (ty := .int) (C := RX3) (T := TX3) (N := 4) hx hb htg in_X3 tyX3 tyX3_ok nmX3 hown hK hP hD hS 0 rfl rfl 2 (by decide) (htg _ mw_100) (fun _ h9 => h9) rfl (by decide +kernel) rfl rfl (Nat.le_of_ble_eq_true rfl) dX3_isRead_10 (fun H locs hP hD hS => ?_)
  have hP : va_P D vwCl [(lr, .inr (3, [.ref tp, .ref it, .int 0, .int 0])), (tp, .inr (6, [.ref tb, .int 0, .int 0]))] H := hP
  have hD : va_D A [(lr, .inr (3, [.ref tp, .ref it, .int 0, .int 0])), (tp, .inr (6, [.ref tb, .int 0, .int 0]))] := hD
  refine lv_aload_n hx hb dX3_isRead_13 rfl (lv_at hl 0 rfl) ?_
  refine lv_iconst (v := 0) hx hb dX3_isRead_14 (by decide) ?_
  refine va_put (D := D) (ci := 3) (v := .int 0) (ty := .boolean) (C := RX3) (T := TX3) (N := 4) hx hb htg in_X3 tyX3 tyX3_ok nmX3 hown hK hP hD hS 0 rfl rfl 3 (by decide) (htg _ mw_101) (fun _ h9 => h9) rfl (by decide +kernel) rfl rfl (Nat.le_of_ble_eq_true rfl) dX3_isRead_15 (fun H locs hP hD hS => ?_)
  have hP : va_P D vwCl [(lr, .inr (3, [.ref tp, .ref it, .int 0, .int 0])), (tp, .inr (6, [.ref tb, .int 0, .int 0]))] H := hP
  have hD : va_D A [(lr, .inr (3, [.ref tp, .ref it, .int 0, .int 0])), (tp, .inr (6, [.ref tb, .int 0, .int 0]))] := hD
  refine lv_iconst (v := 0) hx hb dX3_isRead_18 (by decide) ?_
  refine lv_istore_n (lv' := [(1, .int 0), (0, .ref lr)]) hx hb dX3_isRead_19 rfl hl (by decide) rfl (fun ls hl => ?_)
  refine lv_iload_n hx hb dX3_isRead_20 rfl (lv_at hl 0 rfl) ?_
  refine lv_sipush (v := 160) hx hb dX3_isRead_21 (by decide) ?_
  refine lv_icmp_gt (tgt := 69) hx hb dX3_isRead_24 (by decide) (fun h9 => absurd h9 (by decide)) (fun _ => ?_)
  refine lv_aload_n hx hb dX3_isRead_27 rfl (lv_at hl 1 rfl) ?_
  have hPc := hP.sub (ws' := [(lr, .inr (3, [.ref tp, .ref it, .int 0, .int 0])), (tp, .inr (6, [.ref tb, .int 0, .int 0]))]) [0, 1] rfl
  have hKc := hK.sub (tys' := []) [] rfl
  refine va_calli (va_runV (As := []) (rest := []) ⟨hx, hb, hml, hown, htg⟩ (c_X3_readClause l D lr it tp tb) (cV 0 htg mw_106 kv_X3_readClause rfl rfl ⟨(Nat.le_of_ble_eq_true rfl), (Nat.le_of_ble_eq_true rfl)⟩) ⟨bl_r, va_recv hKc hPc (ci := 3) (q0 := 0) rfl rfl, us_r hPc hKc⟩ rfl rfl hl.1 rfl (lv_room (Nat.le_of_ble_eq_true rfl)) dX3_isRead_28 ⟨(Nat.le_of_ble_eq_true rfl), (Nat.le_of_ble_eq_true rfl)⟩) hS (fun _ _ h9 => False.elim h9) (fun _ h9 => False.elim h9) (fun r_1 u t H locs ht hvm hw hB hz1 hk1 hS => ?_)
  have hP := ro_keep hP hk1
  subst hw
  refine lv_if_ne (tgt := 36) hx hb dX3_isRead_31 (by decide) (fun h9 => False.elim (h9 (by decide))) (fun _ => ?_)
  refine lv_iconst (v := 0) hx hb dX3_isRead_34 (by decide) ?_
  exact W.zret (v := 0) hx hb hr (by first | rfl | decide | exact ar_nb _) (fun t ht hW => ⟨⟨0, ((fun _ => 0), (fun _ => 0), (fun k => [(fun _ => 0), (fun _ => 0)].getD k (fun _ => 0))), rfl, rfl, by rw [ht]; exact hP, va_K.moved hW.alike hK, hD⟩, hS.F ht⟩) hS.2.2 dX3_isRead_35

set_option maxHeartbeats 4000000 in
set_option maxRecDepth 100000 in
theorem c_X5_isReadFrom (l : Launch) (D : va_G) (pq pm pb tp tb : Nat) (sz : Nat) : Met l yX5_isReadFrom (.code yX5_isReadFrom cX5_isReadFrom 5 (some .boolean) :: gw) ({ frames := 1, cells := 0, slots := 0, locals := 40 }) (va_Pc [.ref pq, .ref tp] (pn D sz [(pq, .inr (5, [.ref pm, .int 0, .ref pb, .int 0, .int 0, .int 0])), (tp, .inr (6, [.ref tb, .int 0, .int 0]))] [])) (va_Qi (fun r (_ : vU) => r = 0) (fun u t => nw D (va_A [(pq, .inr (5, [.ref pm, .int 0, .ref pb, .int 0, .int 0, .int 0])), (tp, .inr (6, [.ref tb, .int 0, .int 0]))] sz) [(pq, .inr (5, [.ref pm, .int 0, .ref pb, .int 0, .int 0, .int 0])), (tp, .inr (6, [.ref tb, .int 0, .int 0]))] [] t) (va_A [(pq, .inr (5, [.ref pm, .int 0, .ref pb, .int 0, .int 0, .int 0])), (tp, .inr (6, [.ref tb, .int 0, .int 0]))] sz)) 0 0 (va_A [(pq, .inr (5, [.ref pm, .int 0, .ref pb, .int 0, .int 0, .int 0])), (tp, .inr (6, [.ref tb, .int 0, .int 0]))] sz) := by
  refine Met.ofW (cc := cX5_isReadFrom) (maxL := 5) (ret := (some .boolean)) (by decide) rfl ?_
  intro p e s m args below meth c s₁ B hml hv
  obtain ⟨rfl, hsz, hP, hK, hD0⟩ := hv
  have hx := B.exec
  have hb := B.bytes
  have hr := B.returns
  have hts := atoms_spec (ws := .code yX5_isReadFrom cX5_isReadFrom 5 (some .boolean) :: gw) B.pre
  have htg := gw_tl hts
  have hown : s.vm.findClass RX5 = some m.cls := findClass_of_methodNamed B.named
  have hlocks := B.notSynchronized
  subst hsz
  have hD := hD0.self (sz := s.heap.size)
  generalize hAe : va_A [(pq, .inr (5, [.ref pm, .int 0, .ref pb, .int 0, .int 0, .int 0])), (tp, .inr (6, [.ref tb, .int 0, .int 0]))] s.heap.size = A at hD ⊢
  have hA : ∀ q : Nat, s.heap.size ≤ q → A q := fun q h => by rw [← hAe]; exact Or.inr h
  have hS : va_S A s.heap s.heap [] := va_S.rf
  have hl := lv_entry ([.ref pq, .ref tp]) (n := 5) (Nat.le_of_ble_eq_true rfl)
  rw [lg_entry_eq]
  generalize (lg_sl ([.ref pq, .ref tp]) ++ List.replicate (5 - (lg_sl ([.ref pq, .ref tp])).length) Slot.unset).toArray = ls at hl ⊢
  have hl : lv_has ls 5 [(0, .ref pq), (1, .ref tp)] := hl
  refine lv_aload_n hx hb dX5_isReadFrom_0 rfl (lv_at hl 0 rfl) ?_
  refine lv_iconst (v := 0) hx hb dX5_isReadFrom_1 (by decide) ?_
  refine va_put (D := D) (ci := 5) (v := .int 0) (ty := .int) (C := RX5) (T := TX5) (N := 6) hx hb htg in_X5 tyX5 tyX5_ok nmX5 hown hK hP hD hS 0 rfl rfl 1 (by decide) (htg _ mw_107) (fun _ h9 => h9) rfl (by decide +kernel) rfl rfl (Nat.le_of_ble_eq_true rfl) dX5_isReadFrom_2 (fun H locs hP hD hS => ?_)
  have hP : va_P D vwCl [(pq, .inr (5, [.ref pm, .int 0, .ref pb, .int 0, .int 0, .int 0])), (tp, .inr (6, [.ref tb, .int 0, .int 0]))] H := hP
  have hD : va_D A [(pq, .inr (5, [.ref pm, .int 0, .ref pb, .int 0, .int 0, .int 0])), (tp, .inr (6, [.ref tb, .int 0, .int 0]))] := hD
  refine lv_aload_n hx hb dX5_isReadFrom_5 rfl (lv_at hl 1 rfl) ?_
  refine lv_iconst (v := 0) hx hb dX5_isReadFrom_6 (by decide) ?_
  refine va_put (D := D) (ci := 6) (v := .int 0) (ty := .int) (C := RX6) (T := TX6) (N := 3) hx hb htg in_X6 tyX6 tyX6_ok nmX6 hown hK hP hD hS 1 rfl rfl 2 (by decide) (htg _ mw_108) (fun _ h9 => h9) rfl (by decide +kernel) rfl rfl (Nat.le_of_ble_eq_true rfl) dX5_isReadFrom_7 (fun H locs hP hD hS => ?_)
  have hP : va_P D vwCl [(pq, .inr (5, [.ref pm, .int 0, .ref pb, .int 0, .int 0, .int 0])), (tp, .inr (6, [.ref tb, .int 0, .int 0]))] H := hP
  have hD : va_D A [(pq, .inr (5, [.ref pm, .int 0, .ref pb, .int 0, .int 0, .int 0])), (tp, .inr (6, [.ref tb, .int 0, .int 0]))] := hD
  refine lv_iconst (v := 0) hx hb dX5_isReadFrom_10 (by decide) ?_
  refine lv_istore_n (lv' := [(2, .int 0), (0, .ref pq), (1, .ref tp)]) hx hb dX5_isReadFrom_11 rfl hl (by decide) rfl (fun ls hl => ?_)
  refine lv_iload_n hx hb dX5_isReadFrom_12 rfl (lv_at hl 0 rfl) ?_
  refine lv_bipush (v := 40) hx hb dX5_isReadFrom_13 (by decide) ?_
  refine lv_icmp_ge (tgt := 137) hx hb dX5_isReadFrom_15 (by decide) (fun h9 => absurd h9 (by decide)) (fun _ => ?_)
  refine lv_aload_n hx hb dX5_isReadFrom_18 rfl (lv_at hl 2 rfl) ?_
  have hPc := hP.sub (ws' := [(tp, .inr (6, [.ref tb, .int 0, .int 0]))]) [1] rfl
  have hKc := hK.sub (tys' := []) [] rfl
  refine va_calli (va_runV (As := []) (rest := []) ⟨hx, hb, hml, hown, htg⟩ (c_X6_look l D tp tb) (cV 0 htg mw_109 kv_X6_look rfl rfl ⟨(Nat.le_of_ble_eq_true rfl), (Nat.le_of_ble_eq_true rfl)⟩) ⟨bl_r, va_recv hKc hPc (ci := 6) (q0 := 0) rfl rfl, us_r hPc hKc⟩ rfl rfl hl.1 rfl (lv_room (Nat.le_of_ble_eq_true rfl)) dX5_isReadFrom_19 ⟨(Nat.le_of_ble_eq_true rfl), (Nat.le_of_ble_eq_true rfl)⟩) hS (fun _ _ h9 => False.elim h9) (fun _ h9 => False.elim h9) (fun r_1 u t H locs ht hvm hw hB hz1 hk1 hS => ?_)
  have hP := ro_keep hP hk1
  subst hw
  refine lv_bipush (v := 65) hx hb dX5_isReadFrom_22 (by decide) ?_
  refine lv_isub hx hb dX5_isReadFrom_24 ?_
  refine lv_val (y := (-66)) (by decide) ?_
  refine lv_istore_n (lv' := [(3, .int (-66)), (2, .int 0), (0, .ref pq), (1, .ref tp)]) hx hb dX5_isReadFrom_25 rfl hl (by decide) rfl (fun ls hl => ?_)
  refine lv_iload_n hx hb dX5_isReadFrom_26 rfl (lv_at hl 0 rfl) ?_
  refine lv_if_lt (tgt := 36) hx hb dX5_isReadFrom_27 (by decide) (fun _ => ?_) (fun h9 => False.elim (h9 (by decide)))
  refine lv_iconst (v := 0) hx hb dX5_isReadFrom_36 (by decide) ?_
  exact W.zret (v := 0) hx hb hr (by first | rfl | decide | exact ar_nb _) (fun t ht hW => ⟨⟨0, ((fun _ => 0), (fun _ => 0), (fun k => [(fun _ => 0), (fun _ => 0)].getD k (fun _ => 0))), rfl, rfl, by rw [ht]; exact hP, va_K.moved hW.alike hK, hD⟩, hS.F ht⟩) hS.2.2 dX5_isReadFrom_37

set_option maxHeartbeats 4000000 in
set_option maxRecDepth 100000 in
theorem c_X4_addDesk (l : Launch) (D : va_G) (o : Nat) (os : List Value) : Met l yX4_addDesk (.code yX4_addDesk cX4_addDesk 4 (some .boolean) :: gw) ({ frames := 0, cells := 0, slots := 0, locals := 0 }) (va_Pc [.ref o, .int (-1)] (pr D [(o, .inr (4, .int 0 :: .int 0 :: os))] [])) (va_Qi (fun r (_ : Unit) => r = 0) (fun _ _ => True) (fun _ => False)) 0 0 (fun _ => False) := by
  refine Met.ofW (cc := cX4_addDesk) (maxL := 4) (ret := (some .boolean)) (by decide) rfl ?_
  intro p e s m args below meth c s₁ B hml hv
  obtain ⟨rfl, hP, hK⟩ := hv
  have hx := B.exec
  have hb := B.bytes
  have hr := B.returns
  have hts := atoms_spec (ws := .code yX4_addDesk cX4_addDesk 4 (some .boolean) :: gw) B.pre
  have htg := gw_tl hts
  have hown : s.vm.findClass RX4 = some m.cls := findClass_of_methodNamed B.named
  have hlocks := B.notSynchronized
  have hS : va_S (fun _ => False) s.heap s.heap [] := va_S.rf
  have hl := lv_entry ([.ref o, .int (-1)]) (n := 4) (Nat.le_of_ble_eq_true rfl)
  rw [lg_entry_eq]
  generalize (lg_sl ([.ref o, .int (-1)]) ++ List.replicate (4 - (lg_sl ([.ref o, .int (-1)])).length) Slot.unset).toArray = ls at hl ⊢
  have hl : lv_has ls 4 [(0, .ref o), (1, .int (-1))] := hl
  refine lv_iload_n hx hb dX4_addDesk_0 rfl (lv_at hl 1 rfl) ?_
  refine lv_bipush (v := 65) hx hb dX4_addDesk_1 (by decide) ?_
  refine lv_isub hx hb dX4_addDesk_3 ?_
  refine lv_val (y := (-66)) (by decide) ?_
  refine lv_istore_n (lv' := [(2, .int (-66)), (0, .ref o), (1, .int (-1))]) hx hb dX4_addDesk_4 rfl hl (by decide) rfl (fun ls hl => ?_)
  refine lv_iload_n hx hb dX4_addDesk_5 rfl (lv_at hl 2 rfl) ?_
  refine lv_bipush (v := 46) hx hb dX4_addDesk_6 (by decide) ?_
  refine lv_icmp_ne (tgt := 15) hx hb dX4_addDesk_8 (by decide) (fun _ => ?_) (fun h9 => absurd h9 (by decide))
  refine lv_iconst (v := 0) hx hb dX4_addDesk_15 (by decide) ?_
  refine lv_istore_n (lv' := [(3, .int 0), (2, .int (-66)), (0, .ref o), (1, .int (-1))]) hx hb dX4_addDesk_16 rfl hl (by decide) rfl (fun ls hl => ?_)
  refine lv_aload_n hx hb dX4_addDesk_17 rfl (lv_at hl 2 rfl) ?_
  refine va_get (D := D) (ci := 4) (v := .int 0) (C := RX4) (T := TX4) (N := 11) hx hb htg in_X4 hown hK hP 0 rfl rfl 0 (by decide) (htg _ mw_0) (fun _ h9 => h9) rfl dX4_addDesk_18 ?_
  refine lv_bipush (v := 12) hx hb dX4_addDesk_21 (by decide) ?_
  refine lv_icmp_ge (tgt := 48) hx hb dX4_addDesk_23 (by decide) (fun h9 => absurd h9 (by decide)) (fun _ => ?_)
  refine lv_iload_n hx hb dX4_addDesk_26 rfl (lv_at hl 0 rfl) ?_
  refine lv_if_ne (tgt := 50) hx hb dX4_addDesk_27 (by decide) (fun h9 => False.elim (h9 (by decide))) (fun _ => ?_)
  refine lv_iload_n hx hb dX4_addDesk_30 rfl (lv_at hl 1 rfl) ?_
  refine lv_if_lt (tgt := 48) hx hb dX4_addDesk_31 (by decide) (fun _ => ?_) (fun h9 => False.elim (h9 (by decide)))
  refine lv_iconst (v := 0) hx hb dX4_addDesk_48 (by decide) ?_
  exact W.zret (v := 0) hx hb hr (by first | rfl | decide | exact ar_nb _) (fun t ht hW => ⟨⟨0, (), rfl, rfl, trivial⟩, hS.F ht⟩) hS.2.2 dX4_addDesk_49

set_option maxHeartbeats 4000000 in
set_option maxRecDepth 100000 in
theorem c_X4_readSeats (l : Launch) (D : va_G) (o : Nat) (os : List Value) (tp tb : Nat) : Met l yX4_readSeats (.code yX4_readSeats cX4_readSeats 4 (some .boolean) :: gw) ({ frames := 1, cells := 0, slots := 0, locals := 40 }) (va_Pc [.ref o, .ref tp] (pr D [(o, .inr (4, .int 0 :: .int 0 :: os)), (tp, .inr (6, [.ref tb, .int 0, .int 0]))] [])) (va_Qi (fun r (_ : Unit) => r = 0) (fun _ _ => True) (fun _ => False)) 0 0 (fun _ => False) := by
  refine Met.ofW (cc := cX4_readSeats) (maxL := 4) (ret := (some .boolean)) (by decide) rfl ?_
  intro p e s m args below meth c s₁ B hml hv
  obtain ⟨rfl, hP, hK⟩ := hv
  have hx := B.exec
  have hb := B.bytes
  have hr := B.returns
  have hts := atoms_spec (ws := .code yX4_readSeats cX4_readSeats 4 (some .boolean) :: gw) B.pre
  have htg := gw_tl hts
  have hown : s.vm.findClass RX4 = some m.cls := findClass_of_methodNamed B.named
  have hlocks := B.notSynchronized
  have hS : va_S (fun _ => False) s.heap s.heap [] := va_S.rf
  have hl := lv_entry ([.ref o, .ref tp]) (n := 4) (Nat.le_of_ble_eq_true rfl)
  rw [lg_entry_eq]
  generalize (lg_sl ([.ref o, .ref tp]) ++ List.replicate (4 - (lg_sl ([.ref o, .ref tp])).length) Slot.unset).toArray = ls at hl ⊢
  have hl : lv_has ls 4 [(0, .ref o), (1, .ref tp)] := hl
  refine lv_iconst (v := 0) hx hb dX4_readSeats_0 (by decide) ?_
  refine lv_istore_n (lv' := [(2, .int 0), (0, .ref o), (1, .ref tp)]) hx hb dX4_readSeats_1 rfl hl (by decide) rfl (fun ls hl => ?_)
  refine lv_iload_n hx hb dX4_readSeats_2 rfl (lv_at hl 0 rfl) ?_
  refine lv_bipush (v := 12) hx hb dX4_readSeats_3 (by decide) ?_
  refine lv_icmp_gt (tgt := 63) hx hb dX4_readSeats_5 (by decide) (fun h9 => absurd h9 (by decide)) (fun _ => ?_)
  refine lv_aload_n hx hb dX4_readSeats_8 rfl (lv_at hl 2 rfl) ?_
  have hPc := hP.sub (ws' := [(tp, .inr (6, [.ref tb, .int 0, .int 0]))]) [1] rfl
  have hKc := hK.sub (tys' := []) [] rfl
  refine va_calli (va_runV (As := []) (rest := []) ⟨hx, hb, hml, hown, htg⟩ (c_X6_look l D tp tb) (cV 0 htg mw_110 kv_X6_look rfl rfl ⟨(Nat.le_of_ble_eq_true rfl), (Nat.le_of_ble_eq_true rfl)⟩) ⟨bl_r, va_recv hKc hPc (ci := 6) (q0 := 0) rfl rfl, us_r hPc hKc⟩ rfl rfl hl.1 rfl (lv_room (Nat.le_of_ble_eq_true rfl)) dX4_readSeats_9 ⟨(Nat.le_of_ble_eq_true rfl), (Nat.le_of_ble_eq_true rfl)⟩) hS (fun _ _ h9 => False.elim h9) (fun _ h9 => False.elim h9) (fun r_1 u t H locs ht hvm hw hB hz1 hk1 hS => ?_)
  have hP := ro_keep hP hk1
  subst hw
  refine lv_istore_n (lv' := [(3, .int (-1)), (2, .int 0), (0, .ref o), (1, .ref tp)]) hx hb dX4_readSeats_12 rfl hl (by decide) rfl (fun ls hl => ?_)
  refine lv_iload_n hx hb dX4_readSeats_13 rfl (lv_at hl 0 rfl) ?_
  refine lv_bipush (v := 59) hx hb dX4_readSeats_14 (by decide) ?_
  refine lv_icmp_ne (tgt := 41) hx hb dX4_readSeats_16 (by decide) (fun _ => ?_) (fun h9 => absurd h9 (by decide))
  refine lv_aload_n hx hb dX4_readSeats_41 rfl (lv_at hl 2 rfl) ?_
  refine lv_iload_n hx hb dX4_readSeats_42 rfl (lv_at hl 0 rfl) ?_
  have hPc := hP.sub (ws' := [(o, .inr (4, .int 0 :: .int 0 :: os))]) [0] rfl
  have hKc := hK.sub (tys' := []) [] rfl
  refine va_calli (va_runV (As := [.int (-1)]) (rest := []) ⟨hx, hb, hml, hown, htg⟩ (c_X4_addDesk l D o os ) (cV 1 htg mw_114 kv_X4_addDesk rfl rfl ⟨(Nat.le_of_ble_eq_true rfl), (Nat.le_of_ble_eq_true rfl)⟩) ⟨bl_r, va_recv hKc hPc (ci := 4) (q0 := 0) rfl rfl, us_r hPc hKc⟩ rfl rfl hl.1 rfl (lv_room (Nat.le_of_ble_eq_true rfl)) dX4_readSeats_43 ⟨(Nat.le_of_ble_eq_true rfl), (Nat.le_of_ble_eq_true rfl)⟩) hS (fun _ _ h9 => False.elim h9) (fun _ h9 => False.elim h9) (fun r_2 u t H locs ht hvm hw hB hz1 hk1 hS => ?_)
  have hP := ro_keep hP hk1
  subst hw
  refine lv_if_ne (tgt := 51) hx hb dX4_readSeats_46 (by decide) (fun h9 => False.elim (h9 (by decide))) (fun _ => ?_)
  refine lv_iconst (v := 0) hx hb dX4_readSeats_49 (by decide) ?_
  exact W.zret (v := 0) hx hb hr (by first | rfl | decide | exact ar_nb _) (fun t ht hW => ⟨⟨0, (), rfl, rfl, trivial⟩, hS.F ht⟩) hS.2.2 dX4_readSeats_50

set_option maxHeartbeats 4000000 in
set_option maxRecDepth 100000 in
theorem c_X4_clear (l : Launch) (D : va_G) (o : Nat) (g : Nat → Nat) (cG : Nat → ClassId) (f : Nat → Nat → Int32) (sz : Nat) : Met l yX4_clear (.code yX4_clear cX4_clear 1 none :: gw) ({ frames := 1, cells := 0, slots := 0, locals := 40 }) (va_Pc [.ref o] (pn D sz [(o, .inr (4, [.int 0, .int 0, .ref (g 0), .ref (g 1), .ref (g 2), .ref (g 3), .ref (g 4), .ref (g 5), .ref (g 6), .ref (g 7), .ref (g 8)])), ((g 0), .inl ((cG 0), 12, .inl (f 0))), ((g 1), .inl ((cG 1), 12, .inl (f 1))), ((g 2), .inl ((cG 2), 144, .inl (f 2))), ((g 3), .inl ((cG 3), 12, .inl (f 3))), ((g 4), .inl ((cG 4), 12, .inl (f 4))), ((g 5), .inl ((cG 5), 12, .inl (f 5))), ((g 6), .inl ((cG 6), 12, .inl (f 6))), ((g 7), .inl ((cG 7), 12, .inl (f 7))), ((g 8), .inl ((cG 8), 144, .inl (f 8)))] [((cG 0), .int), ((cG 1), .int), ((cG 2), .int), ((cG 3), .int), ((cG 4), .int), ((cG 5), .int), ((cG 6), .int), ((cG 7), .int), ((cG 8), .int)])) (va_Qv (fun _ : vU => True) (fun u t => nw D (va_A [(o, .inr (4, [.int 0, .int 0, .ref (g 0), .ref (g 1), .ref (g 2), .ref (g 3), .ref (g 4), .ref (g 5), .ref (g 6), .ref (g 7), .ref (g 8)])), ((g 0), .inl ((cG 0), 12, .inl (f 0))), ((g 1), .inl ((cG 1), 12, .inl (f 1))), ((g 2), .inl ((cG 2), 144, .inl (f 2))), ((g 3), .inl ((cG 3), 12, .inl (f 3))), ((g 4), .inl ((cG 4), 12, .inl (f 4))), ((g 5), .inl ((cG 5), 12, .inl (f 5))), ((g 6), .inl ((cG 6), 12, .inl (f 6))), ((g 7), .inl ((cG 7), 12, .inl (f 7))), ((g 8), .inl ((cG 8), 144, .inl (f 8)))] sz) [(o, .inr (4, [.int 0, .int 0, .ref (g 0), .ref (g 1), .ref (g 2), .ref (g 3), .ref (g 4), .ref (g 5), .ref (g 6), .ref (g 7), .ref (g 8)])), ((g 0), .inl ((cG 0), 12, .inl (u.2.2 1))), ((g 1), .inl ((cG 1), 12, .inl (u.2.2 2))), ((g 2), .inl ((cG 2), 144, .inl (u.2.2 3))), ((g 3), .inl ((cG 3), 12, .inl (u.2.2 4))), ((g 4), .inl ((cG 4), 12, .inl (u.2.2 5))), ((g 5), .inl ((cG 5), 12, .inl (u.2.2 6))), ((g 6), .inl ((cG 6), 12, .inl (u.2.2 7))), ((g 7), .inl ((cG 7), 12, .inl (u.2.2 8))), ((g 8), .inl ((cG 8), 144, .inl (u.2.2 9)))] [((cG 0), .int), ((cG 1), .int), ((cG 2), .int), ((cG 3), .int), ((cG 4), .int), ((cG 5), .int), ((cG 6), .int), ((cG 7), .int), ((cG 8), .int)] t) (va_A [(o, .inr (4, [.int 0, .int 0, .ref (g 0), .ref (g 1), .ref (g 2), .ref (g 3), .ref (g 4), .ref (g 5), .ref (g 6), .ref (g 7), .ref (g 8)])), ((g 0), .inl ((cG 0), 12, .inl (f 0))), ((g 1), .inl ((cG 1), 12, .inl (f 1))), ((g 2), .inl ((cG 2), 144, .inl (f 2))), ((g 3), .inl ((cG 3), 12, .inl (f 3))), ((g 4), .inl ((cG 4), 12, .inl (f 4))), ((g 5), .inl ((cG 5), 12, .inl (f 5))), ((g 6), .inl ((cG 6), 12, .inl (f 6))), ((g 7), .inl ((cG 7), 12, .inl (f 7))), ((g 8), .inl ((cG 8), 144, .inl (f 8)))] sz)) 0 0 (va_A [(o, .inr (4, [.int 0, .int 0, .ref (g 0), .ref (g 1), .ref (g 2), .ref (g 3), .ref (g 4), .ref (g 5), .ref (g 6), .ref (g 7), .ref (g 8)])), ((g 0), .inl ((cG 0), 12, .inl (f 0))), ((g 1), .inl ((cG 1), 12, .inl (f 1))), ((g 2), .inl ((cG 2), 144, .inl (f 2))), ((g 3), .inl ((cG 3), 12, .inl (f 3))), ((g 4), .inl ((cG 4), 12, .inl (f 4))), ((g 5), .inl ((cG 5), 12, .inl (f 5))), ((g 6), .inl ((cG 6), 12, .inl (f 6))), ((g 7), .inl ((cG 7), 12, .inl (f 7))), ((g 8), .inl ((cG 8), 144, .inl (f 8)))] sz) := by
  refine Met.ofW (cc := cX4_clear) (maxL := 1) (ret := none) (by decide) rfl ?_
  intro p e s m args below meth c s₁ B hml hv
  obtain ⟨rfl, hsz, hP, hK, hD0⟩ := hv
  have hx := B.exec
  have hb := B.bytes
  have hr := B.returns
  have hts := atoms_spec (ws := .code yX4_clear cX4_clear 1 none :: gw) B.pre
  have htg := gw_tl hts
  have hown : s.vm.findClass RX4 = some m.cls := findClass_of_methodNamed B.named
  have hlocks := B.notSynchronized
  subst hsz
  have hD := hD0.self (sz := s.heap.size)
  generalize hAe : va_A [(o, .inr (4, [.int 0, .int 0, .ref (g 0), .ref (g 1), .ref (g 2), .ref (g 3), .ref (g 4), .ref (g 5), .ref (g 6), .ref (g 7), .ref (g 8)])), ((g 0), .inl ((cG 0), 12, .inl (f 0))), ((g 1), .inl ((cG 1), 12, .inl (f 1))), ((g 2), .inl ((cG 2), 144, .inl (f 2))), ((g 3), .inl ((cG 3), 12, .inl (f 3))), ((g 4), .inl ((cG 4), 12, .inl (f 4))), ((g 5), .inl ((cG 5), 12, .inl (f 5))), ((g 6), .inl ((cG 6), 12, .inl (f 6))), ((g 7), .inl ((cG 7), 12, .inl (f 7))), ((g 8), .inl ((cG 8), 144, .inl (f 8)))] s.heap.size = A at hD ⊢
  have hA : ∀ q : Nat, s.heap.size ≤ q → A q := fun q h => by rw [← hAe]; exact Or.inr h
  have hS : va_S A s.heap s.heap [] := va_S.rf
  have hl := lv_entry ([.ref o]) (n := 1) (Nat.le_of_ble_eq_true rfl)
  rw [lg_entry_eq]
  generalize (lg_sl ([.ref o]) ++ List.replicate (1 - (lg_sl ([.ref o])).length) Slot.unset).toArray = ls at hl ⊢
  have hl : lv_has ls 1 [(0, .ref o)] := hl
  refine lv_aload_n hx hb dX4_clear_0 rfl (lv_at hl 0 rfl) ?_
  refine lv_iconst (v := 0) hx hb dX4_clear_1 (by decide) ?_
  refine va_put (D := D) (ci := 4) (v := .int 0) (ty := .int) (C := RX4) (T := TX4) (N := 11) hx hb htg in_X4 tyX4 tyX4_ok nmX4 hown hK hP hD hS 0 rfl rfl 0 (by decide) (htg _ mw_0) (fun _ h9 => h9) rfl (by decide +kernel) rfl rfl (Nat.le_of_ble_eq_true rfl) dX4_clear_2 (fun H locs hP hD hS => ?_)
  have hP : va_P D vwCl [(o, .inr (4, [.int 0, .int 0, .ref (g 0), .ref (g 1), .ref (g 2), .ref (g 3), .ref (g 4), .ref (g 5), .ref (g 6), .ref (g 7), .ref (g 8)])), ((g 0), .inl ((cG 0), 12, .inl (f 0))), ((g 1), .inl ((cG 1), 12, .inl (f 1))), ((g 2), .inl ((cG 2), 144, .inl (f 2))), ((g 3), .inl ((cG 3), 12, .inl (f 3))), ((g 4), .inl ((cG 4), 12, .inl (f 4))), ((g 5), .inl ((cG 5), 12, .inl (f 5))), ((g 6), .inl ((cG 6), 12, .inl (f 6))), ((g 7), .inl ((cG 7), 12, .inl (f 7))), ((g 8), .inl ((cG 8), 144, .inl (f 8)))] H := hP
  have hD : va_D A [(o, .inr (4, [.int 0, .int 0, .ref (g 0), .ref (g 1), .ref (g 2), .ref (g 3), .ref (g 4), .ref (g 5), .ref (g 6), .ref (g 7), .ref (g 8)])), ((g 0), .inl ((cG 0), 12, .inl (f 0))), ((g 1), .inl ((cG 1), 12, .inl (f 1))), ((g 2), .inl ((cG 2), 144, .inl (f 2))), ((g 3), .inl ((cG 3), 12, .inl (f 3))), ((g 4), .inl ((cG 4), 12, .inl (f 4))), ((g 5), .inl ((cG 5), 12, .inl (f 5))), ((g 6), .inl ((cG 6), 12, .inl (f 6))), ((g 7), .inl ((cG 7), 12, .inl (f 7))), ((g 8), .inl ((cG 8), 144, .inl (f 8)))] := hD
  refine lv_aload_n hx hb dX4_clear_5 rfl (lv_at hl 0 rfl) ?_
  refine lv_iconst (v := 0) hx hb dX4_clear_6 (by decide) ?_
  refine va_put (D := D) (ci := 4) (v := .int 0) (ty := .int) (C := RX4) (T := TX4) (N := 11) hx hb htg in_X4 tyX4 tyX4_ok nmX4 hown hK hP hD hS 0 rfl rfl 1 (by decide) (htg _ mw_1) (fun _ h9 => h9) rfl (by decide +kernel) rfl rfl (Nat.le_of_ble_eq_true rfl) dX4_clear_7 (fun H locs hP hD hS => ?_)
  have hP : va_P D vwCl [(o, .inr (4, [.int 0, .int 0, .ref (g 0), .ref (g 1), .ref (g 2), .ref (g 3), .ref (g 4), .ref (g 5), .ref (g 6), .ref (g 7), .ref (g 8)])), ((g 0), .inl ((cG 0), 12, .inl (f 0))), ((g 1), .inl ((cG 1), 12, .inl (f 1))), ((g 2), .inl ((cG 2), 144, .inl (f 2))), ((g 3), .inl ((cG 3), 12, .inl (f 3))), ((g 4), .inl ((cG 4), 12, .inl (f 4))), ((g 5), .inl ((cG 5), 12, .inl (f 5))), ((g 6), .inl ((cG 6), 12, .inl (f 6))), ((g 7), .inl ((cG 7), 12, .inl (f 7))), ((g 8), .inl ((cG 8), 144, .inl (f 8)))] H := hP
  have hD : va_D A [(o, .inr (4, [.int 0, .int 0, .ref (g 0), .ref (g 1), .ref (g 2), .ref (g 3), .ref (g 4), .ref (g 5), .ref (g 6), .ref (g 7), .ref (g 8)])), ((g 0), .inl ((cG 0), 12, .inl (f 0))), ((g 1), .inl ((cG 1), 12, .inl (f 1))), ((g 2), .inl ((cG 2), 144, .inl (f 2))), ((g 3), .inl ((cG 3), 12, .inl (f 3))), ((g 4), .inl ((cG 4), 12, .inl (f 4))), ((g 5), .inl ((cG 5), 12, .inl (f 5))), ((g 6), .inl ((cG 6), 12, .inl (f 6))), ((g 7), .inl ((cG 7), 12, .inl (f 7))), ((g 8), .inl ((cG 8), 144, .inl (f 8)))] := hD
  refine lv_aload_n hx hb dX4_clear_10 rfl (lv_at hl 0 rfl) ?_
  refine va_get (D := D) (ci := 4) (v := .ref (g 0)) (C := RX4) (T := TX4) (N := 11) hx hb htg in_X4 hown hK hP 0 rfl rfl 2 (by decide) (htg _ mw_115) (fun _ h9 => h9) rfl dX4_clear_11 ?_
  refine lv_iconst (v := (-1)) hx hb dX4_clear_14 (by decide) ?_
  have hPc := hP.sub (ws' := [((g 0), .inl ((cG 0), 12, .inl (f 0)))]) [1] rfl
  have hDc := hD.sub (ws' := [((g 0), .inl ((cG 0), 12, .inl (f 0)))]) [1] (by decide) rfl
  have hKc := hK.sub (tys' := [((cG 0), .int)]) [0] rfl
  have hFc := va_free (wc := [((g 0), .inl ((cG 0), 12, .inl (f 0)))]) hD hS hA [1] rfl
  refine va_callv (va_runS (As := [.ref (g 0), .int (-1)]) (rest := []) ⟨hx, hb, hml, hown, htg⟩ (c_fill l D (g 0) (cG 0) 12 (f 0) (-1) (by decide) H.size) (cS 2 htg mw_119 kv_J7_fill_53178 rfl rfl ⟨(Nat.le_of_ble_eq_true rfl), (Nat.le_of_ble_eq_true rfl)⟩) ⟨bl_n, us_n hPc hKc hDc⟩ rfl rfl hl.1 rfl (lv_room (Nat.le_of_ble_eq_true rfl)) dX4_clear_15 ⟨(Nat.le_of_ble_eq_true rfl), (Nat.le_of_ble_eq_true rfl)⟩) hS (fun q _ h => hFc q h) hFc (fun u t H locs ht hvm hw hB hz1 hk1 hS => ?_)
  obtain ⟨a_1, c_1, f_1⟩ := u
  obtain ⟨hP1, hK1, hD1⟩ := hB
  rw [ht] at hP1
  have hK1 := va_K.moved hvm.symm hK1
  obtain ⟨hP, hD⟩ := va_join (wr := [(o, .inr (4, [.int 0, .int 0, .ref (g 0), .ref (g 1), .ref (g 2), .ref (g 3), .ref (g 4), .ref (g 5), .ref (g 6), .ref (g 7), .ref (g 8)])), ((g 1), .inl ((cG 1), 12, .inl (f 1))), ((g 2), .inl ((cG 2), 144, .inl (f 2))), ((g 3), .inl ((cG 3), 12, .inl (f 3))), ((g 4), .inl ((cG 4), 12, .inl (f 4))), ((g 5), .inl ((cG 5), 12, .inl (f 5))), ((g 6), .inl ((cG 6), 12, .inl (f 6))), ((g 7), .inl ((cG 7), 12, .inl (f 7))), ((g 8), .inl ((cG 8), 144, .inl (f 8)))]) (w1 := [((g 0), .inl ((cG 0), 12, .inl (f_1 0)))]) hP hD [1] [0, 2, 3, 4, 5, 6, 7, 8, 9] rfl rfl (by decide) (by decide) hk1 hFc hP1 hD1
  have hP : va_P D vwCl [(o, .inr (4, [.int 0, .int 0, .ref (g 0), .ref (g 1), .ref (g 2), .ref (g 3), .ref (g 4), .ref (g 5), .ref (g 6), .ref (g 7), .ref (g 8)])), ((g 1), .inl ((cG 1), 12, .inl (f 1))), ((g 2), .inl ((cG 2), 144, .inl (f 2))), ((g 3), .inl ((cG 3), 12, .inl (f 3))), ((g 4), .inl ((cG 4), 12, .inl (f 4))), ((g 5), .inl ((cG 5), 12, .inl (f 5))), ((g 6), .inl ((cG 6), 12, .inl (f 6))), ((g 7), .inl ((cG 7), 12, .inl (f 7))), ((g 8), .inl ((cG 8), 144, .inl (f 8))), ((g 0), .inl ((cG 0), 12, .inl (f_1 0)))] H := hP
  have hD : va_D A [(o, .inr (4, [.int 0, .int 0, .ref (g 0), .ref (g 1), .ref (g 2), .ref (g 3), .ref (g 4), .ref (g 5), .ref (g 6), .ref (g 7), .ref (g 8)])), ((g 1), .inl ((cG 1), 12, .inl (f 1))), ((g 2), .inl ((cG 2), 144, .inl (f 2))), ((g 3), .inl ((cG 3), 12, .inl (f 3))), ((g 4), .inl ((cG 4), 12, .inl (f 4))), ((g 5), .inl ((cG 5), 12, .inl (f 5))), ((g 6), .inl ((cG 6), 12, .inl (f 6))), ((g 7), .inl ((cG 7), 12, .inl (f 7))), ((g 8), .inl ((cG 8), 144, .inl (f 8))), ((g 0), .inl ((cG 0), 12, .inl (f_1 0)))] := hD
  refine lv_aload_n hx hb dX4_clear_18 rfl (lv_at hl 0 rfl) ?_
  refine va_get (D := D) (ci := 4) (v := .ref (g 1)) (C := RX4) (T := TX4) (N := 11) hx hb htg in_X4 hown hK hP 0 rfl rfl 3 (by decide) (htg _ mw_120) (fun _ h9 => h9) rfl dX4_clear_19 ?_
  refine lv_iconst (v := (-1)) hx hb dX4_clear_22 (by decide) ?_
  have hPc := hP.sub (ws' := [((g 1), .inl ((cG 1), 12, .inl (f 1)))]) [1] rfl
  have hDc := hD.sub (ws' := [((g 1), .inl ((cG 1), 12, .inl (f 1)))]) [1] (by decide) rfl
  have hKc := hK.sub (tys' := [((cG 1), .int)]) [1] rfl
  have hFc := va_free (wc := [((g 1), .inl ((cG 1), 12, .inl (f 1)))]) hD hS hA [1] rfl
  refine va_callv (va_runS (As := [.ref (g 1), .int (-1)]) (rest := []) ⟨hx, hb, hml, hown, htg⟩ (c_fill l D (g 1) (cG 1) 12 (f 1) (-1) (by decide) H.size) (cS 2 htg mw_119 kv_J7_fill_53178 rfl rfl ⟨(Nat.le_of_ble_eq_true rfl), (Nat.le_of_ble_eq_true rfl)⟩) ⟨bl_n, us_n hPc hKc hDc⟩ rfl rfl hl.1 rfl (lv_room (Nat.le_of_ble_eq_true rfl)) dX4_clear_23 ⟨(Nat.le_of_ble_eq_true rfl), (Nat.le_of_ble_eq_true rfl)⟩) hS (fun q _ h => hFc q h) hFc (fun u t H locs ht hvm hw hB hz1 hk1 hS => ?_)
  obtain ⟨a_2, c_2, f_2⟩ := u
  obtain ⟨hP1, hK1, hD1⟩ := hB
  rw [ht] at hP1
  have hK1 := va_K.moved hvm.symm hK1
  obtain ⟨hP, hD⟩ := va_join (wr := [(o, .inr (4, [.int 0, .int 0, .ref (g 0), .ref (g 1), .ref (g 2), .ref (g 3), .ref (g 4), .ref (g 5), .ref (g 6), .ref (g 7), .ref (g 8)])), ((g 2), .inl ((cG 2), 144, .inl (f 2))), ((g 3), .inl ((cG 3), 12, .inl (f 3))), ((g 4), .inl ((cG 4), 12, .inl (f 4))), ((g 5), .inl ((cG 5), 12, .inl (f 5))), ((g 6), .inl ((cG 6), 12, .inl (f 6))), ((g 7), .inl ((cG 7), 12, .inl (f 7))), ((g 8), .inl ((cG 8), 144, .inl (f 8))), ((g 0), .inl ((cG 0), 12, .inl (f_1 0)))]) (w1 := [((g 1), .inl ((cG 1), 12, .inl (f_2 0)))]) hP hD [1] [0, 2, 3, 4, 5, 6, 7, 8, 9] rfl rfl (by decide) (by decide) hk1 hFc hP1 hD1
  have hP : va_P D vwCl [(o, .inr (4, [.int 0, .int 0, .ref (g 0), .ref (g 1), .ref (g 2), .ref (g 3), .ref (g 4), .ref (g 5), .ref (g 6), .ref (g 7), .ref (g 8)])), ((g 2), .inl ((cG 2), 144, .inl (f 2))), ((g 3), .inl ((cG 3), 12, .inl (f 3))), ((g 4), .inl ((cG 4), 12, .inl (f 4))), ((g 5), .inl ((cG 5), 12, .inl (f 5))), ((g 6), .inl ((cG 6), 12, .inl (f 6))), ((g 7), .inl ((cG 7), 12, .inl (f 7))), ((g 8), .inl ((cG 8), 144, .inl (f 8))), ((g 0), .inl ((cG 0), 12, .inl (f_1 0))), ((g 1), .inl ((cG 1), 12, .inl (f_2 0)))] H := hP
  have hD : va_D A [(o, .inr (4, [.int 0, .int 0, .ref (g 0), .ref (g 1), .ref (g 2), .ref (g 3), .ref (g 4), .ref (g 5), .ref (g 6), .ref (g 7), .ref (g 8)])), ((g 2), .inl ((cG 2), 144, .inl (f 2))), ((g 3), .inl ((cG 3), 12, .inl (f 3))), ((g 4), .inl ((cG 4), 12, .inl (f 4))), ((g 5), .inl ((cG 5), 12, .inl (f 5))), ((g 6), .inl ((cG 6), 12, .inl (f 6))), ((g 7), .inl ((cG 7), 12, .inl (f 7))), ((g 8), .inl ((cG 8), 144, .inl (f 8))), ((g 0), .inl ((cG 0), 12, .inl (f_1 0))), ((g 1), .inl ((cG 1), 12, .inl (f_2 0)))] := hD
  refine lv_aload_n hx hb dX4_clear_26 rfl (lv_at hl 0 rfl) ?_
  refine va_get (D := D) (ci := 4) (v := .ref (g 2)) (C := RX4) (T := TX4) (N := 11) hx hb htg in_X4 hown hK hP 0 rfl rfl 4 (by decide) (htg _ mw_121) (fun _ h9 => h9) rfl dX4_clear_27 ?_
  refine lv_iconst (v := 0) hx hb dX4_clear_30 (by decide) ?_
  have hPc := hP.sub (ws' := [((g 2), .inl ((cG 2), 144, .inl (f 2)))]) [1] rfl
  have hDc := hD.sub (ws' := [((g 2), .inl ((cG 2), 144, .inl (f 2)))]) [1] (by decide) rfl
  have hKc := hK.sub (tys' := [((cG 2), .int)]) [2] rfl
  have hFc := va_free (wc := [((g 2), .inl ((cG 2), 144, .inl (f 2)))]) hD hS hA [1] rfl
  refine va_callv (va_runS (As := [.ref (g 2), .int 0]) (rest := []) ⟨hx, hb, hml, hown, htg⟩ (c_fill l D (g 2) (cG 2) 144 (f 2) 0 (by decide) H.size) (cS 2 htg mw_119 kv_J7_fill_53178 rfl rfl ⟨(Nat.le_of_ble_eq_true rfl), (Nat.le_of_ble_eq_true rfl)⟩) ⟨bl_n, us_n hPc hKc hDc⟩ rfl rfl hl.1 rfl (lv_room (Nat.le_of_ble_eq_true rfl)) dX4_clear_31 ⟨(Nat.le_of_ble_eq_true rfl), (Nat.le_of_ble_eq_true rfl)⟩) hS (fun q _ h => hFc q h) hFc (fun u t H locs ht hvm hw hB hz1 hk1 hS => ?_)
  obtain ⟨a_3, c_3, f_3⟩ := u
  obtain ⟨hP1, hK1, hD1⟩ := hB
  rw [ht] at hP1
  have hK1 := va_K.moved hvm.symm hK1
  obtain ⟨hP, hD⟩ := va_join (wr := [(o, .inr (4, [.int 0, .int 0, .ref (g 0), .ref (g 1), .ref (g 2), .ref (g 3), .ref (g 4), .ref (g 5), .ref (g 6), .ref (g 7), .ref (g 8)])), ((g 3), .inl ((cG 3), 12, .inl (f 3))), ((g 4), .inl ((cG 4), 12, .inl (f 4))), ((g 5), .inl ((cG 5), 12, .inl (f 5))), ((g 6), .inl ((cG 6), 12, .inl (f 6))), ((g 7), .inl ((cG 7), 12, .inl (f 7))), ((g 8), .inl ((cG 8), 144, .inl (f 8))), ((g 0), .inl ((cG 0), 12, .inl (f_1 0))), ((g 1), .inl ((cG 1), 12, .inl (f_2 0)))]) (w1 := [((g 2), .inl ((cG 2), 144, .inl (f_3 0)))]) hP hD [1] [0, 2, 3, 4, 5, 6, 7, 8, 9] rfl rfl (by decide) (by decide) hk1 hFc hP1 hD1
  have hP : va_P D vwCl [(o, .inr (4, [.int 0, .int 0, .ref (g 0), .ref (g 1), .ref (g 2), .ref (g 3), .ref (g 4), .ref (g 5), .ref (g 6), .ref (g 7), .ref (g 8)])), ((g 3), .inl ((cG 3), 12, .inl (f 3))), ((g 4), .inl ((cG 4), 12, .inl (f 4))), ((g 5), .inl ((cG 5), 12, .inl (f 5))), ((g 6), .inl ((cG 6), 12, .inl (f 6))), ((g 7), .inl ((cG 7), 12, .inl (f 7))), ((g 8), .inl ((cG 8), 144, .inl (f 8))), ((g 0), .inl ((cG 0), 12, .inl (f_1 0))), ((g 1), .inl ((cG 1), 12, .inl (f_2 0))), ((g 2), .inl ((cG 2), 144, .inl (f_3 0)))] H := hP
  have hD : va_D A [(o, .inr (4, [.int 0, .int 0, .ref (g 0), .ref (g 1), .ref (g 2), .ref (g 3), .ref (g 4), .ref (g 5), .ref (g 6), .ref (g 7), .ref (g 8)])), ((g 3), .inl ((cG 3), 12, .inl (f 3))), ((g 4), .inl ((cG 4), 12, .inl (f 4))), ((g 5), .inl ((cG 5), 12, .inl (f 5))), ((g 6), .inl ((cG 6), 12, .inl (f 6))), ((g 7), .inl ((cG 7), 12, .inl (f 7))), ((g 8), .inl ((cG 8), 144, .inl (f 8))), ((g 0), .inl ((cG 0), 12, .inl (f_1 0))), ((g 1), .inl ((cG 1), 12, .inl (f_2 0))), ((g 2), .inl ((cG 2), 144, .inl (f_3 0)))] := hD
  refine lv_aload_n hx hb dX4_clear_34 rfl (lv_at hl 0 rfl) ?_
  refine va_get (D := D) (ci := 4) (v := .ref (g 3)) (C := RX4) (T := TX4) (N := 11) hx hb htg in_X4 hown hK hP 0 rfl rfl 5 (by decide) (htg _ mw_122) (fun _ h9 => h9) rfl dX4_clear_35 ?_
  refine lv_iconst (v := 0) hx hb dX4_clear_38 (by decide) ?_
  have hPc := hP.sub (ws' := [((g 3), .inl ((cG 3), 12, .inl (f 3)))]) [1] rfl
  have hDc := hD.sub (ws' := [((g 3), .inl ((cG 3), 12, .inl (f 3)))]) [1] (by decide) rfl
  have hKc := hK.sub (tys' := [((cG 3), .int)]) [3] rfl
  have hFc := va_free (wc := [((g 3), .inl ((cG 3), 12, .inl (f 3)))]) hD hS hA [1] rfl
  refine va_callv (va_runS (As := [.ref (g 3), .int 0]) (rest := []) ⟨hx, hb, hml, hown, htg⟩ (c_fill l D (g 3) (cG 3) 12 (f 3) 0 (by decide) H.size) (cS 2 htg mw_119 kv_J7_fill_53178 rfl rfl ⟨(Nat.le_of_ble_eq_true rfl), (Nat.le_of_ble_eq_true rfl)⟩) ⟨bl_n, us_n hPc hKc hDc⟩ rfl rfl hl.1 rfl (lv_room (Nat.le_of_ble_eq_true rfl)) dX4_clear_39 ⟨(Nat.le_of_ble_eq_true rfl), (Nat.le_of_ble_eq_true rfl)⟩) hS (fun q _ h => hFc q h) hFc (fun u t H locs ht hvm hw hB hz1 hk1 hS => ?_)
  obtain ⟨a_4, c_4, f_4⟩ := u
  obtain ⟨hP1, hK1, hD1⟩ := hB
  rw [ht] at hP1
  have hK1 := va_K.moved hvm.symm hK1
  obtain ⟨hP, hD⟩ := va_join (wr := [(o, .inr (4, [.int 0, .int 0, .ref (g 0), .ref (g 1), .ref (g 2), .ref (g 3), .ref (g 4), .ref (g 5), .ref (g 6), .ref (g 7), .ref (g 8)])), ((g 4), .inl ((cG 4), 12, .inl (f 4))), ((g 5), .inl ((cG 5), 12, .inl (f 5))), ((g 6), .inl ((cG 6), 12, .inl (f 6))), ((g 7), .inl ((cG 7), 12, .inl (f 7))), ((g 8), .inl ((cG 8), 144, .inl (f 8))), ((g 0), .inl ((cG 0), 12, .inl (f_1 0))), ((g 1), .inl ((cG 1), 12, .inl (f_2 0))), ((g 2), .inl ((cG 2), 144, .inl (f_3 0)))]) (w1 := [((g 3), .inl ((cG 3), 12, .inl (f_4 0)))]) hP hD [1] [0, 2, 3, 4, 5, 6, 7, 8, 9] rfl rfl (by decide) (by decide) hk1 hFc hP1 hD1
  have hP : va_P D vwCl [(o, .inr (4, [.int 0, .int 0, .ref (g 0), .ref (g 1), .ref (g 2), .ref (g 3), .ref (g 4), .ref (g 5), .ref (g 6), .ref (g 7), .ref (g 8)])), ((g 4), .inl ((cG 4), 12, .inl (f 4))), ((g 5), .inl ((cG 5), 12, .inl (f 5))), ((g 6), .inl ((cG 6), 12, .inl (f 6))), ((g 7), .inl ((cG 7), 12, .inl (f 7))), ((g 8), .inl ((cG 8), 144, .inl (f 8))), ((g 0), .inl ((cG 0), 12, .inl (f_1 0))), ((g 1), .inl ((cG 1), 12, .inl (f_2 0))), ((g 2), .inl ((cG 2), 144, .inl (f_3 0))), ((g 3), .inl ((cG 3), 12, .inl (f_4 0)))] H := hP
  have hD : va_D A [(o, .inr (4, [.int 0, .int 0, .ref (g 0), .ref (g 1), .ref (g 2), .ref (g 3), .ref (g 4), .ref (g 5), .ref (g 6), .ref (g 7), .ref (g 8)])), ((g 4), .inl ((cG 4), 12, .inl (f 4))), ((g 5), .inl ((cG 5), 12, .inl (f 5))), ((g 6), .inl ((cG 6), 12, .inl (f 6))), ((g 7), .inl ((cG 7), 12, .inl (f 7))), ((g 8), .inl ((cG 8), 144, .inl (f 8))), ((g 0), .inl ((cG 0), 12, .inl (f_1 0))), ((g 1), .inl ((cG 1), 12, .inl (f_2 0))), ((g 2), .inl ((cG 2), 144, .inl (f_3 0))), ((g 3), .inl ((cG 3), 12, .inl (f_4 0)))] := hD
  refine lv_aload_n hx hb dX4_clear_42 rfl (lv_at hl 0 rfl) ?_
  refine va_get (D := D) (ci := 4) (v := .ref (g 4)) (C := RX4) (T := TX4) (N := 11) hx hb htg in_X4 hown hK hP 0 rfl rfl 6 (by decide) (htg _ mw_123) (fun _ h9 => h9) rfl dX4_clear_43 ?_
  refine lv_iconst (v := 0) hx hb dX4_clear_46 (by decide) ?_
  have hPc := hP.sub (ws' := [((g 4), .inl ((cG 4), 12, .inl (f 4)))]) [1] rfl
  have hDc := hD.sub (ws' := [((g 4), .inl ((cG 4), 12, .inl (f 4)))]) [1] (by decide) rfl
  have hKc := hK.sub (tys' := [((cG 4), .int)]) [4] rfl
  have hFc := va_free (wc := [((g 4), .inl ((cG 4), 12, .inl (f 4)))]) hD hS hA [1] rfl
  refine va_callv (va_runS (As := [.ref (g 4), .int 0]) (rest := []) ⟨hx, hb, hml, hown, htg⟩ (c_fill l D (g 4) (cG 4) 12 (f 4) 0 (by decide) H.size) (cS 2 htg mw_119 kv_J7_fill_53178 rfl rfl ⟨(Nat.le_of_ble_eq_true rfl), (Nat.le_of_ble_eq_true rfl)⟩) ⟨bl_n, us_n hPc hKc hDc⟩ rfl rfl hl.1 rfl (lv_room (Nat.le_of_ble_eq_true rfl)) dX4_clear_47 ⟨(Nat.le_of_ble_eq_true rfl), (Nat.le_of_ble_eq_true rfl)⟩) hS (fun q _ h => hFc q h) hFc (fun u t H locs ht hvm hw hB hz1 hk1 hS => ?_)
  obtain ⟨a_5, c_5, f_5⟩ := u
  obtain ⟨hP1, hK1, hD1⟩ := hB
  rw [ht] at hP1
  have hK1 := va_K.moved hvm.symm hK1
  obtain ⟨hP, hD⟩ := va_join (wr := [(o, .inr (4, [.int 0, .int 0, .ref (g 0), .ref (g 1), .ref (g 2), .ref (g 3), .ref (g 4), .ref (g 5), .ref (g 6), .ref (g 7), .ref (g 8)])), ((g 5), .inl ((cG 5), 12, .inl (f 5))), ((g 6), .inl ((cG 6), 12, .inl (f 6))), ((g 7), .inl ((cG 7), 12, .inl (f 7))), ((g 8), .inl ((cG 8), 144, .inl (f 8))), ((g 0), .inl ((cG 0), 12, .inl (f_1 0))), ((g 1), .inl ((cG 1), 12, .inl (f_2 0))), ((g 2), .inl ((cG 2), 144, .inl (f_3 0))), ((g 3), .inl ((cG 3), 12, .inl (f_4 0)))]) (w1 := [((g 4), .inl ((cG 4), 12, .inl (f_5 0)))]) hP hD [1] [0, 2, 3, 4, 5, 6, 7, 8, 9] rfl rfl (by decide) (by decide) hk1 hFc hP1 hD1
  have hP : va_P D vwCl [(o, .inr (4, [.int 0, .int 0, .ref (g 0), .ref (g 1), .ref (g 2), .ref (g 3), .ref (g 4), .ref (g 5), .ref (g 6), .ref (g 7), .ref (g 8)])), ((g 5), .inl ((cG 5), 12, .inl (f 5))), ((g 6), .inl ((cG 6), 12, .inl (f 6))), ((g 7), .inl ((cG 7), 12, .inl (f 7))), ((g 8), .inl ((cG 8), 144, .inl (f 8))), ((g 0), .inl ((cG 0), 12, .inl (f_1 0))), ((g 1), .inl ((cG 1), 12, .inl (f_2 0))), ((g 2), .inl ((cG 2), 144, .inl (f_3 0))), ((g 3), .inl ((cG 3), 12, .inl (f_4 0))), ((g 4), .inl ((cG 4), 12, .inl (f_5 0)))] H := hP
  have hD : va_D A [(o, .inr (4, [.int 0, .int 0, .ref (g 0), .ref (g 1), .ref (g 2), .ref (g 3), .ref (g 4), .ref (g 5), .ref (g 6), .ref (g 7), .ref (g 8)])), ((g 5), .inl ((cG 5), 12, .inl (f 5))), ((g 6), .inl ((cG 6), 12, .inl (f 6))), ((g 7), .inl ((cG 7), 12, .inl (f 7))), ((g 8), .inl ((cG 8), 144, .inl (f 8))), ((g 0), .inl ((cG 0), 12, .inl (f_1 0))), ((g 1), .inl ((cG 1), 12, .inl (f_2 0))), ((g 2), .inl ((cG 2), 144, .inl (f_3 0))), ((g 3), .inl ((cG 3), 12, .inl (f_4 0))), ((g 4), .inl ((cG 4), 12, .inl (f_5 0)))] := hD
  refine lv_aload_n hx hb dX4_clear_50 rfl (lv_at hl 0 rfl) ?_
  refine va_get (D := D) (ci := 4) (v := .ref (g 5)) (C := RX4) (T := TX4) (N := 11) hx hb htg in_X4 hown hK hP 0 rfl rfl 7 (by decide) (htg _ mw_124) (fun _ h9 => h9) rfl dX4_clear_51 ?_
  refine lv_iconst (v := 0) hx hb dX4_clear_54 (by decide) ?_
  have hPc := hP.sub (ws' := [((g 5), .inl ((cG 5), 12, .inl (f 5)))]) [1] rfl
  have hDc := hD.sub (ws' := [((g 5), .inl ((cG 5), 12, .inl (f 5)))]) [1] (by decide) rfl
  have hKc := hK.sub (tys' := [((cG 5), .int)]) [5] rfl
  have hFc := va_free (wc := [((g 5), .inl ((cG 5), 12, .inl (f 5)))]) hD hS hA [1] rfl
  refine va_callv (va_runS (As := [.ref (g 5), .int 0]) (rest := []) ⟨hx, hb, hml, hown, htg⟩ (c_fill l D (g 5) (cG 5) 12 (f 5) 0 (by decide) H.size) (cS 2 htg mw_119 kv_J7_fill_53178 rfl rfl ⟨(Nat.le_of_ble_eq_true rfl), (Nat.le_of_ble_eq_true rfl)⟩) ⟨bl_n, us_n hPc hKc hDc⟩ rfl rfl hl.1 rfl (lv_room (Nat.le_of_ble_eq_true rfl)) dX4_clear_55 ⟨(Nat.le_of_ble_eq_true rfl), (Nat.le_of_ble_eq_true rfl)⟩) hS (fun q _ h => hFc q h) hFc (fun u t H locs ht hvm hw hB hz1 hk1 hS => ?_)
  obtain ⟨a_6, c_6, f_6⟩ := u
  obtain ⟨hP1, hK1, hD1⟩ := hB
  rw [ht] at hP1
  have hK1 := va_K.moved hvm.symm hK1
  obtain ⟨hP, hD⟩ := va_join (wr := [(o, .inr (4, [.int 0, .int 0, .ref (g 0), .ref (g 1), .ref (g 2), .ref (g 3), .ref (g 4), .ref (g 5), .ref (g 6), .ref (g 7), .ref (g 8)])), ((g 6), .inl ((cG 6), 12, .inl (f 6))), ((g 7), .inl ((cG 7), 12, .inl (f 7))), ((g 8), .inl ((cG 8), 144, .inl (f 8))), ((g 0), .inl ((cG 0), 12, .inl (f_1 0))), ((g 1), .inl ((cG 1), 12, .inl (f_2 0))), ((g 2), .inl ((cG 2), 144, .inl (f_3 0))), ((g 3), .inl ((cG 3), 12, .inl (f_4 0))), ((g 4), .inl ((cG 4), 12, .inl (f_5 0)))]) (w1 := [((g 5), .inl ((cG 5), 12, .inl (f_6 0)))]) hP hD [1] [0, 2, 3, 4, 5, 6, 7, 8, 9] rfl rfl (by decide) (by decide) hk1 hFc hP1 hD1
  have hP : va_P D vwCl [(o, .inr (4, [.int 0, .int 0, .ref (g 0), .ref (g 1), .ref (g 2), .ref (g 3), .ref (g 4), .ref (g 5), .ref (g 6), .ref (g 7), .ref (g 8)])), ((g 6), .inl ((cG 6), 12, .inl (f 6))), ((g 7), .inl ((cG 7), 12, .inl (f 7))), ((g 8), .inl ((cG 8), 144, .inl (f 8))), ((g 0), .inl ((cG 0), 12, .inl (f_1 0))), ((g 1), .inl ((cG 1), 12, .inl (f_2 0))), ((g 2), .inl ((cG 2), 144, .inl (f_3 0))), ((g 3), .inl ((cG 3), 12, .inl (f_4 0))), ((g 4), .inl ((cG 4), 12, .inl (f_5 0))), ((g 5), .inl ((cG 5), 12, .inl (f_6 0)))] H := hP
  have hD : va_D A [(o, .inr (4, [.int 0, .int 0, .ref (g 0), .ref (g 1), .ref (g 2), .ref (g 3), .ref (g 4), .ref (g 5), .ref (g 6), .ref (g 7), .ref (g 8)])), ((g 6), .inl ((cG 6), 12, .inl (f 6))), ((g 7), .inl ((cG 7), 12, .inl (f 7))), ((g 8), .inl ((cG 8), 144, .inl (f 8))), ((g 0), .inl ((cG 0), 12, .inl (f_1 0))), ((g 1), .inl ((cG 1), 12, .inl (f_2 0))), ((g 2), .inl ((cG 2), 144, .inl (f_3 0))), ((g 3), .inl ((cG 3), 12, .inl (f_4 0))), ((g 4), .inl ((cG 4), 12, .inl (f_5 0))), ((g 5), .inl ((cG 5), 12, .inl (f_6 0)))] := hD
  refine lv_aload_n hx hb dX4_clear_58 rfl (lv_at hl 0 rfl) ?_
  refine va_get (D := D) (ci := 4) (v := .ref (g 6)) (C := RX4) (T := TX4) (N := 11) hx hb htg in_X4 hown hK hP 0 rfl rfl 8 (by decide) (htg _ mw_125) (fun _ h9 => h9) rfl dX4_clear_59 ?_
  refine lv_iconst (v := 1) hx hb dX4_clear_62 (by decide) ?_
  have hPc := hP.sub (ws' := [((g 6), .inl ((cG 6), 12, .inl (f 6)))]) [1] rfl
  have hDc := hD.sub (ws' := [((g 6), .inl ((cG 6), 12, .inl (f 6)))]) [1] (by decide) rfl
  have hKc := hK.sub (tys' := [((cG 6), .int)]) [6] rfl
  have hFc := va_free (wc := [((g 6), .inl ((cG 6), 12, .inl (f 6)))]) hD hS hA [1] rfl
  refine va_callv (va_runS (As := [.ref (g 6), .int 1]) (rest := []) ⟨hx, hb, hml, hown, htg⟩ (c_fill l D (g 6) (cG 6) 12 (f 6) 1 (by decide) H.size) (cS 2 htg mw_119 kv_J7_fill_53178 rfl rfl ⟨(Nat.le_of_ble_eq_true rfl), (Nat.le_of_ble_eq_true rfl)⟩) ⟨bl_n, us_n hPc hKc hDc⟩ rfl rfl hl.1 rfl (lv_room (Nat.le_of_ble_eq_true rfl)) dX4_clear_63 ⟨(Nat.le_of_ble_eq_true rfl), (Nat.le_of_ble_eq_true rfl)⟩) hS (fun q _ h => hFc q h) hFc (fun u t H locs ht hvm hw hB hz1 hk1 hS => ?_)
  obtain ⟨a_7, c_7, f_7⟩ := u
  obtain ⟨hP1, hK1, hD1⟩ := hB
  rw [ht] at hP1
  have hK1 := va_K.moved hvm.symm hK1
  obtain ⟨hP, hD⟩ := va_join (wr := [(o, .inr (4, [.int 0, .int 0, .ref (g 0), .ref (g 1), .ref (g 2), .ref (g 3), .ref (g 4), .ref (g 5), .ref (g 6), .ref (g 7), .ref (g 8)])), ((g 7), .inl ((cG 7), 12, .inl (f 7))), ((g 8), .inl ((cG 8), 144, .inl (f 8))), ((g 0), .inl ((cG 0), 12, .inl (f_1 0))), ((g 1), .inl ((cG 1), 12, .inl (f_2 0))), ((g 2), .inl ((cG 2), 144, .inl (f_3 0))), ((g 3), .inl ((cG 3), 12, .inl (f_4 0))), ((g 4), .inl ((cG 4), 12, .inl (f_5 0))), ((g 5), .inl ((cG 5), 12, .inl (f_6 0)))]) (w1 := [((g 6), .inl ((cG 6), 12, .inl (f_7 0)))]) hP hD [1] [0, 2, 3, 4, 5, 6, 7, 8, 9] rfl rfl (by decide) (by decide) hk1 hFc hP1 hD1
  have hP : va_P D vwCl [(o, .inr (4, [.int 0, .int 0, .ref (g 0), .ref (g 1), .ref (g 2), .ref (g 3), .ref (g 4), .ref (g 5), .ref (g 6), .ref (g 7), .ref (g 8)])), ((g 7), .inl ((cG 7), 12, .inl (f 7))), ((g 8), .inl ((cG 8), 144, .inl (f 8))), ((g 0), .inl ((cG 0), 12, .inl (f_1 0))), ((g 1), .inl ((cG 1), 12, .inl (f_2 0))), ((g 2), .inl ((cG 2), 144, .inl (f_3 0))), ((g 3), .inl ((cG 3), 12, .inl (f_4 0))), ((g 4), .inl ((cG 4), 12, .inl (f_5 0))), ((g 5), .inl ((cG 5), 12, .inl (f_6 0))), ((g 6), .inl ((cG 6), 12, .inl (f_7 0)))] H := hP
  have hD : va_D A [(o, .inr (4, [.int 0, .int 0, .ref (g 0), .ref (g 1), .ref (g 2), .ref (g 3), .ref (g 4), .ref (g 5), .ref (g 6), .ref (g 7), .ref (g 8)])), ((g 7), .inl ((cG 7), 12, .inl (f 7))), ((g 8), .inl ((cG 8), 144, .inl (f 8))), ((g 0), .inl ((cG 0), 12, .inl (f_1 0))), ((g 1), .inl ((cG 1), 12, .inl (f_2 0))), ((g 2), .inl ((cG 2), 144, .inl (f_3 0))), ((g 3), .inl ((cG 3), 12, .inl (f_4 0))), ((g 4), .inl ((cG 4), 12, .inl (f_5 0))), ((g 5), .inl ((cG 5), 12, .inl (f_6 0))), ((g 6), .inl ((cG 6), 12, .inl (f_7 0)))] := hD
  refine lv_aload_n hx hb dX4_clear_66 rfl (lv_at hl 0 rfl) ?_
  refine va_get (D := D) (ci := 4) (v := .ref (g 7)) (C := RX4) (T := TX4) (N := 11) hx hb htg in_X4 hown hK hP 0 rfl rfl 9 (by decide) (htg _ mw_126) (fun _ h9 => h9) rfl dX4_clear_67 ?_
  refine lv_iconst (v := (-1)) hx hb dX4_clear_70 (by decide) ?_
  have hPc := hP.sub (ws' := [((g 7), .inl ((cG 7), 12, .inl (f 7)))]) [1] rfl
  have hDc := hD.sub (ws' := [((g 7), .inl ((cG 7), 12, .inl (f 7)))]) [1] (by decide) rfl
  have hKc := hK.sub (tys' := [((cG 7), .int)]) [7] rfl
  have hFc := va_free (wc := [((g 7), .inl ((cG 7), 12, .inl (f 7)))]) hD hS hA [1] rfl
  refine va_callv (va_runS (As := [.ref (g 7), .int (-1)]) (rest := []) ⟨hx, hb, hml, hown, htg⟩ (c_fill l D (g 7) (cG 7) 12 (f 7) (-1) (by decide) H.size) (cS 2 htg mw_119 kv_J7_fill_53178 rfl rfl ⟨(Nat.le_of_ble_eq_true rfl), (Nat.le_of_ble_eq_true rfl)⟩) ⟨bl_n, us_n hPc hKc hDc⟩ rfl rfl hl.1 rfl (lv_room (Nat.le_of_ble_eq_true rfl)) dX4_clear_71 ⟨(Nat.le_of_ble_eq_true rfl), (Nat.le_of_ble_eq_true rfl)⟩) hS (fun q _ h => hFc q h) hFc (fun u t H locs ht hvm hw hB hz1 hk1 hS => ?_)
  obtain ⟨a_8, c_8, f_8⟩ := u
  obtain ⟨hP1, hK1, hD1⟩ := hB
  rw [ht] at hP1
  have hK1 := va_K.moved hvm.symm hK1
  obtain ⟨hP, hD⟩ := va_join (wr := [(o, .inr (4, [.int 0, .int 0, .ref (g 0), .ref (g 1), .ref (g 2), .ref (g 3), .ref (g 4), .ref (g 5), .ref (g 6), .ref (g 7), .ref (g 8)])), ((g 8), .inl ((cG 8), 144, .inl (f 8))), ((g 0), .inl ((cG 0), 12, .inl (f_1 0))), ((g 1), .inl ((cG 1), 12, .inl (f_2 0))), ((g 2), .inl ((cG 2), 144, .inl (f_3 0))), ((g 3), .inl ((cG 3), 12, .inl (f_4 0))), ((g 4), .inl ((cG 4), 12, .inl (f_5 0))), ((g 5), .inl ((cG 5), 12, .inl (f_6 0))), ((g 6), .inl ((cG 6), 12, .inl (f_7 0)))]) (w1 := [((g 7), .inl ((cG 7), 12, .inl (f_8 0)))]) hP hD [1] [0, 2, 3, 4, 5, 6, 7, 8, 9] rfl rfl (by decide) (by decide) hk1 hFc hP1 hD1
  have hP : va_P D vwCl [(o, .inr (4, [.int 0, .int 0, .ref (g 0), .ref (g 1), .ref (g 2), .ref (g 3), .ref (g 4), .ref (g 5), .ref (g 6), .ref (g 7), .ref (g 8)])), ((g 8), .inl ((cG 8), 144, .inl (f 8))), ((g 0), .inl ((cG 0), 12, .inl (f_1 0))), ((g 1), .inl ((cG 1), 12, .inl (f_2 0))), ((g 2), .inl ((cG 2), 144, .inl (f_3 0))), ((g 3), .inl ((cG 3), 12, .inl (f_4 0))), ((g 4), .inl ((cG 4), 12, .inl (f_5 0))), ((g 5), .inl ((cG 5), 12, .inl (f_6 0))), ((g 6), .inl ((cG 6), 12, .inl (f_7 0))), ((g 7), .inl ((cG 7), 12, .inl (f_8 0)))] H := hP
  have hD : va_D A [(o, .inr (4, [.int 0, .int 0, .ref (g 0), .ref (g 1), .ref (g 2), .ref (g 3), .ref (g 4), .ref (g 5), .ref (g 6), .ref (g 7), .ref (g 8)])), ((g 8), .inl ((cG 8), 144, .inl (f 8))), ((g 0), .inl ((cG 0), 12, .inl (f_1 0))), ((g 1), .inl ((cG 1), 12, .inl (f_2 0))), ((g 2), .inl ((cG 2), 144, .inl (f_3 0))), ((g 3), .inl ((cG 3), 12, .inl (f_4 0))), ((g 4), .inl ((cG 4), 12, .inl (f_5 0))), ((g 5), .inl ((cG 5), 12, .inl (f_6 0))), ((g 6), .inl ((cG 6), 12, .inl (f_7 0))), ((g 7), .inl ((cG 7), 12, .inl (f_8 0)))] := hD
  refine lv_aload_n hx hb dX4_clear_74 rfl (lv_at hl 0 rfl) ?_
  refine va_get (D := D) (ci := 4) (v := .ref (g 8)) (C := RX4) (T := TX4) (N := 11) hx hb htg in_X4 hown hK hP 0 rfl rfl 10 (by decide) (htg _ mw_127) (fun _ h9 => h9) rfl dX4_clear_75 ?_
  refine lv_iconst (v := 0) hx hb dX4_clear_78 (by decide) ?_
  have hPc := hP.sub (ws' := [((g 8), .inl ((cG 8), 144, .inl (f 8)))]) [1] rfl
  have hDc := hD.sub (ws' := [((g 8), .inl ((cG 8), 144, .inl (f 8)))]) [1] (by decide) rfl
  have hKc := hK.sub (tys' := [((cG 8), .int)]) [8] rfl
  have hFc := va_free (wc := [((g 8), .inl ((cG 8), 144, .inl (f 8)))]) hD hS hA [1] rfl
  refine va_callv (va_runS (As := [.ref (g 8), .int 0]) (rest := []) ⟨hx, hb, hml, hown, htg⟩ (c_fill l D (g 8) (cG 8) 144 (f 8) 0 (by decide) H.size) (cS 2 htg mw_119 kv_J7_fill_53178 rfl rfl ⟨(Nat.le_of_ble_eq_true rfl), (Nat.le_of_ble_eq_true rfl)⟩) ⟨bl_n, us_n hPc hKc hDc⟩ rfl rfl hl.1 rfl (lv_room (Nat.le_of_ble_eq_true rfl)) dX4_clear_79 ⟨(Nat.le_of_ble_eq_true rfl), (Nat.le_of_ble_eq_true rfl)⟩) hS (fun q _ h => hFc q h) hFc (fun u t H locs ht hvm hw hB hz1 hk1 hS => ?_)
  obtain ⟨a_9, c_9, f_9⟩ := u
  obtain ⟨hP1, hK1, hD1⟩ := hB
  rw [ht] at hP1
  have hK1 := va_K.moved hvm.symm hK1
  obtain ⟨hP, hD⟩ := va_join (wr := [(o, .inr (4, [.int 0, .int 0, .ref (g 0), .ref (g 1), .ref (g 2), .ref (g 3), .ref (g 4), .ref (g 5), .ref (g 6), .ref (g 7), .ref (g 8)])), ((g 0), .inl ((cG 0), 12, .inl (f_1 0))), ((g 1), .inl ((cG 1), 12, .inl (f_2 0))), ((g 2), .inl ((cG 2), 144, .inl (f_3 0))), ((g 3), .inl ((cG 3), 12, .inl (f_4 0))), ((g 4), .inl ((cG 4), 12, .inl (f_5 0))), ((g 5), .inl ((cG 5), 12, .inl (f_6 0))), ((g 6), .inl ((cG 6), 12, .inl (f_7 0))), ((g 7), .inl ((cG 7), 12, .inl (f_8 0)))]) (w1 := [((g 8), .inl ((cG 8), 144, .inl (f_9 0)))]) hP hD [1] [0, 2, 3, 4, 5, 6, 7, 8, 9] rfl rfl (by decide) (by decide) hk1 hFc hP1 hD1
  have hP : va_P D vwCl [(o, .inr (4, [.int 0, .int 0, .ref (g 0), .ref (g 1), .ref (g 2), .ref (g 3), .ref (g 4), .ref (g 5), .ref (g 6), .ref (g 7), .ref (g 8)])), ((g 0), .inl ((cG 0), 12, .inl (f_1 0))), ((g 1), .inl ((cG 1), 12, .inl (f_2 0))), ((g 2), .inl ((cG 2), 144, .inl (f_3 0))), ((g 3), .inl ((cG 3), 12, .inl (f_4 0))), ((g 4), .inl ((cG 4), 12, .inl (f_5 0))), ((g 5), .inl ((cG 5), 12, .inl (f_6 0))), ((g 6), .inl ((cG 6), 12, .inl (f_7 0))), ((g 7), .inl ((cG 7), 12, .inl (f_8 0))), ((g 8), .inl ((cG 8), 144, .inl (f_9 0)))] H := hP
  have hD : va_D A [(o, .inr (4, [.int 0, .int 0, .ref (g 0), .ref (g 1), .ref (g 2), .ref (g 3), .ref (g 4), .ref (g 5), .ref (g 6), .ref (g 7), .ref (g 8)])), ((g 0), .inl ((cG 0), 12, .inl (f_1 0))), ((g 1), .inl ((cG 1), 12, .inl (f_2 0))), ((g 2), .inl ((cG 2), 144, .inl (f_3 0))), ((g 3), .inl ((cG 3), 12, .inl (f_4 0))), ((g 4), .inl ((cG 4), 12, .inl (f_5 0))), ((g 5), .inl ((cG 5), 12, .inl (f_6 0))), ((g 6), .inl ((cG 6), 12, .inl (f_7 0))), ((g 7), .inl ((cG 7), 12, .inl (f_8 0))), ((g 8), .inl ((cG 8), 144, .inl (f_9 0)))] := hD
  exact W.vret hx hb hr (fun t ht hW => ⟨⟨((fun _ => 0), (fun _ => 0), (fun k => [(fun _ => 0), (f_1 0), (f_2 0), (f_3 0), (f_4 0), (f_5 0), (f_6 0), (f_7 0), (f_8 0), (f_9 0)].getD k (fun _ => 0))), rfl, trivial, by rw [ht]; exact hP, va_K.moved hW.alike hK, hD⟩, hS.F ht⟩) hS.2.2 dX4_clear_82

set_option maxHeartbeats 4000000 in
set_option maxRecDepth 100000 in
theorem c_X4_isReadFrom (l : Launch) (D : va_G) (o : Nat) (g : Nat → Nat) (cG : Nat → ClassId) (f : Nat → Nat → Int32) (tp tb : Nat) (sz : Nat) : Met l yX4_isReadFrom (.code yX4_isReadFrom cX4_isReadFrom 2 (some .boolean) :: gw) ({ frames := 2, cells := 0, slots := 0, locals := 80 }) (va_Pc [.ref o, .ref tp] (pn D sz [(o, .inr (4, [.int 0, .int 0, .ref (g 0), .ref (g 1), .ref (g 2), .ref (g 3), .ref (g 4), .ref (g 5), .ref (g 6), .ref (g 7), .ref (g 8)])), ((g 0), .inl ((cG 0), 12, .inl (f 0))), ((g 1), .inl ((cG 1), 12, .inl (f 1))), ((g 2), .inl ((cG 2), 144, .inl (f 2))), ((g 3), .inl ((cG 3), 12, .inl (f 3))), ((g 4), .inl ((cG 4), 12, .inl (f 4))), ((g 5), .inl ((cG 5), 12, .inl (f 5))), ((g 6), .inl ((cG 6), 12, .inl (f 6))), ((g 7), .inl ((cG 7), 12, .inl (f 7))), ((g 8), .inl ((cG 8), 144, .inl (f 8))), (tp, .inr (6, [.ref tb, .int 0, .int 0]))] [((cG 0), .int), ((cG 1), .int), ((cG 2), .int), ((cG 3), .int), ((cG 4), .int), ((cG 5), .int), ((cG 6), .int), ((cG 7), .int), ((cG 8), .int)])) (va_Qi (fun r (_ : vU) => r = 0) (fun u t => nw D (va_A [(o, .inr (4, [.int 0, .int 0, .ref (g 0), .ref (g 1), .ref (g 2), .ref (g 3), .ref (g 4), .ref (g 5), .ref (g 6), .ref (g 7), .ref (g 8)])), ((g 0), .inl ((cG 0), 12, .inl (f 0))), ((g 1), .inl ((cG 1), 12, .inl (f 1))), ((g 2), .inl ((cG 2), 144, .inl (f 2))), ((g 3), .inl ((cG 3), 12, .inl (f 3))), ((g 4), .inl ((cG 4), 12, .inl (f 4))), ((g 5), .inl ((cG 5), 12, .inl (f 5))), ((g 6), .inl ((cG 6), 12, .inl (f 6))), ((g 7), .inl ((cG 7), 12, .inl (f 7))), ((g 8), .inl ((cG 8), 144, .inl (f 8))), (tp, .inr (6, [.ref tb, .int 0, .int 0]))] sz) [(o, .inr (4, [.int 0, .int 0, .ref (g 0), .ref (g 1), .ref (g 2), .ref (g 3), .ref (g 4), .ref (g 5), .ref (g 6), .ref (g 7), .ref (g 8)])), ((g 0), .inl ((cG 0), 12, .inl (u.2.2 1))), ((g 1), .inl ((cG 1), 12, .inl (u.2.2 2))), ((g 2), .inl ((cG 2), 144, .inl (u.2.2 3))), ((g 3), .inl ((cG 3), 12, .inl (u.2.2 4))), ((g 4), .inl ((cG 4), 12, .inl (u.2.2 5))), ((g 5), .inl ((cG 5), 12, .inl (u.2.2 6))), ((g 6), .inl ((cG 6), 12, .inl (u.2.2 7))), ((g 7), .inl ((cG 7), 12, .inl (u.2.2 8))), ((g 8), .inl ((cG 8), 144, .inl (u.2.2 9))), (tp, .inr (6, [.ref tb, .int 0, .int 0]))] [((cG 0), .int), ((cG 1), .int), ((cG 2), .int), ((cG 3), .int), ((cG 4), .int), ((cG 5), .int), ((cG 6), .int), ((cG 7), .int), ((cG 8), .int)] t) (va_A [(o, .inr (4, [.int 0, .int 0, .ref (g 0), .ref (g 1), .ref (g 2), .ref (g 3), .ref (g 4), .ref (g 5), .ref (g 6), .ref (g 7), .ref (g 8)])), ((g 0), .inl ((cG 0), 12, .inl (f 0))), ((g 1), .inl ((cG 1), 12, .inl (f 1))), ((g 2), .inl ((cG 2), 144, .inl (f 2))), ((g 3), .inl ((cG 3), 12, .inl (f 3))), ((g 4), .inl ((cG 4), 12, .inl (f 4))), ((g 5), .inl ((cG 5), 12, .inl (f 5))), ((g 6), .inl ((cG 6), 12, .inl (f 6))), ((g 7), .inl ((cG 7), 12, .inl (f 7))), ((g 8), .inl ((cG 8), 144, .inl (f 8))), (tp, .inr (6, [.ref tb, .int 0, .int 0]))] sz)) 0 0 (va_A [(o, .inr (4, [.int 0, .int 0, .ref (g 0), .ref (g 1), .ref (g 2), .ref (g 3), .ref (g 4), .ref (g 5), .ref (g 6), .ref (g 7), .ref (g 8)])), ((g 0), .inl ((cG 0), 12, .inl (f 0))), ((g 1), .inl ((cG 1), 12, .inl (f 1))), ((g 2), .inl ((cG 2), 144, .inl (f 2))), ((g 3), .inl ((cG 3), 12, .inl (f 3))), ((g 4), .inl ((cG 4), 12, .inl (f 4))), ((g 5), .inl ((cG 5), 12, .inl (f 5))), ((g 6), .inl ((cG 6), 12, .inl (f 6))), ((g 7), .inl ((cG 7), 12, .inl (f 7))), ((g 8), .inl ((cG 8), 144, .inl (f 8))), (tp, .inr (6, [.ref tb, .int 0, .int 0]))] sz) := by
  refine Met.ofW (cc := cX4_isReadFrom) (maxL := 2) (ret := (some .boolean)) (by decide) rfl ?_
  intro p e s m args below meth c s₁ B hml hv
  obtain ⟨rfl, hsz, hP, hK, hD0⟩ := hv
  have hx := B.exec
  have hb := B.bytes
  have hr := B.returns
  have hts := atoms_spec (ws := .code yX4_isReadFrom cX4_isReadFrom 2 (some .boolean) :: gw) B.pre
  have htg := gw_tl hts
  have hown : s.vm.findClass RX4 = some m.cls := findClass_of_methodNamed B.named
  have hlocks := B.notSynchronized
  subst hsz
  have hD := hD0.self (sz := s.heap.size)
  generalize hAe : va_A [(o, .inr (4, [.int 0, .int 0, .ref (g 0), .ref (g 1), .ref (g 2), .ref (g 3), .ref (g 4), .ref (g 5), .ref (g 6), .ref (g 7), .ref (g 8)])), ((g 0), .inl ((cG 0), 12, .inl (f 0))), ((g 1), .inl ((cG 1), 12, .inl (f 1))), ((g 2), .inl ((cG 2), 144, .inl (f 2))), ((g 3), .inl ((cG 3), 12, .inl (f 3))), ((g 4), .inl ((cG 4), 12, .inl (f 4))), ((g 5), .inl ((cG 5), 12, .inl (f 5))), ((g 6), .inl ((cG 6), 12, .inl (f 6))), ((g 7), .inl ((cG 7), 12, .inl (f 7))), ((g 8), .inl ((cG 8), 144, .inl (f 8))), (tp, .inr (6, [.ref tb, .int 0, .int 0]))] s.heap.size = A at hD ⊢
  have hA : ∀ q : Nat, s.heap.size ≤ q → A q := fun q h => by rw [← hAe]; exact Or.inr h
  have hS : va_S A s.heap s.heap [] := va_S.rf
  have hl := lv_entry ([.ref o, .ref tp]) (n := 2) (Nat.le_of_ble_eq_true rfl)
  rw [lg_entry_eq]
  generalize (lg_sl ([.ref o, .ref tp]) ++ List.replicate (2 - (lg_sl ([.ref o, .ref tp])).length) Slot.unset).toArray = ls at hl ⊢
  have hl : lv_has ls 2 [(0, .ref o), (1, .ref tp)] := hl
  refine lv_aload_n hx hb dX4_isReadFrom_0 rfl (lv_at hl 0 rfl) ?_
  have hPc := hP.sub (ws' := [(o, .inr (4, [.int 0, .int 0, .ref (g 0), .ref (g 1), .ref (g 2), .ref (g 3), .ref (g 4), .ref (g 5), .ref (g 6), .ref (g 7), .ref (g 8)])), ((g 0), .inl ((cG 0), 12, .inl (f 0))), ((g 1), .inl ((cG 1), 12, .inl (f 1))), ((g 2), .inl ((cG 2), 144, .inl (f 2))), ((g 3), .inl ((cG 3), 12, .inl (f 3))), ((g 4), .inl ((cG 4), 12, .inl (f 4))), ((g 5), .inl ((cG 5), 12, .inl (f 5))), ((g 6), .inl ((cG 6), 12, .inl (f 6))), ((g 7), .inl ((cG 7), 12, .inl (f 7))), ((g 8), .inl ((cG 8), 144, .inl (f 8)))]) [0, 1, 2, 3, 4, 5, 6, 7, 8, 9] rfl
  have hDc := hD.sub (ws' := [(o, .inr (4, [.int 0, .int 0, .ref (g 0), .ref (g 1), .ref (g 2), .ref (g 3), .ref (g 4), .ref (g 5), .ref (g 6), .ref (g 7), .ref (g 8)])), ((g 0), .inl ((cG 0), 12, .inl (f 0))), ((g 1), .inl ((cG 1), 12, .inl (f 1))), ((g 2), .inl ((cG 2), 144, .inl (f 2))), ((g 3), .inl ((cG 3), 12, .inl (f 3))), ((g 4), .inl ((cG 4), 12, .inl (f 4))), ((g 5), .inl ((cG 5), 12, .inl (f 5))), ((g 6), .inl ((cG 6), 12, .inl (f 6))), ((g 7), .inl ((cG 7), 12, .inl (f 7))), ((g 8), .inl ((cG 8), 144, .inl (f 8)))]) [0, 1, 2, 3, 4, 5, 6, 7, 8, 9] (by decide) rfl
  have hKc := hK.sub (tys' := [((cG 0), .int), ((cG 1), .int), ((cG 2), .int), ((cG 3), .int), ((cG 4), .int), ((cG 5), .int), ((cG 6), .int), ((cG 7), .int), ((cG 8), .int)]) [0, 1, 2, 3, 4, 5, 6, 7, 8] rfl
  have hFc := va_free (wc := [(o, .inr (4, [.int 0, .int 0, .ref (g 0), .ref (g 1), .ref (g 2), .ref (g 3), .ref (g 4), .ref (g 5), .ref (g 6), .ref (g 7), .ref (g 8)])), ((g 0), .inl ((cG 0), 12, .inl (f 0))), ((g 1), .inl ((cG 1), 12, .inl (f 1))), ((g 2), .inl ((cG 2), 144, .inl (f 2))), ((g 3), .inl ((cG 3), 12, .inl (f 3))), ((g 4), .inl ((cG 4), 12, .inl (f 4))), ((g 5), .inl ((cG 5), 12, .inl (f 5))), ((g 6), .inl ((cG 6), 12, .inl (f 6))), ((g 7), .inl ((cG 7), 12, .inl (f 7))), ((g 8), .inl ((cG 8), 144, .inl (f 8)))]) hD hS hA [0, 1, 2, 3, 4, 5, 6, 7, 8, 9] rfl
  refine va_callv (va_runV (As := []) (rest := []) ⟨hx, hb, hml, hown, htg⟩ (c_X4_clear l D o (fun k => [(g 0), (g 1), (g 2), (g 3), (g 4), (g 5), (g 6), (g 7), (g 8)].getD k 0) (fun k => [(cG 0), (cG 1), (cG 2), (cG 3), (cG 4), (cG 5), (cG 6), (cG 7), (cG 8)].getD k 0) (fun k => [(f 0), (f 1), (f 2), (f 3), (f 4), (f 5), (f 6), (f 7), (f 8)].getD k (fun _ => 0)) s.heap.size) (cV 0 htg mw_131 kv_X4_clear rfl rfl ⟨(Nat.le_of_ble_eq_true rfl), (Nat.le_of_ble_eq_true rfl)⟩) ⟨bl_n, va_recv hKc hPc (ci := 4) (q0 := 0) rfl rfl, us_n hPc hKc hDc⟩ rfl rfl hl.1 rfl (lv_room (Nat.le_of_ble_eq_true rfl)) dX4_isReadFrom_1 ⟨(Nat.le_of_ble_eq_true rfl), (Nat.le_of_ble_eq_true rfl)⟩) hS (fun q _ h => hFc q h) hFc (fun u t H locs ht hvm hw hB hz1 hk1 hS => ?_)
  obtain ⟨a_1, c_1, f_1⟩ := u
  obtain ⟨hP1, hK1, hD1⟩ := hB
  rw [ht] at hP1
  have hK1 := va_K.moved hvm.symm hK1
  obtain ⟨hP, hD⟩ := va_join (wr := [(tp, .inr (6, [.ref tb, .int 0, .int 0]))]) (w1 := [(o, .inr (4, [.int 0, .int 0, .ref (g 0), .ref (g 1), .ref (g 2), .ref (g 3), .ref (g 4), .ref (g 5), .ref (g 6), .ref (g 7), .ref (g 8)])), ((g 0), .inl ((cG 0), 12, .inl (f_1 1))), ((g 1), .inl ((cG 1), 12, .inl (f_1 2))), ((g 2), .inl ((cG 2), 144, .inl (f_1 3))), ((g 3), .inl ((cG 3), 12, .inl (f_1 4))), ((g 4), .inl ((cG 4), 12, .inl (f_1 5))), ((g 5), .inl ((cG 5), 12, .inl (f_1 6))), ((g 6), .inl ((cG 6), 12, .inl (f_1 7))), ((g 7), .inl ((cG 7), 12, .inl (f_1 8))), ((g 8), .inl ((cG 8), 144, .inl (f_1 9)))]) hP hD [0, 1, 2, 3, 4, 5, 6, 7, 8, 9] [10] rfl rfl (by decide) (by decide) hk1 hFc hP1 hD1
  have hP : va_P D vwCl [(tp, .inr (6, [.ref tb, .int 0, .int 0])), (o, .inr (4, [.int 0, .int 0, .ref (g 0), .ref (g 1), .ref (g 2), .ref (g 3), .ref (g 4), .ref (g 5), .ref (g 6), .ref (g 7), .ref (g 8)])), ((g 0), .inl ((cG 0), 12, .inl (f_1 1))), ((g 1), .inl ((cG 1), 12, .inl (f_1 2))), ((g 2), .inl ((cG 2), 144, .inl (f_1 3))), ((g 3), .inl ((cG 3), 12, .inl (f_1 4))), ((g 4), .inl ((cG 4), 12, .inl (f_1 5))), ((g 5), .inl ((cG 5), 12, .inl (f_1 6))), ((g 6), .inl ((cG 6), 12, .inl (f_1 7))), ((g 7), .inl ((cG 7), 12, .inl (f_1 8))), ((g 8), .inl ((cG 8), 144, .inl (f_1 9)))] H := hP
  have hD : va_D A [(tp, .inr (6, [.ref tb, .int 0, .int 0])), (o, .inr (4, [.int 0, .int 0, .ref (g 0), .ref (g 1), .ref (g 2), .ref (g 3), .ref (g 4), .ref (g 5), .ref (g 6), .ref (g 7), .ref (g 8)])), ((g 0), .inl ((cG 0), 12, .inl (f_1 1))), ((g 1), .inl ((cG 1), 12, .inl (f_1 2))), ((g 2), .inl ((cG 2), 144, .inl (f_1 3))), ((g 3), .inl ((cG 3), 12, .inl (f_1 4))), ((g 4), .inl ((cG 4), 12, .inl (f_1 5))), ((g 5), .inl ((cG 5), 12, .inl (f_1 6))), ((g 6), .inl ((cG 6), 12, .inl (f_1 7))), ((g 7), .inl ((cG 7), 12, .inl (f_1 8))), ((g 8), .inl ((cG 8), 144, .inl (f_1 9)))] := hD
  refine lv_aload_n hx hb dX4_isReadFrom_4 rfl (lv_at hl 1 rfl) ?_
  refine lv_iconst (v := 0) hx hb dX4_isReadFrom_5 (by decide) ?_
  refine va_put (D := D) (ci := 6) (v := .int 0) (ty := .int) (C := RX6) (T := TX6) (N := 3) hx hb htg in_X6 tyX6 tyX6_ok nmX6 hown hK hP hD hS 0 rfl rfl 2 (by decide) (htg _ mw_132) (fun _ h9 => h9) rfl (by decide +kernel) rfl rfl (Nat.le_of_ble_eq_true rfl) dX4_isReadFrom_6 (fun H locs hP hD hS => ?_)
  have hP : va_P D vwCl [(tp, .inr (6, [.ref tb, .int 0, .int 0])), (o, .inr (4, [.int 0, .int 0, .ref (g 0), .ref (g 1), .ref (g 2), .ref (g 3), .ref (g 4), .ref (g 5), .ref (g 6), .ref (g 7), .ref (g 8)])), ((g 0), .inl ((cG 0), 12, .inl (f_1 1))), ((g 1), .inl ((cG 1), 12, .inl (f_1 2))), ((g 2), .inl ((cG 2), 144, .inl (f_1 3))), ((g 3), .inl ((cG 3), 12, .inl (f_1 4))), ((g 4), .inl ((cG 4), 12, .inl (f_1 5))), ((g 5), .inl ((cG 5), 12, .inl (f_1 6))), ((g 6), .inl ((cG 6), 12, .inl (f_1 7))), ((g 7), .inl ((cG 7), 12, .inl (f_1 8))), ((g 8), .inl ((cG 8), 144, .inl (f_1 9)))] H := hP
  have hD : va_D A [(tp, .inr (6, [.ref tb, .int 0, .int 0])), (o, .inr (4, [.int 0, .int 0, .ref (g 0), .ref (g 1), .ref (g 2), .ref (g 3), .ref (g 4), .ref (g 5), .ref (g 6), .ref (g 7), .ref (g 8)])), ((g 0), .inl ((cG 0), 12, .inl (f_1 1))), ((g 1), .inl ((cG 1), 12, .inl (f_1 2))), ((g 2), .inl ((cG 2), 144, .inl (f_1 3))), ((g 3), .inl ((cG 3), 12, .inl (f_1 4))), ((g 4), .inl ((cG 4), 12, .inl (f_1 5))), ((g 5), .inl ((cG 5), 12, .inl (f_1 6))), ((g 6), .inl ((cG 6), 12, .inl (f_1 7))), ((g 7), .inl ((cG 7), 12, .inl (f_1 8))), ((g 8), .inl ((cG 8), 144, .inl (f_1 9)))] := hD
  refine lv_aload_n hx hb dX4_isReadFrom_9 rfl (lv_at hl 0 rfl) ?_
  refine lv_aload_n hx hb dX4_isReadFrom_10 rfl (lv_at hl 1 rfl) ?_
  have hPc := hP.sub (ws' := [(o, .inr (4, [.int 0, .int 0, .ref (g 0), .ref (g 1), .ref (g 2), .ref (g 3), .ref (g 4), .ref (g 5), .ref (g 6), .ref (g 7), .ref (g 8)])), (tp, .inr (6, [.ref tb, .int 0, .int 0]))]) [1, 0] rfl
  have hKc := hK.sub (tys' := []) [] rfl
  refine va_calli (va_runV (As := [.ref tp]) (rest := []) ⟨hx, hb, hml, hown, htg⟩ (c_X4_readSeats l D o [.ref (g 0), .ref (g 1), .ref (g 2), .ref (g 3), .ref (g 4), .ref (g 5), .ref (g 6), .ref (g 7), .ref (g 8)]  tp tb) (cV 1 htg mw_136 kv_X4_readSeats rfl rfl ⟨(Nat.le_of_ble_eq_true rfl), (Nat.le_of_ble_eq_true rfl)⟩) ⟨bl_r, va_recv hKc hPc (ci := 4) (q0 := 0) rfl rfl, us_r hPc hKc⟩ rfl rfl hl.1 rfl (lv_room (Nat.le_of_ble_eq_true rfl)) dX4_isReadFrom_11 ⟨(Nat.le_of_ble_eq_true rfl), (Nat.le_of_ble_eq_true rfl)⟩) hS (fun _ _ h9 => False.elim h9) (fun _ h9 => False.elim h9) (fun r_2 u t H locs ht hvm hw hB hz1 hk1 hS => ?_)
  have hP := ro_keep hP hk1
  subst hw
  refine lv_if_eq (tgt := 29) hx hb dX4_isReadFrom_14 (by decide) (fun _ => ?_) (fun h9 => False.elim (h9 (by decide)))
  refine lv_iconst (v := 0) hx hb dX4_isReadFrom_29 (by decide) ?_
  have hP := hP.sub (ws' := [(o, .inr (4, [.int 0, .int 0, .ref (g 0), .ref (g 1), .ref (g 2), .ref (g 3), .ref (g 4), .ref (g 5), .ref (g 6), .ref (g 7), .ref (g 8)])), ((g 0), .inl ((cG 0), 12, .inl (f_1 1))), ((g 1), .inl ((cG 1), 12, .inl (f_1 2))), ((g 2), .inl ((cG 2), 144, .inl (f_1 3))), ((g 3), .inl ((cG 3), 12, .inl (f_1 4))), ((g 4), .inl ((cG 4), 12, .inl (f_1 5))), ((g 5), .inl ((cG 5), 12, .inl (f_1 6))), ((g 6), .inl ((cG 6), 12, .inl (f_1 7))), ((g 7), .inl ((cG 7), 12, .inl (f_1 8))), ((g 8), .inl ((cG 8), 144, .inl (f_1 9))), (tp, .inr (6, [.ref tb, .int 0, .int 0]))]) [1, 2, 3, 4, 5, 6, 7, 8, 9, 10, 0] rfl
  have hD := hD.sub (ws' := [(o, .inr (4, [.int 0, .int 0, .ref (g 0), .ref (g 1), .ref (g 2), .ref (g 3), .ref (g 4), .ref (g 5), .ref (g 6), .ref (g 7), .ref (g 8)])), ((g 0), .inl ((cG 0), 12, .inl (f_1 1))), ((g 1), .inl ((cG 1), 12, .inl (f_1 2))), ((g 2), .inl ((cG 2), 144, .inl (f_1 3))), ((g 3), .inl ((cG 3), 12, .inl (f_1 4))), ((g 4), .inl ((cG 4), 12, .inl (f_1 5))), ((g 5), .inl ((cG 5), 12, .inl (f_1 6))), ((g 6), .inl ((cG 6), 12, .inl (f_1 7))), ((g 7), .inl ((cG 7), 12, .inl (f_1 8))), ((g 8), .inl ((cG 8), 144, .inl (f_1 9))), (tp, .inr (6, [.ref tb, .int 0, .int 0]))]) [1, 2, 3, 4, 5, 6, 7, 8, 9, 10, 0] (by decide) rfl
  exact W.zret (v := 0) hx hb hr (by first | rfl | decide | exact ar_nb _) (fun t ht hW => ⟨⟨0, ((fun _ => 0), (fun _ => 0), (fun k => [(fun _ => 0), (f_1 1), (f_1 2), (f_1 3), (f_1 4), (f_1 5), (f_1 6), (f_1 7), (f_1 8), (f_1 9), (fun _ => 0)].getD k (fun _ => 0))), rfl, rfl, by rw [ht]; exact hP, va_K.moved hW.alike hK, hD⟩, hS.F ht⟩) hS.2.2 dX4_isReadFrom_30
end
